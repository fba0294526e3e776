theorem gtC_ne {my : Nat → Int32} {set : Int32} : ∀ m i q, i ≤ q → q < gtC my set i m → lfN my set q ≠ 0
  | 0, i, q, h1, h2 => by
    rw [gtC] at h2
    omega
  | m + 1, i, q, h1, h2 => by
    rw [gtC] at h2
    by_cases e : lfN my set i = 0
    · rw [if_pos e] at h2
      omega
    · rw [if_neg e] at h2
      by_cases e2 : i = q
      · exact e2 ▸ e
      · exact gtC_ne m (i + 1) q (by omega) h2
theorem dnN_n {my : Nat → Int32} {x c q : Nat} (hc : c ≤ 6) (hx : x < 2 ^ c) (hm : ∀ m, m < 2 ^ c → ∀ i, i < 6 → sHas (nI m) (nI i) = true → my i ≤ 18) (h : q < gtM my (nI x)) : ∃ d, d < c ∧ dnN my (nI x) q = nI d := by
  have h6 : 2 ^ c ≤ 2 ^ 6 := Nat.pow_le_pow_right (by decide) hc
  have h1 := gtC_ne 6 0 q (Nat.zero_le _) h
  obtain ⟨m, h2, h3, _⟩ := lfN_n hc hx hm q
  obtain ⟨d, h4, h5, h7⟩ := sDown_ex (hm m h3) (fun e => h1 (by rw [h2, e]; rfl)) (by omega)
  refine ⟨d, lt_c hc h3 h4 h7, ?_⟩
  unfold dnN
  rw [h2]
  exact h5
def ahF (th : Int32) (hs : Nat → Int32) (p : Nat) : Nat → Int32 := fun q => if sHas th (nI q) && (decide (hs p < hs q) || (decide (hs q = hs p) && !decide (nI p ≤ nI q))) then 1 else 0
def llF (th : Int32) (hs : Nat → Int32) (c : Nat) : Nat → Int32 := fun p => if sHas th (nI p) then hs p * sumN (ahF th hs p) c else 0
def exN (f : Nat → Bool) : Nat → Bool
  | 0 => false
  | q + 1 => exN f q || f q
def lbN (t : Nat → Bool) : Nat → Int32
  | 0 => -9
  | m + 1 => if t (9 - m) then nI (9 - m) else lbN t m
def letT (I F : Nat → Nat → Int32) (x p kk : Nat) : Nat → Bool := fun v => exN (fun q => decide (dnN (myM I (st_F F 6 (upd (F 6) p (nI v)))) (nI x) q = nI p)) (min (kk + 1) (gtM (myM I (st_F F 6 (upd (F 6) p (nI v)))) (nI x)))
theorem SM_6 {I F I1 F1 : Nat → Nat → Int32} {p : Nat} {y : Int32} (z : Int32) (h : SM I (st_F F 6 (upd (F 6) p y)) I1 F1) : SM I (st_F F 6 (upd (F 6) p z)) I1 (st_F F1 6 (upd (F1 6) p z)) := by
  refine ⟨h.1, fun a h1 h2 h3 h4 => ?_⟩
  by_cases e : a = 6
  · subst e
    rw [st_Fs, st_Fs, h.2 6 h1 h2 h3 h4, st_Fs, upd_upd]
  · rw [st_Fn e, st_Fn e, h.2 a h1 h2 h3 h4, st_Fn e]
theorem SM_60 {I F I1 F1 : Nat → Nat → Int32} {p : Nat} {y : Int32} (h : SM I (st_F F 6 (upd (F 6) p y)) I1 F1) : SM I F I1 (st_F F1 6 (upd (F1 6) p (F 6 p))) := by
  have h2 := SM_6 (F 6 p) h
  rw [upd_self, st_F0] at h2
  exact h2
theorem HH_6 {F : Nat → Nat → Int32} {c : Nat} {g : Nat → Int32} (h : HH F c) : HH (st_F F 6 g) c := h

set_option maxRecDepth 100000 in
set_option maxHeartbeats 4000000 in
theorem c_X9_order {l : Launch} {D : va_G} {tc : Nat → ClassId} (I F : Nat → Nat → Int32) {c : Nat} (hc : c ≤ 6) (hI5 : I 0 5 = nI c) {x : Nat} (hx : x < 2 ^ c) (hI7 : I 0 7 = nI x) (hH : HH F c) (y w : Int32) : AM l D tc yX9_order cX9_order 3 (some .int) 4 87 0 0 [.ref 0, .int y, .int w] 15 (hM I F) (fun v n1 h1 => n1 = 15 ∧ (∃ I1 F1, h1 = hM I1 F1 ∧ SM I F I1 F1 ∧ v = some (.int (if sW y 0 5 && sW w 0 1 then (if I 0 5 = 0 then -3 else if y < nI (gtM (myM I F) (nI x)) then (if w = 0 then dnN (myM I F) (nI x) y.toNatClampNeg else frN (myM I F) (nI x) y.toNatClampNeg) else -9) else -2)))) := by
  refine am_of (L := [some (.ref 0), some (.int y), some (.int w)]) (by decide +kernel) (Nat.le_of_ble_eq_true rfl) rfl ?_
  refine aw_iload_n dX9_order_0 rfl rfl ?_
  refine aw_iconst (v := 0) dX9_order_1 (by decide) ?_
  refine aw_iconst (v := 5) dX9_order_2 (by decide) ?_
  refine aw_callS cw_X9_within ml_X9_58 sm_X9_within (c_X9_within _ _ _ _ _) ⟨Nat.le_of_ble_eq_true rfl, Nat.le_of_ble_eq_true rfl⟩ ⟨Nat.zero_le _, Nat.zero_le _⟩ rfl rfl (Nat.le_of_ble_eq_true rfl) dX9_order_3 ?_
  rintro _ _ ⟨rfl, rfl⟩
  refine aw_ifB_eq (tgt := 18) dX9_order_6 (by decide) (fun c_6 => ?_) (fun c_6 => ?_)
  · refine aw_bipush (v := (-2)) dX9_order_18 (by decide) ?_
    refine aw_iret dX9_order_20 (Nat.zero_le _) (Nat.zero_le _) ?_
    refine ⟨rfl, _, _, rfl, SM_refl I F, ?_⟩
    rw [if_neg (by simp [*])]
  · refine aw_iload_n dX9_order_9 rfl rfl ?_
    refine aw_iconst (v := 0) dX9_order_10 (by decide) ?_
    refine aw_iconst (v := 1) dX9_order_11 (by decide) ?_
    refine aw_callS cw_X9_within ml_X9_58 sm_X9_within (c_X9_within _ _ _ _ _) ⟨Nat.le_of_ble_eq_true rfl, Nat.le_of_ble_eq_true rfl⟩ ⟨Nat.zero_le _, Nat.zero_le _⟩ rfl rfl (Nat.le_of_ble_eq_true rfl) dX9_order_12 ?_
    rintro _ _ ⟨rfl, rfl⟩
    refine aw_ifB_ne (tgt := 21) dX9_order_15 (by decide) (fun c_15 => ?_) (fun c_15 => ?_)
    · refine aw_aload_n dX9_order_21 rfl rfl ?_
      refine aw_get fd_X9_62_9 dX9_order_22 (by decide) rfl rfl ?_
      refine aw_if_ne (tgt := 31) dX9_order_25 (by decide) (fun c_25 => ?_) (fun c_25 => ?_)
      · refine aw_aload_n dX9_order_31 rfl rfl ?_
        refine aw_callV cw_X9_findOrder ml_X9_165 im_X9_findOrder sl_X9_X9_findOrder rfl (by decide) rfl (c_X9_findOrder _ _ hc hI5 hx hI7 hH) ⟨Nat.le_of_ble_eq_true rfl, Nat.le_of_ble_eq_true rfl⟩ ⟨Nat.zero_le _, Nat.zero_le _⟩ rfl rfl (Nat.le_of_ble_eq_true rfl) dX9_order_32 ?_
        rintro _ _ ⟨rfl, I1, F1, rfl, hS, h22, hF⟩
        refine aw_iload_n dX9_order_35 rfl rfl ?_
        refine aw_aload_n dX9_order_36 rfl rfl ?_
        refine aw_get fd_X9_162_9 dX9_order_37 (by decide) rfl rfl ?_
        rw [h22]
        refine aw_icmp_lt (tgt := 46) dX9_order_40 (by decide) (fun c_40 => ?_) (fun c_40 => ?_)
        · obtain ⟨a, ha, rfl⟩ := sW_ex (m := 5) (by decide) c_6
          have ha2 : a < gtM (myM I F) (nI x) := by
            have hg := gtM_le (myM I F) (nI x)
            exact Classical.byContradiction fun q9 => (Int32.not_le.mpr c_40) (nI_le (by omega) (by omega))
          have hF := hF a ha2
          refine aw_iload_n dX9_order_46 rfl rfl ?_
          refine aw_if_ne (tgt := 59) dX9_order_47 (by decide) (fun c_47 => ?_) (fun c_47 => ?_)
          · refine aw_aload_n dX9_order_59 rfl rfl ?_
            refine aw_get fd_X9_37_9 dX9_order_60 (by decide) rfl rfl ?_
            refine aw_iload_n dX9_order_63 rfl rfl ?_
            refine aw_iald dX9_order_64 (by decide) rfl (vp_in_nI (by omega) (by decide)) ?_
            refine aw_iret dX9_order_65 (Nat.zero_le _) (Nat.zero_le _) ?_
            refine ⟨rfl, _, _, rfl, hS, ?_⟩
            rw [if_pos (show (sW (nI a) 0 5 && sW w 0 1) = true by rw [c_15, c_6]; rfl), if_neg c_25, if_pos c_40, nI_clamp (show a < 2 ^ 31 by omega)]
            first | (rw [if_pos c_47, hF.1]) | (rw [if_neg c_47, hF.2])
          · refine aw_aload_n dX9_order_50 rfl rfl ?_
            refine aw_get fd_X9_34_9 dX9_order_51 (by decide) rfl rfl ?_
            refine aw_iload_n dX9_order_54 rfl rfl ?_
            refine aw_iald dX9_order_55 (by decide) rfl (vp_in_nI (by omega) (by decide)) ?_
            refine aw_goto (tgt := 65) dX9_order_56 (by decide) ?_
            refine aw_iret dX9_order_65 (Nat.zero_le _) (Nat.zero_le _) ?_
            refine ⟨rfl, _, _, rfl, hS, ?_⟩
            rw [if_pos (show (sW (nI a) 0 5 && sW w 0 1) = true by rw [c_15, c_6]; rfl), if_neg c_25, if_pos c_40, nI_clamp (show a < 2 ^ 31 by omega)]
            first | (rw [if_pos c_47, hF.1]) | (rw [if_neg c_47, hF.2])
        · refine aw_bipush (v := (-9)) dX9_order_43 (by decide) ?_
          refine aw_iret dX9_order_45 (Nat.zero_le _) (Nat.zero_le _) ?_
          refine ⟨rfl, _, _, rfl, hS, ?_⟩
          rw [if_pos (by simp [*]), if_neg c_25, if_neg c_40]
      · refine aw_bipush (v := (-3)) dX9_order_28 (by decide) ?_
        refine aw_iret dX9_order_30 (Nat.zero_le _) (Nat.zero_le _) ?_
        refine ⟨rfl, _, _, rfl, SM_refl I F, ?_⟩
        rw [if_pos (by simp [*]), if_pos c_25]
    · refine aw_bipush (v := (-2)) dX9_order_18 (by decide) ?_
      refine aw_iret dX9_order_20 (Nat.zero_le _) (Nat.zero_le _) ?_
      refine ⟨rfl, _, _, rfl, SM_refl I F, ?_⟩
      rw [if_neg (by simp [*])]
set_option maxRecDepth 100000 in
set_option maxHeartbeats 4000000 in
theorem lp_X9_leastLoss1 {l : Launch} {D : va_G} {tc : Nat → ClassId} (I F : Nat → Nat → Int32) {c : Nat} (hc : c ≤ 6) (hI5 : I 0 5 = nI c) {x : Nat} (hx : x < 2 ^ c) (hx31 : x < 2 ^ 31) (hI7 : I 0 7 = nI x) {p : Nat} (hp : p < c) (s : Int32) (K : AW l D tc yX9_leastLoss.cls cX9_leastLoss 5 (some .int) { frames := 1, cells := 0, slots := 0, locals := 21 } 15 0 0 (fun v n1 h1 => n1 = 15 ∧ (v = some (.int (sumN (llF (nI x) (F 5) c) c)) ∧ h1 = (hM I F))) 90 [some (.ref 0), some (.int s), some (.int (nI p)), some (.int (sumN (ahF (nI x) (F 5) p) c)), some (.int (nI c))] [] 15 (hM I F) 0 0) : ∀ (m i : Nat) (a : Int32), i + m = c → sumN (ahF (nI x) (F 5) p) i = a → AW l D tc yX9_leastLoss.cls cX9_leastLoss 5 (some .int) { frames := 1, cells := 0, slots := 0, locals := 21 } 15 0 0 (fun v n1 h1 => n1 = 15 ∧ (v = some (.int (sumN (llF (nI x) (F 5) c) c)) ∧ h1 = (hM I F))) 17 [some (.ref 0), some (.int s), some (.int (nI p)), some (.int a), some (.int (nI i))] [] 15 (hM I F) 0 0 := by
  intro m
  induction m using Nat.strongRecOn with
  | _ m ih =>
    intro i a hi hq
    refine aw_iload dX9_leastLoss_17 rfl ?_
    refine aw_aload_n dX9_leastLoss_19 rfl rfl ?_
    refine aw_get fd_X9_62_9 dX9_leastLoss_20 (by decide) rfl rfl ?_
    refine aw_icmp_ge (tgt := 90) dX9_leastLoss_23 (by decide) (fun c_23 => ?_) (fun c_23 => ?_)
    · have hi6 : i = c := lp_ge (by omega) (by omega) (by rw [← hI5]; exact c_23)
      subst hi6
      rw [hq] at K
      exact K
    · have hi6 : i < c := lp_lt (N := c) (by omega) (by rw [← hI5]; exact c_23)
      refine aw_iload_n dX9_leastLoss_26 rfl rfl ?_
      refine aw_aload_n dX9_leastLoss_27 rfl rfl ?_
      refine aw_get fd_X9_98_9 dX9_leastLoss_28 (by decide) rfl rfl ?_
      rw [hI7]
      refine aw_iload dX9_leastLoss_31 rfl ?_
      refine aw_callS cw_X9_isOf ml_X9_139 sm_X9_isOf (c_X9_isOf _ _ _ _) ⟨Nat.le_of_ble_eq_true rfl, Nat.le_of_ble_eq_true rfl⟩ ⟨Nat.zero_le _, Nat.zero_le _⟩ rfl rfl (Nat.le_of_ble_eq_true rfl) dX9_leastLoss_33 ?_
      rintro _ _ ⟨rfl, rfl⟩
      rw [of_has (by omega) (by omega)]
      refine aw_ifB_eq (tgt := 81) dX9_leastLoss_36 (by decide) (fun c_36 => ?_) (fun c_36 => ?_)
      · refine aw_iconst (v := 0) dX9_leastLoss_81 (by decide) ?_
        refine aw_iadd dX9_leastLoss_82 ?_
        refine aw_istore_n dX9_leastLoss_83 rfl (by decide) rfl ?_
        refine aw_iinc (v := 1) dX9_leastLoss_84 rfl (by decide) (by decide) rfl ?_
        refine aw_goto (tgt := 17) dX9_leastLoss_87 (by decide) ?_
        rw [nI_1]
        exact ih (m - 1) (by omega) (i + 1) _ (by omega) (by
          rw [sumN, hq]
          clear hI5 hI7 hq ih K
          congr 1
          unfold ahF
          simp [*])
      · refine aw_aload_n dX9_leastLoss_39 rfl rfl ?_
        refine aw_get fd_X9_22_9 dX9_leastLoss_40 (by decide) rfl rfl ?_
        refine aw_iload dX9_leastLoss_43 rfl ?_
        refine aw_iald dX9_leastLoss_45 (by decide) rfl (vp_in_nI (by omega) (by decide)) ?_
        rw [nI_clamp (n := i) (by omega)]
        refine aw_aload_n dX9_leastLoss_46 rfl rfl ?_
        refine aw_get fd_X9_22_9 dX9_leastLoss_47 (by decide) rfl rfl ?_
        refine aw_iload_n dX9_leastLoss_50 rfl rfl ?_
        refine aw_iald dX9_leastLoss_51 (by decide) rfl (vp_in_nI (by omega) (by decide)) ?_
        rw [nI_clamp (n := p) (by omega)]
        refine aw_icmp_gt (tgt := 77) dX9_leastLoss_52 (by decide) (fun c_52 => ?_) (fun c_52 => ?_)
        · refine aw_iconst (v := 1) dX9_leastLoss_77 (by decide) ?_
          refine aw_goto (tgt := 82) dX9_leastLoss_78 (by decide) ?_
          refine aw_iadd dX9_leastLoss_82 ?_
          refine aw_istore_n dX9_leastLoss_83 rfl (by decide) rfl ?_
          refine aw_iinc (v := 1) dX9_leastLoss_84 rfl (by decide) (by decide) rfl ?_
          refine aw_goto (tgt := 17) dX9_leastLoss_87 (by decide) ?_
          rw [nI_1]
          exact ih (m - 1) (by omega) (i + 1) _ (by omega) (by
            rw [sumN, hq]
            clear hI5 hI7 hq ih K
            congr 1
            unfold ahF
            simp [*])
        · refine aw_aload_n dX9_leastLoss_55 rfl rfl ?_
          refine aw_get fd_X9_22_9 dX9_leastLoss_56 (by decide) rfl rfl ?_
          refine aw_iload dX9_leastLoss_59 rfl ?_
          refine aw_iald dX9_leastLoss_61 (by decide) rfl (vp_in_nI (by omega) (by decide)) ?_
          rw [nI_clamp (n := i) (by omega)]
          refine aw_aload_n dX9_leastLoss_62 rfl rfl ?_
          refine aw_get fd_X9_22_9 dX9_leastLoss_63 (by decide) rfl rfl ?_
          refine aw_iload_n dX9_leastLoss_66 rfl rfl ?_
          refine aw_iald dX9_leastLoss_67 (by decide) rfl (vp_in_nI (by omega) (by decide)) ?_
          rw [nI_clamp (n := p) (by omega)]
          refine aw_icmp_ne (tgt := 81) dX9_leastLoss_68 (by decide) (fun c_68 => ?_) (fun c_68 => ?_)
          · refine aw_iconst (v := 0) dX9_leastLoss_81 (by decide) ?_
            refine aw_iadd dX9_leastLoss_82 ?_
            refine aw_istore_n dX9_leastLoss_83 rfl (by decide) rfl ?_
            refine aw_iinc (v := 1) dX9_leastLoss_84 rfl (by decide) (by decide) rfl ?_
            refine aw_goto (tgt := 17) dX9_leastLoss_87 (by decide) ?_
            rw [nI_1]
            exact ih (m - 1) (by omega) (i + 1) _ (by omega) (by
              rw [sumN, hq]
              clear hI5 hI7 hq ih K
              congr 1
              unfold ahF
              simp [*])
          · refine aw_iload dX9_leastLoss_71 rfl ?_
            refine aw_iload_n dX9_leastLoss_73 rfl rfl ?_
            refine aw_icmp_ge (tgt := 81) dX9_leastLoss_74 (by decide) (fun c_74 => ?_) (fun c_74 => ?_)
            · refine aw_iconst (v := 0) dX9_leastLoss_81 (by decide) ?_
              refine aw_iadd dX9_leastLoss_82 ?_
              refine aw_istore_n dX9_leastLoss_83 rfl (by decide) rfl ?_
              refine aw_iinc (v := 1) dX9_leastLoss_84 rfl (by decide) (by decide) rfl ?_
              refine aw_goto (tgt := 17) dX9_leastLoss_87 (by decide) ?_
              rw [nI_1]
              exact ih (m - 1) (by omega) (i + 1) _ (by omega) (by
                rw [sumN, hq]
                clear hI5 hI7 hq ih K
                congr 1
                unfold ahF
                simp [*])
            · refine aw_iconst (v := 1) dX9_leastLoss_77 (by decide) ?_
              refine aw_goto (tgt := 82) dX9_leastLoss_78 (by decide) ?_
              refine aw_iadd dX9_leastLoss_82 ?_
              refine aw_istore_n dX9_leastLoss_83 rfl (by decide) rfl ?_
              refine aw_iinc (v := 1) dX9_leastLoss_84 rfl (by decide) (by decide) rfl ?_
              refine aw_goto (tgt := 17) dX9_leastLoss_87 (by decide) ?_
              rw [nI_1]
              exact ih (m - 1) (by omega) (i + 1) _ (by omega) (by
                rw [sumN, hq]
                clear hI5 hI7 hq ih K
                congr 1
                unfold ahF
                simp [*])
set_option maxRecDepth 100000 in
set_option maxHeartbeats 4000000 in
theorem lp_X9_leastLoss {l : Launch} {D : va_G} {tc : Nat → ClassId} (I F : Nat → Nat → Int32) {c : Nat} (hc : c ≤ 6) (hI5 : I 0 5 = nI c) {x : Nat} (hx : x < 2 ^ c) (hx31 : x < 2 ^ 31) (hI7 : I 0 7 = nI x) : ∀ (m i : Nat) (s : Int32) (w3 w4 : Option Value), i + m = c → sumN (llF (nI x) (F 5) c) i = s → AW l D tc yX9_leastLoss.cls cX9_leastLoss 5 (some .int) { frames := 1, cells := 0, slots := 0, locals := 21 } 15 0 0 (fun v n1 h1 => n1 = 15 ∧ (v = some (.int (sumN (llF (nI x) (F 5) c) c)) ∧ h1 = (hM I F))) 4 [some (.ref 0), some (.int s), some (.int (nI i)), w3, w4] [] 15 (hM I F) 0 0 := by
  intro m
  induction m using Nat.strongRecOn with
  | _ m ih =>
    intro i s w3 w4 hi hq
    refine aw_iload_n dX9_leastLoss_4 rfl rfl ?_
    refine aw_aload_n dX9_leastLoss_5 rfl rfl ?_
    refine aw_get fd_X9_62_9 dX9_leastLoss_6 (by decide) rfl rfl ?_
    refine aw_icmp_ge (tgt := 122) dX9_leastLoss_9 (by decide) (fun c_9 => ?_) (fun c_9 => ?_)
    · have hi6 : i = c := lp_ge (by omega) (by omega) (by rw [← hI5]; exact c_9)
      subst hi6
      refine aw_iload_n dX9_leastLoss_122 rfl rfl ?_
      refine aw_iret dX9_leastLoss_123 (Nat.zero_le _) (Nat.zero_le _) ?_
      rw [hq]
      exact ⟨rfl, rfl, rfl⟩
    · have hi6 : i < c := lp_lt (N := c) (by omega) (by rw [← hI5]; exact c_9)
      refine aw_iconst (v := 0) dX9_leastLoss_12 (by decide) ?_
      refine aw_istore_n dX9_leastLoss_13 rfl (by decide) rfl ?_
      refine aw_iconst (v := 0) dX9_leastLoss_14 (by decide) ?_
      refine aw_istore dX9_leastLoss_15 (by decide) rfl ?_
      refine lp_X9_leastLoss1 I F hc hI5 hx hx31 hI7 hi6 s ?_ c 0 0 (by omega) rfl
      refine aw_iload_n dX9_leastLoss_90 rfl rfl ?_
      refine aw_aload_n dX9_leastLoss_91 rfl rfl ?_
      refine aw_get fd_X9_98_9 dX9_leastLoss_92 (by decide) rfl rfl ?_
      rw [hI7]
      refine aw_iload_n dX9_leastLoss_95 rfl rfl ?_
      refine aw_callS cw_X9_isOf ml_X9_139 sm_X9_isOf (c_X9_isOf _ _ _ _) ⟨Nat.le_of_ble_eq_true rfl, Nat.le_of_ble_eq_true rfl⟩ ⟨Nat.zero_le _, Nat.zero_le _⟩ rfl rfl (Nat.le_of_ble_eq_true rfl) dX9_leastLoss_96 ?_
      rintro _ _ ⟨rfl, rfl⟩
      rw [of_has (by omega) (by omega)]
      refine aw_ifB_eq (tgt := 113) dX9_leastLoss_99 (by decide) (fun c_99 => ?_) (fun c_99 => ?_)
      · refine aw_iconst (v := 0) dX9_leastLoss_113 (by decide) ?_
        refine aw_iadd dX9_leastLoss_114 ?_
        refine aw_istore_n dX9_leastLoss_115 rfl (by decide) rfl ?_
        refine aw_iinc (v := 1) dX9_leastLoss_116 rfl (by decide) (by decide) rfl ?_
        refine aw_goto (tgt := 4) dX9_leastLoss_119 (by decide) ?_
        rw [nI_1]
        exact ih (m - 1) (by omega) (i + 1) _ _ _ (by omega) (by
          rw [sumN, hq]
          clear hI5 hI7 hq ih
          congr 1
          unfold llF
          simp [*])
      · refine aw_aload_n dX9_leastLoss_102 rfl rfl ?_
        refine aw_get fd_X9_22_9 dX9_leastLoss_103 (by decide) rfl rfl ?_
        refine aw_iload_n dX9_leastLoss_106 rfl rfl ?_
        refine aw_iald dX9_leastLoss_107 (by decide) rfl (vp_in_nI (by omega) (by decide)) ?_
        rw [nI_clamp (n := i) (by omega)]
        refine aw_iload_n dX9_leastLoss_108 rfl rfl ?_
        refine aw_imul dX9_leastLoss_109 ?_
        refine aw_goto (tgt := 114) dX9_leastLoss_110 (by decide) ?_
        refine aw_iadd dX9_leastLoss_114 ?_
        refine aw_istore_n dX9_leastLoss_115 rfl (by decide) rfl ?_
        refine aw_iinc (v := 1) dX9_leastLoss_116 rfl (by decide) (by decide) rfl ?_
        refine aw_goto (tgt := 4) dX9_leastLoss_119 (by decide) ?_
        rw [nI_1]
        exact ih (m - 1) (by omega) (i + 1) _ _ _ (by omega) (by
          rw [sumN, hq]
          clear hI5 hI7 hq ih
          congr 1
          unfold llF
          simp [*])
set_option maxRecDepth 100000 in
set_option maxHeartbeats 4000000 in
theorem c_X9_leastLoss {l : Launch} {D : va_G} {tc : Nat → ClassId} (I F : Nat → Nat → Int32) {c : Nat} (hc : c ≤ 6) (hI5 : I 0 5 = nI c) {x : Nat} (hx : x < 2 ^ c) (hI7 : I 0 7 = nI x) : AM l D tc yX9_leastLoss cX9_leastLoss 5 (some .int) 1 21 0 0 [.ref 0] 15 (hM I F) (fun v n1 h1 => n1 = 15 ∧ (v = some (.int (sumN (llF (nI x) (F 5) c) c)) ∧ h1 = (hM I F))) := by
  refine am_of (L := [some (.ref 0), none, none, none, none]) (by decide +kernel) (Nat.le_of_ble_eq_true rfl) rfl ?_
  refine aw_iconst (v := 0) dX9_leastLoss_0 (by decide) ?_
  refine aw_istore_n dX9_leastLoss_1 rfl (by decide) rfl ?_
  refine aw_iconst (v := 0) dX9_leastLoss_2 (by decide) ?_
  refine aw_istore_n dX9_leastLoss_3 rfl (by decide) rfl ?_
  have h6 : 2 ^ c ≤ 2 ^ 6 := Nat.pow_le_pow_right (by decide) hc
  exact lp_X9_leastLoss I F hc hI5 hx (by omega) hI7 c 0 0 none none (by omega) rfl
set_option maxRecDepth 100000 in
set_option maxHeartbeats 4000000 in
theorem lp_X9_loss {l : Launch} {D : va_G} {tc : Nat → ClassId} (I F : Nat → Nat → Int32) {c : Nat} (hc : c ≤ 6) (hI5 : I 0 5 = nI c) {x : Nat} (hx : x < 2 ^ c) (hI7 : I 0 7 = nI x) (hH : HH F c) (R9 w : Int32) (hR : (sumN (fun k => F 5 (dnN (myM I F) (nI x) k).toNatClampNeg * nI k) (gtM (myM I F) (nI x))) = R9) (I1 F1 : Nat → Nat → Int32) (hS : SM I F I1 F1) (h22 : I1 0 22 = nI (gtM (myM I F) (nI x))) (hF : ∀ q, q < (gtM (myM I F) (nI x)) → F1 9 q = dnN (myM I F) (nI x) q ∧ F1 10 q = frN (myM I F) (nI x) q) : ∀ (m i : Nat) (a : Int32), i + m = (gtM (myM I F) (nI x)) → sumN (fun k => F 5 (dnN (myM I F) (nI x) k).toNatClampNeg * nI k) i = a → AW l D tc yX9_loss.cls cX9_loss 4 (some .int) { frames := 4, cells := 0, slots := 0, locals := 87 } 15 0 0 (fun v n1 h1 => n1 = 15 ∧ (∃ I1 F1, h1 = hM I1 F1 ∧ SM I F I1 F1 ∧ v = some (.int R9))) 40 [some (.ref 0), some (.int w), some (.int a), some (.int (nI i))] [] 15 (hM I1 F1) 0 0 := by
  have hG := gtM_le (myM I F) (nI x)
  intro m
  induction m using Nat.strongRecOn with
  | _ m ih =>
    intro i a hi hq
    refine aw_iload_n dX9_loss_40 rfl rfl ?_
    refine aw_aload_n dX9_loss_41 rfl rfl ?_
    refine aw_get fd_X9_162_9 dX9_loss_42 (by decide) rfl rfl ?_
    rw [h22]
    refine aw_icmp_ge (tgt := 70) dX9_loss_45 (by decide) (fun c_45 => ?_) (fun c_45 => ?_)
    · have hi6 : i = (gtM (myM I F) (nI x)) := lp_ge (by omega) (by omega) c_45
      refine aw_iload_n dX9_loss_70 rfl rfl ?_
      refine aw_iret dX9_loss_71 (Nat.zero_le _) (Nat.zero_le _) ?_
      refine ⟨rfl, _, _, rfl, hS, ?_⟩
      rw [← hR, ← hi6, hq]
    · have hi6 := lp_lt (i := i) (N := (gtM (myM I F) (nI x))) (by omega) c_45
      obtain ⟨d, hd, ed⟩ := dnN_n (my := myM I F) hc hx (fun m h => myM_le (I := I) hc hH h) hi6
      refine aw_iload_n dX9_loss_48 rfl rfl ?_
      refine aw_aload_n dX9_loss_49 rfl rfl ?_
      refine aw_get fd_X9_22_9 dX9_loss_50 (by decide) rfl rfl ?_
      refine aw_aload_n dX9_loss_53 rfl rfl ?_
      refine aw_get fd_X9_34_9 dX9_loss_54 (by decide) rfl rfl ?_
      refine aw_iload_n dX9_loss_57 rfl rfl ?_
      refine aw_iald dX9_loss_58 (by decide) rfl (vp_in_nI (by omega) (by decide)) ?_
      rw [nI_clamp (n := i) (by omega), (hF i hi6).1]
      refine aw_iald dX9_loss_59 (by decide) rfl (by rw [ed]; exact vp_in_nI (by omega) (by decide)) ?_
      rw [hS.2 5 (by decide) (by decide) (by decide) (by decide)]
      refine aw_iload_n dX9_loss_60 rfl rfl ?_
      refine aw_imul dX9_loss_61 ?_
      refine aw_iadd dX9_loss_62 ?_
      refine aw_istore_n dX9_loss_63 rfl (by decide) rfl ?_
      refine aw_iinc (v := 1) dX9_loss_64 rfl (by decide) (by decide) rfl ?_
      refine aw_goto (tgt := 40) dX9_loss_67 (by decide) ?_
      rw [nI_1]
      exact ih (m - 1) (by omega) (i + 1) _ (by omega) (by rw [sumN, hq])
set_option maxRecDepth 100000 in
set_option maxHeartbeats 4000000 in
theorem c_X9_loss {l : Launch} {D : va_G} {tc : Nat → ClassId} (I F : Nat → Nat → Int32) {c : Nat} (hc : c ≤ 6) (hI5 : I 0 5 = nI c) {x : Nat} (hx : x < 2 ^ c) (hI7 : I 0 7 = nI x) (hH : HH F c) (w : Int32) : AM l D tc yX9_loss cX9_loss 4 (some .int) 4 87 0 0 [.ref 0, .int w] 15 (hM I F) (fun v n1 h1 => n1 = 15 ∧ (∃ I1 F1, h1 = hM I1 F1 ∧ SM I F I1 F1 ∧ v = some (.int (if sW w 0 1 then (if I 0 5 = 0 then -3 else if w = 1 then sumN (llF (nI x) (F 5) c) c else (sumN (fun k => F 5 (dnN (myM I F) (nI x) k).toNatClampNeg * nI k) (gtM (myM I F) (nI x)))) else -2)))) := by
  refine am_of (L := [some (.ref 0), some (.int w), none, none]) (by decide +kernel) (Nat.le_of_ble_eq_true rfl) rfl ?_
  refine aw_iload_n dX9_loss_0 rfl rfl ?_
  refine aw_iconst (v := 0) dX9_loss_1 (by decide) ?_
  refine aw_iconst (v := 1) dX9_loss_2 (by decide) ?_
  refine aw_callS cw_X9_within ml_X9_58 sm_X9_within (c_X9_within _ _ _ _ _) ⟨Nat.le_of_ble_eq_true rfl, Nat.le_of_ble_eq_true rfl⟩ ⟨Nat.zero_le _, Nat.zero_le _⟩ rfl rfl (Nat.le_of_ble_eq_true rfl) dX9_loss_3 ?_
  rintro _ _ ⟨rfl, rfl⟩
  refine aw_ifB_ne (tgt := 12) dX9_loss_6 (by decide) (fun c_6 => ?_) (fun c_6 => ?_)
  · refine aw_aload_n dX9_loss_12 rfl rfl ?_
    refine aw_get fd_X9_62_9 dX9_loss_13 (by decide) rfl rfl ?_
    refine aw_if_ne (tgt := 22) dX9_loss_16 (by decide) (fun c_16 => ?_) (fun c_16 => ?_)
    · refine aw_iload_n dX9_loss_22 rfl rfl ?_
      refine aw_iconst (v := 1) dX9_loss_23 (by decide) ?_
      refine aw_icmp_ne (tgt := 32) dX9_loss_24 (by decide) (fun c_24 => ?_) (fun c_24 => ?_)
      · refine aw_aload_n dX9_loss_32 rfl rfl ?_
        refine aw_callV cw_X9_findOrder ml_X9_165 im_X9_findOrder sl_X9_X9_findOrder rfl (by decide) rfl (c_X9_findOrder _ _ hc hI5 hx hI7 hH) ⟨Nat.le_of_ble_eq_true rfl, Nat.le_of_ble_eq_true rfl⟩ ⟨Nat.zero_le _, Nat.zero_le _⟩ rfl rfl (Nat.le_of_ble_eq_true rfl) dX9_loss_33 ?_
        rintro _ _ ⟨rfl, I1, F1, rfl, hS, h22, hF⟩
        refine aw_iconst (v := 0) dX9_loss_36 (by decide) ?_
        refine aw_istore_n dX9_loss_37 rfl (by decide) rfl ?_
        refine aw_iconst (v := 0) dX9_loss_38 (by decide) ?_
        refine aw_istore_n dX9_loss_39 rfl (by decide) rfl ?_
        rw [if_pos c_6, if_neg c_16, if_neg c_24]
        exact lp_X9_loss I F hc hI5 hx hI7 hH _ w rfl I1 F1 hS h22 hF _ 0 0 (Nat.zero_add _) rfl
      · refine aw_aload_n dX9_loss_27 rfl rfl ?_
        refine aw_callV cw_X9_leastLoss ml_X9_168 im_X9_leastLoss sl_X9_X9_leastLoss rfl (by decide) rfl (c_X9_leastLoss _ _ hc hI5 hx hI7) ⟨Nat.le_of_ble_eq_true rfl, Nat.le_of_ble_eq_true rfl⟩ ⟨Nat.zero_le _, Nat.zero_le _⟩ rfl rfl (Nat.le_of_ble_eq_true rfl) dX9_loss_28 ?_
        rintro _ _ ⟨rfl, rfl⟩
        refine aw_iret dX9_loss_31 (Nat.zero_le _) (Nat.zero_le _) ?_
        refine ⟨rfl, _, _, rfl, SM_refl I F, ?_⟩
        rw [if_pos c_6, if_neg c_16, if_pos c_24]
    · refine aw_bipush (v := (-3)) dX9_loss_19 (by decide) ?_
      refine aw_iret dX9_loss_21 (Nat.zero_le _) (Nat.zero_le _) ?_
      refine ⟨rfl, _, _, rfl, SM_refl I F, ?_⟩
      rw [if_pos c_6, if_pos c_16]
  · refine aw_bipush (v := (-2)) dX9_loss_9 (by decide) ?_
    refine aw_iret dX9_loss_11 (Nat.zero_le _) (Nat.zero_le _) ?_
    refine ⟨rfl, _, _, rfl, SM_refl I F, ?_⟩
    rw [if_neg (by rw [c_6]; decide)]
set_option maxRecDepth 100000 in
set_option maxHeartbeats 4000000 in
theorem c_X9_let_no {l : Launch} {D : va_G} {tc : Nat → ClassId} (I F : Nat → Nat → Int32) {c : Nat} (hc : c ≤ 6) (hI5 : I 0 5 = nI c) {x : Int32} (hx : sP c x = false) (w : Int32) : AM l D tc yX9_let cX9_let 7 (some .int) 4 87 0 0 [.ref 0, .int x, .int w] 15 (hM I F) (fun v n1 h1 => n1 = 15 ∧ (v = some (.int (-1)) ∧ h1 = hM I F)) := by
  refine am_of (L := [some (.ref 0), some (.int x), some (.int w), none, none, none, none]) (by decide +kernel) (Nat.le_of_ble_eq_true rfl) rfl ?_
  refine aw_aload_n dX9_let_0 rfl rfl ?_
  refine aw_iload_n dX9_let_1 rfl rfl ?_
  refine aw_callV cw_X9_isPerson ml_X9_120 im_X9_isPerson sl_X9_X9_isPerson rfl (by decide) rfl (c_X9_isPerson _ _ hc hI5 _) ⟨Nat.le_of_ble_eq_true rfl, Nat.le_of_ble_eq_true rfl⟩ ⟨Nat.zero_le _, Nat.zero_le _⟩ rfl rfl (Nat.le_of_ble_eq_true rfl) dX9_let_2 ?_
  rintro _ _ ⟨rfl, rfl⟩
  rw [show b2i (sP c x) = 0 from by rw [hx]; rfl]
  refine aw_if_ne (tgt := 10) dX9_let_5 (by decide) (fun c9 => absurd rfl c9) (fun _ => ?_)
  refine aw_iconst (v := (-1)) dX9_let_8 (by decide) ?_
  refine aw_iret dX9_let_9 (Nat.zero_le _) (Nat.zero_le _) ?_
  exact ⟨rfl, rfl, rfl⟩
theorem lp_9 {a b : Nat} (ha : a < 2 ^ 31) (hb : b < 2 ^ 31) (h : nI a < nI b) : a < b := by
  rcases Nat.lt_or_ge a b with q | q
  · exact q
  · exact absurd h (nI_nlt q ha)
set_option maxRecDepth 100000 in
set_option maxHeartbeats 4000000 in
theorem lp_X9_let1 {l : Launch} {D : va_G} {tc : Nat → ClassId} (I F : Nat → Nat → Int32) {c : Nat} (hc : c ≤ 6) {x p kk vv : Nat} (hp : p < c) (hk : kk ≤ 5) (hv : vv ≤ 9) (I2 F2 : Nat → Nat → Int32) (h22 : I2 0 22 = nI (gtM (myM I (st_F F 6 (upd (F 6) p (nI vv)))) (nI x))) (hF : ∀ q, q < (gtM (myM I (st_F F 6 (upd (F 6) p (nI vv)))) (nI x)) → F2 9 q = dnN (myM I (st_F F 6 (upd (F 6) p (nI vv)))) (nI x) q ∧ F2 10 q = frN (myM I (st_F F 6 (upd (F 6) p (nI vv)))) (nI x) q) (b : Int32) (K : ∀ w : Option Value, AW l D tc yX9_let.cls cX9_let 7 (some .int) { frames := 4, cells := 0, slots := 0, locals := 87 } 15 0 0 (fun v n1 h1 => n1 = 15 ∧ (∃ I1 F1, h1 = hM I1 F1 ∧ SM I F I1 F1 ∧ v = some (.int (lbN (letT I F x p kk) 10)))) 112 [some (.ref 0), some (.int (nI p)), some (.int (nI kk)), some (.int (F 6 p)), some (.int (if letT I F x p kk vv then nI vv else b)), some (.int (nI vv)), w] [] 15 (hM I2 F2) 0 0) : ∀ (m i : Nat) (a : Int32), i + m = min (kk + 1) (gtM (myM I (st_F F 6 (upd (F 6) p (nI vv)))) (nI x)) → (if exN (fun q => decide (dnN (myM I (st_F F 6 (upd (F 6) p (nI vv)))) (nI x) q = nI p)) i then nI vv else b) = a → AW l D tc yX9_let.cls cX9_let 7 (some .int) { frames := 4, cells := 0, slots := 0, locals := 87 } 15 0 0 (fun v n1 h1 => n1 = 15 ∧ (∃ I1 F1, h1 = hM I1 F1 ∧ SM I F I1 F1 ∧ v = some (.int (lbN (letT I F x p kk) 10)))) 71 [some (.ref 0), some (.int (nI p)), some (.int (nI kk)), some (.int (F 6 p)), some (.int a), some (.int (nI vv)), some (.int (nI i))] [] 15 (hM I2 F2) 0 0 := by
  have hG := gtM_le (myM I (st_F F 6 (upd (F 6) p (nI vv)))) (nI x)
  intro m
  induction m using Nat.strongRecOn with
  | _ m ih =>
    intro i a hi hq
    refine aw_iload dX9_let_71 rfl ?_
    refine aw_iload_n dX9_let_73 rfl rfl ?_
    refine aw_icmp_gt (tgt := 112) dX9_let_74 (by decide) (fun c_74 => ?_) (fun c_74 => ?_)
    · have e9 : i = min (kk + 1) (gtM (myM I (st_F F 6 (upd (F 6) p (nI vv)))) (nI x)) := by
        have := lp_9 (by omega) (by omega) c_74
        omega
      rw [← hq, e9]
      exact K _
    · have hik := le_9 (i := i) (N := kk) (by omega) c_74
      refine aw_iload dX9_let_77 rfl ?_
      refine aw_aload_n dX9_let_79 rfl rfl ?_
      refine aw_get fd_X9_162_9 dX9_let_80 (by decide) rfl rfl ?_
      rw [h22]
      refine aw_icmp_ge (tgt := 112) dX9_let_83 (by decide) (fun c_83 => ?_) (fun c_83 => ?_)
      · have e9 : i = min (kk + 1) (gtM (myM I (st_F F 6 (upd (F 6) p (nI vv)))) (nI x)) := by
          have := lp_ge (i := i) (N := (gtM (myM I (st_F F 6 (upd (F 6) p (nI vv)))) (nI x))) (by omega) (by omega) c_83
          omega
        rw [← hq, e9]
        exact K _
      · have hi6 := lp_lt (i := i) (N := (gtM (myM I (st_F F 6 (upd (F 6) p (nI vv)))) (nI x))) (by omega) c_83
        refine aw_aload_n dX9_let_86 rfl rfl ?_
        refine aw_get fd_X9_34_9 dX9_let_87 (by decide) rfl rfl ?_
        refine aw_iload dX9_let_90 rfl ?_
        refine aw_iald dX9_let_92 (by decide) rfl (vp_in_nI (by omega) (by decide)) ?_
        rw [nI_clamp (n := i) (by omega), (hF i hi6).1]
        refine aw_iload_n dX9_let_93 rfl rfl ?_
        refine aw_icmp_ne (tgt := 102) dX9_let_94 (by decide) (fun c_94 => ?_) (fun c_94 => ?_)
        · refine aw_iload dX9_let_102 rfl ?_
          refine aw_istore dX9_let_104 (by decide) rfl ?_
          refine aw_iinc (v := 1) dX9_let_106 rfl (by decide) (by decide) rfl ?_
          refine aw_goto (tgt := 71) dX9_let_109 (by decide) ?_
          rw [nI_1]
          exact ih (m - 1) (by omega) (i + 1) _ (by omega) (by
            rw [← hq, exN, decide_eq_false c_94, Bool.or_false])
        · refine aw_iload dX9_let_97 rfl ?_
          refine aw_goto (tgt := 104) dX9_let_99 (by decide) ?_
          refine aw_istore dX9_let_104 (by decide) rfl ?_
          refine aw_iinc (v := 1) dX9_let_106 rfl (by decide) (by decide) rfl ?_
          refine aw_goto (tgt := 71) dX9_let_109 (by decide) ?_
          rw [nI_1]
          exact ih (m - 1) (by omega) (i + 1) _ (by omega) (by
            rw [exN]
            simp [c_94])
set_option maxRecDepth 100000 in
set_option maxHeartbeats 4000000 in
theorem lp_X9_let {l : Launch} {D : va_G} {tc : Nat → ClassId} (I F : Nat → Nat → Int32) {c : Nat} (hc : c ≤ 6) (hI5 : I 0 5 = nI c) {x : Nat} (hx : x < 2 ^ c) (hI7 : I 0 7 = nI x) (hH : HH F c) {p kk : Nat} (hp : p < c) (hk : kk ≤ 5) : ∀ (j : Nat) (I1 F1 : Nat → Nat → Int32) (y b : Int32) (w6 : Option Value), j ≤ 10 → SM I (st_F F 6 (upd (F 6) p y)) I1 F1 → lbN (letT I F x p kk) (10 - j) = b → AW l D tc yX9_let.cls cX9_let 7 (some .int) { frames := 4, cells := 0, slots := 0, locals := 87 } 15 0 0 (fun v n1 h1 => n1 = 15 ∧ (∃ I1 F1, h1 = hM I1 F1 ∧ SM I F I1 F1 ∧ v = some (.int (lbN (letT I F x p kk) 10)))) 51 [some (.ref 0), some (.int (nI p)), some (.int (nI kk)), some (.int (F 6 p)), some (.int b), some (.int (nI j - 1)), w6] [] 15 (hM I1 F1) 0 0 := by
  intro j
  induction j using Nat.strongRecOn with
  | _ j ih =>
    intro I1 F1 y b w6 hj10 hS hb
    refine aw_iload dX9_let_51 rfl ?_
    refine aw_if_lt (tgt := 118) dX9_let_53 (by decide) (fun c_53 => ?_) (fun c_53 => ?_)
    · refine aw_aload_n dX9_let_118 rfl rfl ?_
      refine aw_get fd_X9_25_9 dX9_let_119 (by decide) rfl rfl ?_
      refine aw_iload_n dX9_let_122 rfl rfl ?_
      refine aw_iload_n dX9_let_123 rfl rfl ?_
      refine aw_iastI dX9_let_124 (by decide) rfl (fun _ => rfl) (vp_in_nI (by omega) (by decide)) (show _ = st_F F1 6 (upd (F1 6) p (F 6 p)) from by rw [nI_clamp (show p < 2 ^ 31 by omega)]) ?_
      refine aw_iload dX9_let_125 rfl ?_
      refine aw_iret dX9_let_127 (Nat.zero_le _) (Nat.zero_le _) ?_
      have hj : j = 0 := by
        rcases Nat.eq_zero_or_pos j with q | q
        · exact q
        · obtain ⟨j2, rfl⟩ : ∃ j2, j = j2 + 1 := ⟨j - 1, by omega⟩
          rw [nI_pred] at c_53
          exact absurd c_53 (nI_nlt (a := j2) (b := 0) (Nat.zero_le _) (by omega))
      subst hj
      exact ⟨rfl, _, _, rfl, SM_60 hS, by rw [hb]⟩
    · have hj : 0 < j := by
        rcases Nat.eq_zero_or_pos j with q | q
        · subst q
          exact absurd (show nI 0 - 1 < 0 by decide) c_53
        · exact q
      obtain ⟨j2, rfl⟩ : ∃ j2, j = j2 + 1 := ⟨j - 1, by omega⟩
      rw [nI_pred]
      have hS2 := SM_6 (nI j2) hS
      refine aw_aload_n dX9_let_56 rfl rfl ?_
      refine aw_get fd_X9_25_9 dX9_let_57 (by decide) rfl rfl ?_
      refine aw_iload_n dX9_let_60 rfl rfl ?_
      refine aw_iload dX9_let_61 rfl ?_
      refine aw_iastI dX9_let_63 (by decide) rfl (fun _ => rfl) (vp_in_nI (by omega) (by decide)) (show _ = st_F F1 6 (upd (F1 6) p (nI j2)) from by rw [nI_clamp (show p < 2 ^ 31 by omega)]) ?_
      refine aw_aload_n dX9_let_64 rfl rfl ?_
      have h5 : I1 0 5 = nI c := (hS.1 5 (by decide) (by decide) (by decide) (by decide) (by decide) (by decide) (by decide)).trans hI5
      have h7 : I1 0 7 = nI x := (hS.1 7 (by decide) (by decide) (by decide) (by decide) (by decide) (by decide) (by decide)).trans hI7
      refine aw_callV cw_X9_findOrder ml_X9_165 im_X9_findOrder sl_X9_X9_findOrder rfl (by decide) rfl (c_X9_findOrder I1 (st_F F1 6 (upd (F1 6) p (nI j2))) hc h5 hx h7 (HH_SM hS2 (HH_6 hH))) ⟨Nat.le_of_ble_eq_true rfl, Nat.le_of_ble_eq_true rfl⟩ ⟨Nat.zero_le _, Nat.zero_le _⟩ rfl rfl (Nat.le_of_ble_eq_true rfl) dX9_let_65 ?_
      rintro _ _ ⟨rfl, I2, F2, rfl, hS3, h22, hF⟩
      rw [myM_SM hS2] at h22 hF
      refine aw_iconst (v := 0) dX9_let_68 (by decide) ?_
      refine aw_istore dX9_let_69 (by decide) rfl ?_
      refine lp_X9_let1 I F hc (vv := j2) hp hk (by omega) I2 F2 h22 hF b (fun w9 => ?_) _ 0 b (Nat.zero_add _) rfl
      refine aw_iinc (v := (-1)) dX9_let_112 rfl (by decide) (by decide) rfl ?_
      refine aw_goto (tgt := 51) dX9_let_115 (by decide) ?_
      rw [show nI j2 + (-1) = nI j2 - 1 from (Int32.sub_eq_add_neg ..).symm]
      exact ih j2 (by omega) I2 F2 (nI j2) _ _ (by omega) (SM_trans hS2 hS3) (by
        rw [show 10 - j2 = (10 - (j2 + 1)) + 1 by omega, lbN, hb, show 9 - (10 - (j2 + 1)) = j2 by omega])
set_option maxRecDepth 100000 in
set_option maxHeartbeats 4000000 in
theorem c_X9_let {l : Launch} {D : va_G} {tc : Nat → ClassId} (I F : Nat → Nat → Int32) {c : Nat} (hc : c ≤ 6) (hI5 : I 0 5 = nI c) {x : Nat} (hx : x < 2 ^ c) (hI7 : I 0 7 = nI x) (hH : HH F c) {p : Nat} (hp : p < c) (w : Int32) : AM l D tc yX9_let cX9_let 7 (some .int) 4 87 0 0 [.ref 0, .int (nI p), .int w] 15 (hM I F) (fun v n1 h1 => n1 = 15 ∧ (∃ I1 F1, h1 = hM I1 F1 ∧ SM I F I1 F1 ∧ v = some (.int (if sW w 0 5 then (if sHas (nI x) (nI p) then lbN (letT I F x p w.toNatClampNeg) 10 else -3) else -2)))) := by
  refine am_of (L := [some (.ref 0), some (.int (nI p)), some (.int w), none, none, none, none]) (by decide +kernel) (Nat.le_of_ble_eq_true rfl) rfl ?_
  have h6 : 2 ^ c ≤ 2 ^ 6 := Nat.pow_le_pow_right (by decide) hc
  refine aw_aload_n dX9_let_0 rfl rfl ?_
  refine aw_iload_n dX9_let_1 rfl rfl ?_
  refine aw_callV cw_X9_isPerson ml_X9_120 im_X9_isPerson sl_X9_X9_isPerson rfl (by decide) rfl (c_X9_isPerson _ _ hc hI5 _) ⟨Nat.le_of_ble_eq_true rfl, Nat.le_of_ble_eq_true rfl⟩ ⟨Nat.zero_le _, Nat.zero_le _⟩ rfl rfl (Nat.le_of_ble_eq_true rfl) dX9_let_2 ?_
  rintro _ _ ⟨rfl, rfl⟩
  rw [show b2i (sP c (nI p)) = 1 from by rw [sP_nI hc hp]; rfl]
  refine aw_if_ne (tgt := 10) dX9_let_5 (by decide) (fun _ => ?_) (fun c9 => absurd c9 (by decide))
  refine aw_iload_n dX9_let_10 rfl rfl ?_
  refine aw_iconst (v := 0) dX9_let_11 (by decide) ?_
  refine aw_iconst (v := 5) dX9_let_12 (by decide) ?_
  refine aw_callS cw_X9_within ml_X9_58 sm_X9_within (c_X9_within _ _ _ _ _) ⟨Nat.le_of_ble_eq_true rfl, Nat.le_of_ble_eq_true rfl⟩ ⟨Nat.zero_le _, Nat.zero_le _⟩ rfl rfl (Nat.le_of_ble_eq_true rfl) dX9_let_13 ?_
  rintro _ _ ⟨rfl, rfl⟩
  refine aw_ifB_ne (tgt := 22) dX9_let_16 (by decide) (fun c_16 => ?_) (fun c_16 => ?_)
  · refine aw_aload_n dX9_let_22 rfl rfl ?_
    refine aw_get fd_X9_98_9 dX9_let_23 (by decide) rfl rfl ?_
    rw [hI7]
    refine aw_iload_n dX9_let_26 rfl rfl ?_
    refine aw_callS cw_X9_isOf ml_X9_139 sm_X9_isOf (c_X9_isOf _ _ _ _) ⟨Nat.le_of_ble_eq_true rfl, Nat.le_of_ble_eq_true rfl⟩ ⟨Nat.zero_le _, Nat.zero_le _⟩ rfl rfl (Nat.le_of_ble_eq_true rfl) dX9_let_27 ?_
    rintro _ _ ⟨rfl, rfl⟩
    rw [of_has (by omega) (by omega)]
    refine aw_ifB_ne (tgt := 36) dX9_let_30 (by decide) (fun c_30 => ?_) (fun c_30 => ?_)
    · refine aw_aload_n dX9_let_36 rfl rfl ?_
      refine aw_get fd_X9_25_9 dX9_let_37 (by decide) rfl rfl ?_
      refine aw_iload_n dX9_let_40 rfl rfl ?_
      refine aw_iald dX9_let_41 (by decide) rfl (vp_in_nI (by omega) (by decide)) ?_
      rw [nI_clamp (n := p) (by omega)]
      refine aw_istore_n dX9_let_42 rfl (by decide) rfl ?_
      refine aw_bipush (v := (-9)) dX9_let_43 (by decide) ?_
      refine aw_istore dX9_let_45 (by decide) rfl ?_
      refine aw_bipush (v := (9)) dX9_let_47 (by decide) ?_
      refine aw_istore dX9_let_49 (by decide) rfl ?_
      obtain ⟨a, ha, rfl⟩ := sW_ex (m := 5) (by decide) c_16
      rw [if_pos c_16, if_pos c_30, nI_clamp (n := a) (by omega)]
      exact lp_X9_let I F hc hI5 hx hI7 hH hp ha 10 I F (F 6 p) (-9) none (by omega) (by rw [upd_self, st_F0]; exact SM_refl I F) rfl
    · refine aw_bipush (v := (-3)) dX9_let_33 (by decide) ?_
      refine aw_iret dX9_let_35 (Nat.zero_le _) (Nat.zero_le _) ?_
      refine ⟨rfl, _, _, rfl, SM_refl I F, ?_⟩
      rw [if_pos c_16, if_neg (by rw [c_30]; decide)]
  · refine aw_bipush (v := (-2)) dX9_let_19 (by decide) ?_
    refine aw_iret dX9_let_21 (Nat.zero_le _) (Nat.zero_le _) ?_
    refine ⟨rfl, _, _, rfl, SM_refl I F, ?_⟩
    rw [if_neg (by rw [c_16]; decide)]
