/-! the public methods that call the lift or the readings -/
theorem SC.stI {I F I1 F1 : Nat → Nat → Int32} (h : SC I F I1 F1) {a k : Nat} {v : Int32} (ha : a ≠ 4) : SC (st_I I a k v) F (st_I I1 a k v) F1 := by
  refine ⟨fun b hb => ?_, h.2⟩
  unfold st_I
  by_cases e : b = a
  · subst e
    rw [if_pos rfl, if_pos rfl, h.1 b ha]
  · rw [if_neg e, if_neg e, h.1 b hb]
theorem SC.ad {I F I1 F1 : Nat → Nat → Int32} (h : SC I F I1 F1) {p q s : Int32} : SC I (adF F p q s) I1 (adF F1 p q s) := by
  refine ⟨h.1, fun b h1 h2 h3 h4 h5 => ?_⟩
  unfold adF
  by_cases hN : sNum p q = true
  · obtain ⟨x, y, hx, hy, rfl, rfl⟩ := sNum_ex hN
    rw [if_pos hN, if_pos hN, nI_clamp (n := x) (by omega), h.2 (9 + x) (by omega) (by omega) (by omega) (by omega) (by omega)]
    unfold st_F
    by_cases e : b = 9 + x
    · rw [if_pos e, if_pos e]
    · rw [if_neg e, if_neg e, h.2 b h1 h2 h3 h4 h5]
  · rw [if_neg hN, if_neg hN, h.2 b h1 h2 h3 h4 h5]
theorem sDown_mn (F : Nat → Nat → Int32) (my : Nat → Int32) (x : Int32) : sDown (mnF F my 3) x = sDown my x := sDown_c (pf6 _ _)
theorem sCall_mn (F : Nat → Nat → Int32) (my : Nat → Int32) (x : Int32) : sCall (mnF F my 3) x = sCall my x := sCall_c (pf6 _ _)
theorem gtM_mn (F : Nat → Nat → Int32) (my : Nat → Int32) (x : Int32) : gtM (mnF F my 3) x = gtM my x := gtM_c (pf6 _ _)
theorem dnN_mn (F : Nat → Nat → Int32) (my : Nat → Int32) (x : Int32) : dnN (mnF F my 3) x = dnN my x := dnN_c (pf6 _ _)
theorem frN_mn (F : Nat → Nat → Int32) (my : Nat → Int32) (x : Int32) : frN (mnF F my 3) x = frN my x := frN_c (pf6 _ _)
theorem gt5 (F : Nat → Nat → Int32) (x : Int32) {k M : Nat} (h : k < M) : gtF F x M 5 k = dnN (F 3) x k := if_pos h
theorem gt6 (F : Nat → Nat → Int32) (x : Int32) {k M : Nat} (h : k < M) : gtF F x M 6 k = frN (F 3) x k := if_pos h
theorem lt_nI {x : Int32} {m M : Nat} (hM : M < 2 ^ 31) (h : sW x 0 (nI m) = true) (hm : m < 2 ^ 30) (h2 : x < nI M) : ∃ a : Nat, a ≤ m ∧ a < M ∧ x = nI a := by
  obtain ⟨a, ha, rfl⟩ := sW_ex hm h
  exact ⟨a, ha, (nI_ltI (by omega) hM).mp h2, rfl⟩
def sHx (g : Nat → Nat) (I : Nat → Nat → Int32) (c : Nat) (x : Int32) : Int32 := if sP c x then I (g x.toNatClampNeg + 30) 1 else 0
def inN (th : Int32) (hs : Nat → Int32) (p : Nat) : Nat → Int32
  | 0 => 0
  | q + 1 => inN th hs p q + (if sHas th (nI p) && sHas th (nI q) then (if hs q < hs p then hs q else hs p) else 0)
def ouN (th : Int32) (hs : Nat → Int32) : Nat → Int32
  | 0 => 0
  | p + 1 => ouN th hs p + inN th hs p p
def ltN (pl : Nat → Int32) (k : Int32) : Nat → Nat → Int32
  | _, 0 => -9
  | v, m + 1 => if pl v ≤ k then nI v else ltN pl k (v + 1) m
def bsN (t : Nat → Bool) : Nat → Int32
  | 0 => 0
  | v + 1 => bsN t v ||| (if t v then sBit (nI v) else 0)
def wrN (my : Nat → Int32) (p v all : Int32) : Nat → Int32 × Int32 × Int32
  | 0 => (0, -9, all)
  | s + 1 => if sDown my (nI (s + 1)) = p ∧ (sCall my (nI (s + 1))).1 = v then ((wrN my p v all s).1 + 1, if (wrN my p v all s).2.1 = -9 then nI (s + 1) else (wrN my p v all s).2.1, (wrN my p v all s).2.2 &&& nI (s + 1)) else wrN my p v all s
def udN (my : Nat → Int32) (p : Int32) : Nat → Int32
  | 0 => 0
  | s + 1 => udN my p s + (if sDown my (nI (s + 1)) = p then 1 else 0)
def hvN : Nat → Int32 → Int32 → Int32 × Int32
  | 0, u, d => (u, d)
  | m + 1, u, d => if u - u / 2 * 2 = 0 then hvN m (u / 2) (d / 2) else (u, d)
theorem ev_nI : ∀ c, c ≤ 6 → sBit (nI c) - 1 = nI (2 ^ c - 1) := by decide +kernel
theorem upd_c {f g : Nat → Int32} {p : Nat} {x : Int32} (h : ∀ j, j < 6 → j ≠ p → f j = g j) : ∀ j, j < 6 → upd f p x j = upd g p x j := by
  intro j hj
  unfold upd
  by_cases e : j = p
  · simp [e]
  · simp [e, h j hj e]

set_option maxRecDepth 100000 in
set_option maxHeartbeats 4000000 in
theorem c_X8_go0 {l : Launch} {D : va_G} {tc : Nat → ClassId} (pk : Nat → Nat) (G : Nat → Option Nat) (I F : Nat → Nat → Int32) (n : Nat) (hn : 30 ≤ n) (h0 : I 0 9 = 0) : AM l D tc yX8_go cX8_go 2 (some .int) 4 89 0 0 [.ref 0] n (hC pk G I F) (fun v n1 h1 => n1 = n ∧ (v = some (.int (-3)) ∧ h1 = (hC pk G I F))) := by
  refine am_of (L := [some (.ref 0), none]) (by decide +kernel) (Nat.le_of_ble_eq_true rfl) rfl ?_
  refine aw_aload_n dX8_go_0 rfl rfl ?_
  refine aw_get fd_X8_109_8 dX8_go_1 (by omega) rfl rfl ?_
  refine aw_if_ne (tgt := 10) dX8_go_4 (by decide) (fun c_4 => ?_) (fun c_4 => ?_)
  · exact absurd h0 c_4
  · refine aw_bipush (v := (-3)) dX8_go_7 (by decide) ?_
    refine aw_iret dX8_go_9 (Nat.zero_le _) (Nat.zero_le _) ?_
    exact ⟨rfl, rfl, rfl⟩
set_option maxRecDepth 100000 in
set_option maxHeartbeats 4000000 in
theorem c_X8_go {l : Launch} {D : va_G} {tc : Nat → ClassId} (pk : Nat → Nat) (G : Nat → Option Nat) (I F : Nat → Nat → Int32) (n : Nat) (hn : 30 ≤ n) {c : Nat} {g : Nat → Nat} (hW : WP pk G n c g) (hI0 : I 0 7 = nI c) (h0 : ¬ I 0 9 = 0) : AM l D tc yX8_go cX8_go 2 (some .int) 4 89 0 0 [.ref 0] n (hC pk G I F) (fun v n1 h1 => n1 = n ∧ (∃ I1 F1, SC (st_I I 0 9 (sClr (I 0 9) (sDown (myC pk g I c) (I 0 9)))) (adF F (sDown (myC pk g I c) (I 0 9)) (sCall (myC pk g I c) (I 0 9)).2.2.1 (sCall (myC pk g I c) (I 0 9)).1) I1 F1 ∧ h1 = hC pk G I1 F1 ∧ v = some (.int (sDown (myC pk g I c) (I 0 9))))) := by
  refine am_of (L := [some (.ref 0), none]) (by decide +kernel) (Nat.le_of_ble_eq_true rfl) rfl ?_
  refine aw_aload_n dX8_go_0 rfl rfl ?_
  refine aw_get fd_X8_109_8 dX8_go_1 (by omega) rfl rfl ?_
  refine aw_if_ne (tgt := 10) dX8_go_4 (by decide) (fun c_4 => ?_) (fun c_4 => ?_)
  · refine aw_aload_n dX8_go_10 rfl rfl ?_
    refine aw_get fd_X8_30_8 dX8_go_11 (by omega) rfl rfl ?_
    refine aw_aload_n dX8_go_14 rfl rfl ?_
    refine aw_callV cw_X8_maysNow ml_X8_129 im_X8_maysNow sl_X8_X8_maysNow rfl (by omega) rfl (c_X8_maysNow pk G _ _ n hn hW hI0) ⟨Nat.le_of_ble_eq_true rfl, Nat.le_of_ble_eq_true rfl⟩ ⟨Nat.zero_le _, Nat.zero_le _⟩ rfl rfl (Nat.le_of_ble_eq_true rfl) dX8_go_15 ?_
    rintro _ _ ⟨rfl, rfl⟩
    refine aw_aload_n dX8_go_18 rfl rfl ?_
    refine aw_get fd_X8_109_8 dX8_go_19 (by omega) rfl rfl ?_
    refine aw_callV cw_X2_letDown ml_X8_133 im_X2_letDown sl_X2_X2_letDown rfl (by omega) rfl (c_X2_letDown pk G _ _ n hn _) ⟨Nat.le_of_ble_eq_true rfl, Nat.le_of_ble_eq_true rfl⟩ ⟨Nat.zero_le _, Nat.zero_le _⟩ rfl rfl (Nat.le_of_ble_eq_true rfl) dX8_go_22 ?_
    rintro _ _ ⟨rfl, rfl⟩
    rw [sDown_mn, sCall_mn]
    generalize sDown (myC pk g I c) (I 0 9) = dn
    generalize sCall (myC pk g I c) (I 0 9) = qc
    refine aw_istore_n dX8_go_25 rfl (by decide) rfl ?_
    refine aw_aload_n dX8_go_26 rfl rfl ?_
    refine aw_dup dX8_go_27 rfl ?_
    refine aw_get fd_X8_109_8 dX8_go_28 (by omega) rfl rfl ?_
    refine aw_iload_n dX8_go_31 rfl rfl ?_
    refine aw_callS cw_X8_bit ml_X8_137 sm_X8_bit (c_X8_bit _ _ _) ⟨Nat.le_of_ble_eq_true rfl, Nat.le_of_ble_eq_true rfl⟩ ⟨Nat.zero_le _, Nat.zero_le _⟩ rfl rfl (Nat.le_of_ble_eq_true rfl) dX8_go_32 ?_
    rintro _ _ ⟨rfl, rfl⟩
    refine aw_iconst (v := (-1)) dX8_go_35 (by decide) ?_
    refine aw_ixor dX8_go_36 ?_
    refine aw_iand dX8_go_37 ?_
    refine aw_puti fp_X8_109_8 dX8_go_38 (by omega) rfl rfl rfl (Nat.le_of_ble_eq_true rfl) rfl ?_
    refine aw_aload_n dX8_go_41 rfl rfl ?_
    refine aw_get fd_X8_37_8 dX8_go_42 (by omega) rfl rfl ?_
    refine aw_iload_n dX8_go_45 rfl rfl ?_
    refine aw_aload_n dX8_go_46 rfl rfl ?_
    refine aw_get fd_X8_30_8 dX8_go_47 (by omega) rfl rfl ?_
    refine aw_get fd_X8_140_2 dX8_go_50 (by omega) rfl rfl ?_
    refine aw_aload_n dX8_go_53 rfl rfl ?_
    refine aw_get fd_X8_30_8 dX8_go_54 (by omega) rfl rfl ?_
    refine aw_get fd_X8_143_2 dX8_go_57 (by omega) rfl rfl ?_
    refine aw_callV cw_X0_add ml_X8_146 im_X0_add sl_X0_X0_add rfl (by omega) rfl (c_X0_add pk G _ _ n hn _ _ _) ⟨Nat.le_of_ble_eq_true rfl, Nat.le_of_ble_eq_true rfl⟩ ⟨Nat.zero_le _, Nat.zero_le _⟩ rfl rfl (Nat.le_of_ble_eq_true rfl) dX8_go_60 ?_
    rintro _ _ ⟨rfl, rfl⟩
    refine aw_iload_n dX8_go_63 rfl rfl ?_
    refine aw_iret dX8_go_64 (Nat.zero_le _) (Nat.zero_le _) ?_
    exact ⟨rfl, _, _, (((SC.mn I F _).tr (SC.l3 _ _ _ _ _)).stI (by decide)).ad, rfl, rfl⟩
  · exact absurd c_4 h0
set_option maxRecDepth 100000 in
set_option maxHeartbeats 4000000 in
theorem c_X8_order {l : Launch} {D : va_G} {tc : Nat → ClassId} (pk : Nat → Nat) (G : Nat → Option Nat) (I F : Nat → Nat → Int32) (n : Nat) (hn : 30 ≤ n) {c : Nat} {g : Nat → Nat} (hW : WP pk G n c g) (hI0 : I 0 7 = nI c) (x w : Int32) : AM l D tc yX8_order cX8_order 4 (some .int) 5 115 0 0 [.ref 0, .int x, .int w] n (hC pk G I F) (fun v n1 h1 => n1 = n ∧ (∃ I1 F1, SC I F I1 F1 ∧ h1 = hC pk G I1 F1 ∧ v = some (.int (if sW x 0 5 && sW w 0 1 then (if I 0 7 = 0 then -3 else if x < nI (gtM (myC pk g I c) (I 0 9)) then (if w = 0 then dnN (myC pk g I c) (I 0 9) x.toNatClampNeg else frN (myC pk g I c) (I 0 9) x.toNatClampNeg) else -9) else -2)))) := by
  refine am_of (L := [some (.ref 0), some (.int x), some (.int w), none]) (by decide +kernel) (Nat.le_of_ble_eq_true rfl) rfl ?_
  refine aw_iload_n dX8_order_0 rfl rfl ?_
  refine aw_iconst (v := 0) dX8_order_1 (by decide) ?_
  refine aw_iconst (v := 5) dX8_order_2 (by decide) ?_
  refine aw_callS cw_X8_isWithin ml_X8_122 sm_X8_isWithin (c_X8_isWithin _ _ _ _ _) ⟨Nat.le_of_ble_eq_true rfl, Nat.le_of_ble_eq_true rfl⟩ ⟨Nat.zero_le _, Nat.zero_le _⟩ rfl rfl (Nat.le_of_ble_eq_true rfl) dX8_order_3 ?_
  rintro _ _ ⟨rfl, rfl⟩
  refine aw_ifB_eq (tgt := 18) dX8_order_6 (by decide) (fun c_6 => ?_) (fun c_6 => ?_)
  · refine aw_bipush (v := (-2)) dX8_order_18 (by decide) ?_
    refine aw_iret dX8_order_20 (Nat.zero_le _) (Nat.zero_le _) ?_
    refine ⟨rfl, _, _, SC.rf _ _, rfl, ?_⟩
    first | (simp [*]; done) | (simp_all; done)
  · refine aw_iload_n dX8_order_9 rfl rfl ?_
    refine aw_iconst (v := 0) dX8_order_10 (by decide) ?_
    refine aw_iconst (v := 1) dX8_order_11 (by decide) ?_
    refine aw_callS cw_X8_isWithin ml_X8_122 sm_X8_isWithin (c_X8_isWithin _ _ _ _ _) ⟨Nat.le_of_ble_eq_true rfl, Nat.le_of_ble_eq_true rfl⟩ ⟨Nat.zero_le _, Nat.zero_le _⟩ rfl rfl (Nat.le_of_ble_eq_true rfl) dX8_order_12 ?_
    rintro _ _ ⟨rfl, rfl⟩
    refine aw_ifB_ne (tgt := 21) dX8_order_15 (by decide) (fun c_15 => ?_) (fun c_15 => ?_)
    · refine aw_aload_n dX8_order_21 rfl rfl ?_
      refine aw_get fd_X8_84_8 dX8_order_22 (by omega) rfl rfl ?_
      refine aw_if_ne (tgt := 31) dX8_order_25 (by decide) (fun c_25 => ?_) (fun c_25 => ?_)
      · refine aw_aload_n dX8_order_31 rfl rfl ?_
        refine aw_get fd_X8_30_8 dX8_order_32 (by omega) rfl rfl ?_
        refine aw_aload_n dX8_order_35 rfl rfl ?_
        refine aw_callV cw_X8_maysNow ml_X8_129 im_X8_maysNow sl_X8_X8_maysNow rfl (by omega) rfl (c_X8_maysNow pk G _ _ n hn hW hI0) ⟨Nat.le_of_ble_eq_true rfl, Nat.le_of_ble_eq_true rfl⟩ ⟨Nat.zero_le _, Nat.zero_le _⟩ rfl rfl (Nat.le_of_ble_eq_true rfl) dX8_order_36 ?_
        rintro _ _ ⟨rfl, rfl⟩
        refine aw_aload_n dX8_order_39 rfl rfl ?_
        refine aw_get fd_X8_109_8 dX8_order_40 (by omega) rfl rfl ?_
        refine aw_callV cw_X2_goThroughAll ml_X8_174 im_X2_goThroughAll sl_X2_X2_goThroughAll rfl (by omega) rfl (c_X2_goThroughAll pk G _ _ n hn _) ⟨Nat.le_of_ble_eq_true rfl, Nat.le_of_ble_eq_true rfl⟩ ⟨Nat.zero_le _, Nat.zero_le _⟩ rfl rfl (Nat.le_of_ble_eq_true rfl) dX8_order_43 ?_
        rintro _ _ ⟨rfl, f9, h9, s9, rfl⟩
        refine aw_istore_n dX8_order_46 rfl (by decide) rfl ?_
        refine aw_iload_n dX8_order_47 rfl rfl ?_
        refine aw_iload_n dX8_order_48 rfl rfl ?_
        refine aw_icmp_lt (tgt := 55) dX8_order_49 (by decide) (fun c_49 => ?_) (fun c_49 => ?_)
        · refine aw_iload_n dX8_order_55 rfl rfl ?_
          refine aw_if_ne (tgt := 71) dX8_order_56 (by decide) (fun c_56 => ?_) (fun c_56 => ?_)
          · obtain ⟨j, hj, hjM, rfl⟩ := lt_nI (by have := gtM_le (mnF F (myC pk g I c) 3) (I 0 9); omega) (m := 5) c_6 (by decide) c_49
            refine aw_aload_n dX8_order_71 rfl rfl ?_
            refine aw_get fd_X8_30_8 dX8_order_72 (by omega) rfl rfl ?_
            refine aw_get fd_X8_180_2 dX8_order_75 (by omega) rfl rfl ?_
            refine aw_iload_n dX8_order_78 rfl rfl ?_
            refine aw_iald dX8_order_79 (by omega) rfl (vp_in_nI (n := j) (by omega) (by decide)) ?_
            refine aw_iret dX8_order_80 (Nat.zero_le _) (Nat.zero_le _) ?_
            have hM : nI j < nI (gtM (myC pk g I c) (I 0 9)) := by rw [← gtM_mn F]; exact c_49
            refine ⟨rfl, _, _, ((SC.mn I F _).tr (SC.gt _ _ _ _)).tr (SC.l3 _ _ _ _ _), rfl, ?_⟩
            rw [if_pos (by rw [c_6, c_15]; rfl), if_neg c_25, if_pos hM]
            first | (rw [if_pos c_56, gt5 _ _ (by rw [nI_clamp (show j < 2 ^ 31 by omega)]; exact hjM), dnN_mn]) | (rw [if_neg c_56, gt6 _ _ (by rw [nI_clamp (show j < 2 ^ 31 by omega)]; exact hjM), frN_mn])
          · obtain ⟨j, hj, hjM, rfl⟩ := lt_nI (by have := gtM_le (mnF F (myC pk g I c) 3) (I 0 9); omega) (m := 5) c_6 (by decide) c_49
            refine aw_aload_n dX8_order_59 rfl rfl ?_
            refine aw_get fd_X8_30_8 dX8_order_60 (by omega) rfl rfl ?_
            refine aw_get fd_X8_177_2 dX8_order_63 (by omega) rfl rfl ?_
            refine aw_iload_n dX8_order_66 rfl rfl ?_
            refine aw_iald dX8_order_67 (by omega) rfl (vp_in_nI (n := j) (by omega) (by decide)) ?_
            refine aw_goto (tgt := 80) dX8_order_68 (by decide) ?_
            refine aw_iret dX8_order_80 (Nat.zero_le _) (Nat.zero_le _) ?_
            have hM : nI j < nI (gtM (myC pk g I c) (I 0 9)) := by rw [← gtM_mn F]; exact c_49
            refine ⟨rfl, _, _, ((SC.mn I F _).tr (SC.gt _ _ _ _)).tr (SC.l3 _ _ _ _ _), rfl, ?_⟩
            rw [if_pos (by rw [c_6, c_15]; rfl), if_neg c_25, if_pos hM]
            first | (rw [if_pos c_56, gt5 _ _ (by rw [nI_clamp (show j < 2 ^ 31 by omega)]; exact hjM), dnN_mn]) | (rw [if_neg c_56, gt6 _ _ (by rw [nI_clamp (show j < 2 ^ 31 by omega)]; exact hjM), frN_mn])
        · refine aw_bipush (v := (-9)) dX8_order_52 (by decide) ?_
          refine aw_iret dX8_order_54 (Nat.zero_le _) (Nat.zero_le _) ?_
          have hM : ¬ x < nI (gtM (myC pk g I c) (I 0 9)) := by rw [← gtM_mn F]; exact c_49
          refine ⟨rfl, _, _, ((SC.mn I F _).tr (SC.gt _ _ _ _)).tr (SC.l3 _ _ _ _ _), rfl, ?_⟩
          rw [if_pos (by rw [c_6, c_15]; rfl), if_neg c_25, if_neg hM]
      · refine aw_bipush (v := (-3)) dX8_order_28 (by decide) ?_
        refine aw_iret dX8_order_30 (Nat.zero_le _) (Nat.zero_le _) ?_
        refine ⟨rfl, _, _, SC.rf _ _, rfl, ?_⟩
        first | (simp [*]; done) | (simp_all; done)
    · refine aw_bipush (v := (-2)) dX8_order_18 (by decide) ?_
      refine aw_iret dX8_order_20 (Nat.zero_le _) (Nat.zero_le _) ?_
      refine ⟨rfl, _, _, SC.rf _ _, rfl, ?_⟩
      first | (simp [*]; done) | (simp_all; done)
set_option maxRecDepth 100000 in
set_option maxHeartbeats 4000000 in
theorem c_X8_hasteOfX {l : Launch} {D : va_G} {tc : Nat → ClassId} (pk : Nat → Nat) (G : Nat → Option Nat) (I F : Nat → Nat → Int32) (n : Nat) (hn : 30 ≤ n) {c : Nat} {g : Nat → Nat} (hW : WP pk G n c g) (hI0 : I 0 7 = nI c) (x : Int32) : AM l D tc yX8_hasteOf cX8_hasteOf 3 (some .int) 1 21 0 0 [.ref 0, .int x] n (hC pk G I F) (fun v n1 h1 => n1 = n ∧ (v = some (.int (sHx g I c x)) ∧ h1 = (hC pk G I F))) := by
  refine am_of (L := [some (.ref 0), some (.int x), none]) (by decide +kernel) (Nat.le_of_ble_eq_true rfl) rfl ?_
  refine aw_aload_n dX8_hasteOf_0 rfl rfl ?_
  refine aw_iload_n dX8_hasteOf_1 rfl rfl ?_
  rcases perC hW.1 (x) with hx_2 | ⟨p_2, hp_2, ex_2⟩
  · refine aw_callV cw_X8_personAt ml_X8_87 im_X8_personAt sl_X8_X8_personAt rfl (by omega) rfl (c_X8_personAt_no pk G _ _ n hn hI0 hx_2) ⟨Nat.le_of_ble_eq_true rfl, Nat.le_of_ble_eq_true rfl⟩ ⟨Nat.zero_le _, Nat.zero_le _⟩ rfl rfl (Nat.le_of_ble_eq_true rfl) dX8_hasteOf_2 ?_
    rintro _ _ ⟨rfl, rfl⟩
    refine aw_astore_nN dX8_hasteOf_5 rfl (by decide) rfl ?_
    refine aw_aload_nN dX8_hasteOf_6 rfl rfl ?_
    refine aw_ifnonnullN dX8_hasteOf_7 ?_
    refine aw_iconst (v := 0) dX8_hasteOf_10 (by decide) ?_
    refine aw_goto (tgt := 18) dX8_hasteOf_11 (by decide) ?_
    refine aw_iret dX8_hasteOf_18 (Nat.zero_le _) (Nat.zero_le _) ?_
    refine ⟨rfl, ?_, rfl⟩
    first | (rw [sHx, hx_2]; rfl) | (rw [sHx, if_pos (by rw [ex_2]; exact sP_nI hW.1 hp_2), ex_2, nI_clamp (by have := hW.1; omega)])
  · refine aw_callV cw_X8_personAt ml_X8_87 im_X8_personAt sl_X8_X8_personAt rfl (by omega) rfl (c_X8_personAt pk G _ _ n hn hW hI0 hp_2 ex_2) ⟨Nat.le_of_ble_eq_true rfl, Nat.le_of_ble_eq_true rfl⟩ ⟨Nat.zero_le _, Nat.zero_le _⟩ rfl rfl (Nat.le_of_ble_eq_true rfl) dX8_hasteOf_2 ?_
    rintro _ _ ⟨rfl, rfl⟩
    refine aw_astore_n dX8_hasteOf_5 rfl (by decide) rfl ?_
    refine aw_aload_n dX8_hasteOf_6 rfl rfl ?_
    refine aw_ifnonnull (tgt := 14) dX8_hasteOf_7 (by decide) ?_
    refine aw_aload_n dX8_hasteOf_14 rfl rfl ?_
    refine aw_getP fd_X8_95_1 fd_X8_95_3 fd_X8_95_4 (hW.2 _ hp_2).2.2 dX8_hasteOf_15 (hW.2 _ hp_2).2.1 (he_per _) rfl ?_
    refine aw_iret dX8_hasteOf_18 (Nat.zero_le _) (Nat.zero_le _) ?_
    refine ⟨rfl, ?_, rfl⟩
    first | (rw [sHx, hx_2]; rfl) | (rw [sHx, if_pos (by rw [ex_2]; exact sP_nI hW.1 hp_2), ex_2, nI_clamp (by have := hW.1; omega)])
theorem sHx_eq {I I1 : Nat → Nat → Int32} {g : Nat → Nat} {c : Nat} {x : Int32} (h : ∀ a, a ≠ 4 → I1 a = I a) : sHx g I1 c x = sHx g I c x := by unfold sHx; rw [h _ (by omega)]
set_option maxRecDepth 100000 in
set_option maxHeartbeats 4000000 in
theorem lp_X8_lossOfOrder {l : Launch} {D : va_G} {tc : Nat → ClassId} (pk : Nat → Nat) (G : Nat → Option Nat) (I F : Nat → Nat → Int32) (n : Nat) (hn : 30 ≤ n) {c : Nat} {g : Nat → Nat} (hW : WP pk G n c g) (hI0 : I 0 7 = nI c) (I1 F1 : Nat → Nat → Int32) (hs : SC I F I1 F1) (h5 : ∀ k, k < gtM (myC pk g I c) (I 0 9) → F1 5 k = dnN (myC pk g I c) (I 0 9) k) : ∀ (m i : Nat), i + m = gtM (myC pk g I c) (I 0 9) → AW l D tc yX8_lossOfOrder.cls cX8_lossOfOrder 4 (some .int) { frames := 5, cells := 0, slots := 0, locals := 115 } n 0 0 (fun v n1 h1 => n1 = n ∧ (∃ I1 F1, SC I F I1 F1 ∧ h1 = hC pk G I1 F1 ∧ v = some (.int (sumN (fun k => nI k * sHx g I c (dnN (myC pk g I c) (I 0 9) k)) (gtM (myC pk g I c) (I 0 9)))))) 20 [some (.ref 0), some (.int (nI (gtM (myC pk g I c) (I 0 9)))), some (.int (sumN (fun k => nI k * sHx g I c (dnN (myC pk g I c) (I 0 9) k)) i)), some (.int (nI i))] [] n (hC pk G I1 F1) 0 0 := by
  have hM := gtM_le (myC pk g I c) (I 0 9)
  intro m
  induction m using Nat.strongRecOn with
  | _ m ih =>
    intro i hi
    refine aw_iload_n dX8_lossOfOrder_20 rfl rfl ?_
    refine aw_iload_n dX8_lossOfOrder_21 rfl rfl ?_
    refine aw_icmp_ge (tgt := 49) dX8_lossOfOrder_22 (by decide) (fun c_22 => ?_) (fun c_22 => ?_)
    · have hi6 := lp_ge (N := gtM (myC pk g I c) (I 0 9)) (by omega) (by omega) c_22
      subst hi6
      refine aw_iload_n dX8_lossOfOrder_49 rfl rfl ?_
      refine aw_iret dX8_lossOfOrder_50 (Nat.zero_le _) (Nat.zero_le _) ?_
      exact ⟨rfl, I1, F1, hs, rfl, rfl⟩
    · have hi6 := lp_lt (N := gtM (myC pk g I c) (I 0 9)) (by omega) c_22
      refine aw_iload_n dX8_lossOfOrder_25 rfl rfl ?_
      refine aw_iload_n dX8_lossOfOrder_26 rfl rfl ?_
      refine aw_aload_n dX8_lossOfOrder_27 rfl rfl ?_
      refine aw_aload_n dX8_lossOfOrder_28 rfl rfl ?_
      refine aw_get fd_X8_30_8 dX8_lossOfOrder_29 (by omega) rfl rfl ?_
      refine aw_get fd_X8_177_2 dX8_lossOfOrder_32 (by omega) rfl rfl ?_
      refine aw_iload_n dX8_lossOfOrder_35 rfl rfl ?_
      refine aw_iald dX8_lossOfOrder_36 (by omega) rfl (vp_in_nI (by omega) (by decide)) ?_
      refine aw_callV cw_X8_hasteOf ml_X8_285 im_X8_hasteOf sl_X8_X8_hasteOf rfl (by omega) rfl (c_X8_hasteOfX pk G I1 _ n hn hW (by rw [hs.1 0 (by decide)]; exact hI0) _) ⟨Nat.le_of_ble_eq_true rfl, Nat.le_of_ble_eq_true rfl⟩ ⟨Nat.zero_le _, Nat.zero_le _⟩ rfl rfl (Nat.le_of_ble_eq_true rfl) dX8_lossOfOrder_37 ?_
      rintro _ _ ⟨rfl, rfl⟩
      rw [sHx_eq hs.1, nI_clamp (show i < 2 ^ 31 by omega), h5 i hi6]
      refine aw_imul dX8_lossOfOrder_40 ?_
      refine aw_iadd dX8_lossOfOrder_41 ?_
      refine aw_istore_n dX8_lossOfOrder_42 rfl (by decide) rfl ?_
      refine aw_iinc (v := 1) dX8_lossOfOrder_43 rfl (by decide) (by decide) rfl ?_
      refine aw_goto (tgt := 20) dX8_lossOfOrder_46 (by decide) ?_
      rw [nI_1]
      exact ih (m - 1) (by omega) (i + 1) (by omega)
set_option maxRecDepth 100000 in
set_option maxHeartbeats 4000000 in
theorem c_X8_lossOfOrder {l : Launch} {D : va_G} {tc : Nat → ClassId} (pk : Nat → Nat) (G : Nat → Option Nat) (I F : Nat → Nat → Int32) (n : Nat) (hn : 30 ≤ n) {c : Nat} {g : Nat → Nat} (hW : WP pk G n c g) (hI0 : I 0 7 = nI c) : AM l D tc yX8_lossOfOrder cX8_lossOfOrder 4 (some .int) 5 115 0 0 [.ref 0] n (hC pk G I F) (fun v n1 h1 => n1 = n ∧ (∃ I1 F1, SC I F I1 F1 ∧ h1 = hC pk G I1 F1 ∧ v = some (.int (sumN (fun k => nI k * sHx g I c (dnN (myC pk g I c) (I 0 9) k)) (gtM (myC pk g I c) (I 0 9)))))) := by
  refine am_of (L := [some (.ref 0), none, none, none]) (by decide +kernel) (Nat.le_of_ble_eq_true rfl) rfl ?_
  refine aw_aload_n dX8_lossOfOrder_0 rfl rfl ?_
  refine aw_get fd_X8_30_8 dX8_lossOfOrder_1 (by omega) rfl rfl ?_
  refine aw_aload_n dX8_lossOfOrder_4 rfl rfl ?_
  refine aw_callV cw_X8_maysNow ml_X8_129 im_X8_maysNow sl_X8_X8_maysNow rfl (by omega) rfl (c_X8_maysNow pk G _ _ n hn hW hI0) ⟨Nat.le_of_ble_eq_true rfl, Nat.le_of_ble_eq_true rfl⟩ ⟨Nat.zero_le _, Nat.zero_le _⟩ rfl rfl (Nat.le_of_ble_eq_true rfl) dX8_lossOfOrder_5 ?_
  rintro _ _ ⟨rfl, rfl⟩
  refine aw_aload_n dX8_lossOfOrder_8 rfl rfl ?_
  refine aw_get fd_X8_109_8 dX8_lossOfOrder_9 (by omega) rfl rfl ?_
  refine aw_callV cw_X2_goThroughAll ml_X8_174 im_X2_goThroughAll sl_X2_X2_goThroughAll rfl (by omega) rfl (c_X2_goThroughAll pk G _ _ n hn _) ⟨Nat.le_of_ble_eq_true rfl, Nat.le_of_ble_eq_true rfl⟩ ⟨Nat.zero_le _, Nat.zero_le _⟩ rfl rfl (Nat.le_of_ble_eq_true rfl) dX8_lossOfOrder_12 ?_
  rintro _ _ ⟨rfl, f9, h9, s9, rfl⟩
  rw [gtM_mn]
  refine aw_istore_n dX8_lossOfOrder_15 rfl (by decide) rfl ?_
  refine aw_iconst (v := 0) dX8_lossOfOrder_16 (by decide) ?_
  refine aw_istore_n dX8_lossOfOrder_17 rfl (by decide) rfl ?_
  refine aw_iconst (v := 0) dX8_lossOfOrder_18 (by decide) ?_
  refine aw_istore_n dX8_lossOfOrder_19 rfl (by decide) rfl ?_
  exact lp_X8_lossOfOrder pk G I F n hn hW hI0 _ _ (((SC.mn I F _).tr (SC.gt _ _ _ _)).tr (SC.l3 _ _ _ _ _)) (fun k hk => by rw [gt5 _ _ hk, dnN_mn]) (gtM (myC pk g I c) (I 0 9)) 0 (by omega)
set_option maxRecDepth 100000 in
set_option maxHeartbeats 4000000 in
theorem lp_X8_leastLoss2 {l : Launch} {D : va_G} {tc : Nat → ClassId} (pk : Nat → Nat) (G : Nat → Option Nat) (I F : Nat → Nat → Int32) (n : Nat) (hn : 30 ≤ n) {c : Nat} {g : Nat → Nat} (hW : WP pk G n c g) (hI0 : I 0 7 = nI c) (Q : Option Value → Nat → aw_H → Prop) {p : Nat} (hp : p < 6) (hk9 : ∀ w : Option Value, AW l D tc yX8_leastLoss.cls cX8_leastLoss 5 (some .int) { frames := 2, cells := 0, slots := 0, locals := 43 } n 0 0 Q 79 [some (.ref 0), some (.int (ouN (I 0 9) (fun q => sHx g I c (nI q)) p + inN (I 0 9) (fun q => sHx g I c (nI q)) p p)), some (.int (nI p)), some (.int (nI p)), w] [] n (hC pk G I F) 0 0) : ∀ (m i : Nat) (w : Option Value), i + m = p → AW l D tc yX8_leastLoss.cls cX8_leastLoss 5 (some .int) { frames := 2, cells := 0, slots := 0, locals := 43 } n 0 0 Q 14 [some (.ref 0), some (.int (ouN (I 0 9) (fun q => sHx g I c (nI q)) p + inN (I 0 9) (fun q => sHx g I c (nI q)) p i)), some (.int (nI p)), some (.int (nI i)), w] [] n (hC pk G I F) 0 0 := by
  intro m
  induction m using Nat.strongRecOn with
  | _ m ih =>
    intro i w hi
    refine aw_iload_n dX8_leastLoss_14 rfl rfl ?_
    refine aw_iload_n dX8_leastLoss_15 rfl rfl ?_
    refine aw_icmp_ge (tgt := 79) dX8_leastLoss_16 (by decide) (fun c_16 => ?_) (fun c_16 => ?_)
    · have hi6 := lp_ge (N := p) (by omega) (by omega) c_16
      subst hi6
      exact hk9 _
    · have hi6 := lp_lt (N := p) (by omega) c_16
      refine aw_aload_n dX8_leastLoss_19 rfl rfl ?_
      refine aw_get fd_X8_109_8 dX8_leastLoss_20 (by omega) rfl rfl ?_
      refine aw_iload_n dX8_leastLoss_23 rfl rfl ?_
      refine aw_callS cw_X8_has ml_X8_112 sm_X8_has (c_X8_has _ _ _ _) ⟨Nat.le_of_ble_eq_true rfl, Nat.le_of_ble_eq_true rfl⟩ ⟨Nat.zero_le _, Nat.zero_le _⟩ rfl rfl (Nat.le_of_ble_eq_true rfl) dX8_leastLoss_24 ?_
      rintro _ _ ⟨rfl, rfl⟩
      refine aw_ifB_eq (tgt := 45) dX8_leastLoss_27 (by decide) (fun c_27 => ?_) (fun c_27 => ?_)
      · refine aw_iconst (v := 0) dX8_leastLoss_45 (by decide) ?_
        refine aw_istore dX8_leastLoss_46 (by decide) rfl ?_
        refine aw_iload_n dX8_leastLoss_48 rfl rfl ?_
        refine aw_iload dX8_leastLoss_49 rfl ?_
        refine aw_if_eq (tgt := 70) dX8_leastLoss_51 (by decide) (fun _ => ?_) (fun c9 => absurd rfl c9)
        refine aw_iconst (v := 0) dX8_leastLoss_70 (by decide) ?_
        refine aw_iadd dX8_leastLoss_71 ?_
        refine aw_istore_n dX8_leastLoss_72 rfl (by decide) rfl ?_
        rw [Int32.add_assoc, show inN (I 0 9) (fun q => sHx g I c (nI q)) p i + _ = inN (I 0 9) (fun q => sHx g I c (nI q)) p (i + 1) from by rw [inN]; simp [*]]
        refine aw_iinc (v := 1) dX8_leastLoss_73 rfl (by decide) (by decide) rfl ?_
        refine aw_goto (tgt := 14) dX8_leastLoss_76 (by decide) ?_
        rw [nI_1]
        exact ih (m - 1) (by omega) (i + 1) _ (by omega)
      · refine aw_aload_n dX8_leastLoss_30 rfl rfl ?_
        refine aw_get fd_X8_109_8 dX8_leastLoss_31 (by omega) rfl rfl ?_
        refine aw_iload_n dX8_leastLoss_34 rfl rfl ?_
        refine aw_callS cw_X8_has ml_X8_112 sm_X8_has (c_X8_has _ _ _ _) ⟨Nat.le_of_ble_eq_true rfl, Nat.le_of_ble_eq_true rfl⟩ ⟨Nat.zero_le _, Nat.zero_le _⟩ rfl rfl (Nat.le_of_ble_eq_true rfl) dX8_leastLoss_35 ?_
        rintro _ _ ⟨rfl, rfl⟩
        refine aw_ifB_eq (tgt := 45) dX8_leastLoss_38 (by decide) (fun c_38 => ?_) (fun c_38 => ?_)
        · refine aw_iconst (v := 0) dX8_leastLoss_45 (by decide) ?_
          refine aw_istore dX8_leastLoss_46 (by decide) rfl ?_
          refine aw_iload_n dX8_leastLoss_48 rfl rfl ?_
          refine aw_iload dX8_leastLoss_49 rfl ?_
          refine aw_if_eq (tgt := 70) dX8_leastLoss_51 (by decide) (fun _ => ?_) (fun c9 => absurd rfl c9)
          refine aw_iconst (v := 0) dX8_leastLoss_70 (by decide) ?_
          refine aw_iadd dX8_leastLoss_71 ?_
          refine aw_istore_n dX8_leastLoss_72 rfl (by decide) rfl ?_
          rw [Int32.add_assoc, show inN (I 0 9) (fun q => sHx g I c (nI q)) p i + _ = inN (I 0 9) (fun q => sHx g I c (nI q)) p (i + 1) from by rw [inN]; simp [*]]
          refine aw_iinc (v := 1) dX8_leastLoss_73 rfl (by decide) (by decide) rfl ?_
          refine aw_goto (tgt := 14) dX8_leastLoss_76 (by decide) ?_
          rw [nI_1]
          exact ih (m - 1) (by omega) (i + 1) _ (by omega)
        · refine aw_iconst (v := 1) dX8_leastLoss_41 (by decide) ?_
          refine aw_goto (tgt := 46) dX8_leastLoss_42 (by decide) ?_
          refine aw_istore dX8_leastLoss_46 (by decide) rfl ?_
          refine aw_iload_n dX8_leastLoss_48 rfl rfl ?_
          refine aw_iload dX8_leastLoss_49 rfl ?_
          refine aw_if_eq (tgt := 70) dX8_leastLoss_51 (by decide) (fun c9 => absurd c9 (by decide)) (fun _ => ?_)
          refine aw_aload_n dX8_leastLoss_54 rfl rfl ?_
          refine aw_iload_n dX8_leastLoss_55 rfl rfl ?_
          refine aw_callV cw_X8_hasteOf ml_X8_285 im_X8_hasteOf sl_X8_X8_hasteOf rfl (by omega) rfl (c_X8_hasteOfX pk G _ _ n hn hW hI0 _) ⟨Nat.le_of_ble_eq_true rfl, Nat.le_of_ble_eq_true rfl⟩ ⟨Nat.zero_le _, Nat.zero_le _⟩ rfl rfl (Nat.le_of_ble_eq_true rfl) dX8_leastLoss_56 ?_
          rintro _ _ ⟨rfl, rfl⟩
          refine aw_aload_n dX8_leastLoss_59 rfl rfl ?_
          refine aw_iload_n dX8_leastLoss_60 rfl rfl ?_
          refine aw_callV cw_X8_hasteOf ml_X8_285 im_X8_hasteOf sl_X8_X8_hasteOf rfl (by omega) rfl (c_X8_hasteOfX pk G _ _ n hn hW hI0 _) ⟨Nat.le_of_ble_eq_true rfl, Nat.le_of_ble_eq_true rfl⟩ ⟨Nat.zero_le _, Nat.zero_le _⟩ rfl rfl (Nat.le_of_ble_eq_true rfl) dX8_leastLoss_61 ?_
          rintro _ _ ⟨rfl, rfl⟩
          refine aw_min ml_X8_259 ⟨Nat.le_of_ble_eq_true rfl, Nat.le_of_ble_eq_true rfl⟩ ⟨Nat.zero_le _, Nat.zero_le _⟩ (Nat.le_of_ble_eq_true rfl) dX8_leastLoss_64 ?_
          refine aw_goto (tgt := 71) dX8_leastLoss_67 (by decide) ?_
          refine aw_iadd dX8_leastLoss_71 ?_
          refine aw_istore_n dX8_leastLoss_72 rfl (by decide) rfl ?_
          rw [Int32.add_assoc, show inN (I 0 9) (fun q => sHx g I c (nI q)) p i + _ = inN (I 0 9) (fun q => sHx g I c (nI q)) p (i + 1) from by rw [inN]; simp [*]]
          refine aw_iinc (v := 1) dX8_leastLoss_73 rfl (by decide) (by decide) rfl ?_
          refine aw_goto (tgt := 14) dX8_leastLoss_76 (by decide) ?_
          rw [nI_1]
          exact ih (m - 1) (by omega) (i + 1) _ (by omega)
set_option maxRecDepth 100000 in
set_option maxHeartbeats 4000000 in
theorem lp_X8_leastLoss {l : Launch} {D : va_G} {tc : Nat → ClassId} (pk : Nat → Nat) (G : Nat → Option Nat) (I F : Nat → Nat → Int32) (n : Nat) (hn : 30 ≤ n) {c : Nat} {g : Nat → Nat} (hW : WP pk G n c g) (hI0 : I 0 7 = nI c) : ∀ (m i : Nat) (w w2 : Option Value), i + m = c → AW l D tc yX8_leastLoss.cls cX8_leastLoss 5 (some .int) { frames := 2, cells := 0, slots := 0, locals := 43 } n 0 0 (fun v n1 h1 => n1 = n ∧ (v = some (.int (ouN (I 0 9) (fun q => sHx g I c (nI q)) c)) ∧ h1 = (hC pk G I F))) 4 [some (.ref 0), some (.int (ouN (I 0 9) (fun q => sHx g I c (nI q)) i)), some (.int (nI i)), w, w2] [] n (hC pk G I F) 0 0 := by
  intro m
  induction m using Nat.strongRecOn with
  | _ m ih =>
    intro i w w2 hi
    refine aw_iload_n dX8_leastLoss_4 rfl rfl ?_
    refine aw_aload_n dX8_leastLoss_5 rfl rfl ?_
    refine aw_get fd_X8_84_8 dX8_leastLoss_6 (by omega) rfl rfl ?_
    refine aw_icmp_ge (tgt := 85) dX8_leastLoss_9 (by decide) (fun c_9 => ?_) (fun c_9 => ?_)
    · have hi6 : i = c := lp_ge (by have := hW.1; omega) (by omega) (by rw [← hI0]; exact c_9)
      subst hi6
      refine aw_iload_n dX8_leastLoss_85 rfl rfl ?_
      refine aw_iret dX8_leastLoss_86 (Nat.zero_le _) (Nat.zero_le _) ?_
      exact ⟨rfl, rfl, rfl⟩
    · have hi6 : i < c := lp_lt (N := c) (by have := hW.1; omega) (by rw [← hI0]; exact c_9)
      refine aw_iconst (v := 0) dX8_leastLoss_12 (by decide) ?_
      refine aw_istore_n dX8_leastLoss_13 rfl (by decide) rfl ?_
      have e9 : ouN (I 0 9) (fun q => sHx g I c (nI q)) i = ouN (I 0 9) (fun q => sHx g I c (nI q)) i + inN (I 0 9) (fun q => sHx g I c (nI q)) i 0 := by rw [inN]; exact (Int32.add_zero _).symm
      rw [e9]
      refine lp_X8_leastLoss2 pk G I F n hn hW hI0 _ (p := i) (by have := hW.1; omega) (fun w9 => ?_) i 0 _ (by omega)
      refine aw_iinc (v := 1) dX8_leastLoss_79 rfl (by decide) (by decide) rfl ?_
      refine aw_goto (tgt := 4) dX8_leastLoss_82 (by decide) ?_
      rw [nI_1]
      exact ih (m - 1) (by omega) (i + 1) _ _ (by omega)
set_option maxRecDepth 100000 in
set_option maxHeartbeats 4000000 in
theorem c_X8_leastLoss {l : Launch} {D : va_G} {tc : Nat → ClassId} (pk : Nat → Nat) (G : Nat → Option Nat) (I F : Nat → Nat → Int32) (n : Nat) (hn : 30 ≤ n) {c : Nat} {g : Nat → Nat} (hW : WP pk G n c g) (hI0 : I 0 7 = nI c) : AM l D tc yX8_leastLoss cX8_leastLoss 5 (some .int) 2 43 0 0 [.ref 0] n (hC pk G I F) (fun v n1 h1 => n1 = n ∧ (v = some (.int (ouN (I 0 9) (fun q => sHx g I c (nI q)) c)) ∧ h1 = (hC pk G I F))) := by
  refine am_of (L := [some (.ref 0), none, none, none, none]) (by decide +kernel) (Nat.le_of_ble_eq_true rfl) rfl ?_
  refine aw_iconst (v := 0) dX8_leastLoss_0 (by decide) ?_
  refine aw_istore_n dX8_leastLoss_1 rfl (by decide) rfl ?_
  refine aw_iconst (v := 0) dX8_leastLoss_2 (by decide) ?_
  refine aw_istore_n dX8_leastLoss_3 rfl (by decide) rfl ?_
  exact lp_X8_leastLoss pk G I F n hn hW hI0 c 0 none none (by omega)
set_option maxRecDepth 100000 in
set_option maxHeartbeats 4000000 in
theorem c_X8_loss {l : Launch} {D : va_G} {tc : Nat → ClassId} (pk : Nat → Nat) (G : Nat → Option Nat) (I F : Nat → Nat → Int32) (n : Nat) (hn : 30 ≤ n) {c : Nat} {g : Nat → Nat} (hW : WP pk G n c g) (hI0 : I 0 7 = nI c) (w : Int32) : AM l D tc yX8_loss cX8_loss 2 (some .int) 6 138 0 0 [.ref 0, .int w] n (hC pk G I F) (fun v n1 h1 => n1 = n ∧ (∃ I1 F1, SC I F I1 F1 ∧ h1 = hC pk G I1 F1 ∧ v = some (.int (if sW w 0 1 then (if I 0 7 = 0 then -3 else if w = 0 then (sumN (fun k => nI k * sHx g I c (dnN (myC pk g I c) (I 0 9) k)) (gtM (myC pk g I c) (I 0 9))) else ouN (I 0 9) (fun q => sHx g I c (nI q)) c) else -2)))) := by
  refine am_of (L := [some (.ref 0), some (.int w)]) (by decide +kernel) (Nat.le_of_ble_eq_true rfl) rfl ?_
  refine aw_iload_n dX8_loss_0 rfl rfl ?_
  refine aw_iconst (v := 0) dX8_loss_1 (by decide) ?_
  refine aw_iconst (v := 1) dX8_loss_2 (by decide) ?_
  refine aw_callS cw_X8_isWithin ml_X8_122 sm_X8_isWithin (c_X8_isWithin _ _ _ _ _) ⟨Nat.le_of_ble_eq_true rfl, Nat.le_of_ble_eq_true rfl⟩ ⟨Nat.zero_le _, Nat.zero_le _⟩ rfl rfl (Nat.le_of_ble_eq_true rfl) dX8_loss_3 ?_
  rintro _ _ ⟨rfl, rfl⟩
  refine aw_ifB_ne (tgt := 12) dX8_loss_6 (by decide) (fun c_6 => ?_) (fun c_6 => ?_)
  · refine aw_aload_n dX8_loss_12 rfl rfl ?_
    refine aw_get fd_X8_84_8 dX8_loss_13 (by omega) rfl rfl ?_
    refine aw_if_ne (tgt := 22) dX8_loss_16 (by decide) (fun c_16 => ?_) (fun c_16 => ?_)
    · refine aw_iload_n dX8_loss_22 rfl rfl ?_
      refine aw_if_ne (tgt := 33) dX8_loss_23 (by decide) (fun c_23 => ?_) (fun c_23 => ?_)
      · refine aw_aload_n dX8_loss_33 rfl rfl ?_
        refine aw_callV cw_X8_leastLoss ml_X8_186 im_X8_leastLoss sl_X8_X8_leastLoss rfl (by omega) rfl (c_X8_leastLoss pk G _ _ n hn hW hI0) ⟨Nat.le_of_ble_eq_true rfl, Nat.le_of_ble_eq_true rfl⟩ ⟨Nat.zero_le _, Nat.zero_le _⟩ rfl rfl (Nat.le_of_ble_eq_true rfl) dX8_loss_34 ?_
        rintro _ _ ⟨rfl, rfl⟩
        refine aw_iret dX8_loss_37 (Nat.zero_le _) (Nat.zero_le _) ?_
        first | (refine ⟨rfl, _, _, SC.rf _ _, rfl, ?_⟩; first | (simp [*]; done) | (simp_all; done)) | (refine ⟨rfl, _, _, hs, rfl, ?_⟩; first | (simp [*]; done) | (simp_all; done))
      · refine aw_aload_n dX8_loss_26 rfl rfl ?_
        refine aw_callV cw_X8_lossOfOrder ml_X8_183 im_X8_lossOfOrder sl_X8_X8_lossOfOrder rfl (by omega) rfl (c_X8_lossOfOrder pk G _ _ n hn hW hI0) ⟨Nat.le_of_ble_eq_true rfl, Nat.le_of_ble_eq_true rfl⟩ ⟨Nat.zero_le _, Nat.zero_le _⟩ rfl rfl (Nat.le_of_ble_eq_true rfl) dX8_loss_27 ?_
        rintro _ _ ⟨I1, F1, hs, rfl, rfl⟩
        refine aw_goto (tgt := 37) dX8_loss_30 (by decide) ?_
        refine aw_iret dX8_loss_37 (Nat.zero_le _) (Nat.zero_le _) ?_
        first | (refine ⟨rfl, _, _, SC.rf _ _, rfl, ?_⟩; first | (simp [*]; done) | (simp_all; done)) | (refine ⟨rfl, _, _, hs, rfl, ?_⟩; first | (simp [*]; done) | (simp_all; done))
    · refine aw_bipush (v := (-3)) dX8_loss_19 (by decide) ?_
      refine aw_iret dX8_loss_21 (Nat.zero_le _) (Nat.zero_le _) ?_
      first | (refine ⟨rfl, _, _, SC.rf _ _, rfl, ?_⟩; first | (simp [*]; done) | (simp_all; done)) | (refine ⟨rfl, _, _, hs, rfl, ?_⟩; first | (simp [*]; done) | (simp_all; done))
  · refine aw_bipush (v := (-2)) dX8_loss_9 (by decide) ?_
    refine aw_iret dX8_loss_11 (Nat.zero_le _) (Nat.zero_le _) ?_
    first | (refine ⟨rfl, _, _, SC.rf _ _, rfl, ?_⟩; first | (simp [*]; done) | (simp_all; done)) | (refine ⟨rfl, _, _, hs, rfl, ?_⟩; first | (simp [*]; done) | (simp_all; done))
