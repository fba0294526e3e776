set_option maxRecDepth 100000 in
set_option maxHeartbeats 4000000 in
theorem lp_X9_wouldGoOn {l : Launch} {D : va_G} {tc : Nat → ClassId} (I F : Nat → Nat → Int32) {c : Nat} (hc : c ≤ 6) (hI5 : I 0 5 = nI c) {x : Nat} (hx : x < 2 ^ c) (hx31 : x < 2 ^ 31) (hI7 : I 0 7 = nI x) (f h s : Int32) : ∀ (m i : Nat) (a : Int32), i + m = c → sumN (fun p => if sHas (nI x) (nI p) && !decide (nI p = h) && !decide (myM I F p ≤ f) then 1 else 0) i = a → AW l D tc yX9_wouldGoOn.cls cX9_wouldGoOn 3 (some .int) { frames := 2, cells := 0, slots := 0, locals := 43 } 15 0 0 (fun v n1 h1 => n1 = 15 ∧ (v = some (.int (goN (nI x) (myM I F) f h c)) ∧ h1 = (hM (LM I f h s) F))) 4 [some (.ref 0), some (.int a), some (.int (nI i))] [] 15 (hM (LM I f h s) F) 0 0 := by
  intro m
  induction m using Nat.strongRecOn with
  | _ m ih =>
    intro i a hi hq
    refine aw_iload_n dX9_wouldGoOn_4 rfl rfl ?_
    refine aw_aload_n dX9_wouldGoOn_5 rfl rfl ?_
    refine aw_get fd_X9_62_9 dX9_wouldGoOn_6 (by decide) he_LM rfl ?_
    refine aw_icmp_ge (tgt := 57) dX9_wouldGoOn_9 (by decide) (fun c_9 => ?_) (fun c_9 => ?_)
    · have hi6 : i = c := lp_ge (by omega) (by omega) (by rw [← hI5]; exact c_9)
      subst hi6
      refine aw_iload_n dX9_wouldGoOn_57 rfl rfl ?_
      refine aw_iret dX9_wouldGoOn_58 (Nat.zero_le _) (Nat.zero_le _) ?_
      rw [goN, hq]
      exact ⟨rfl, rfl, rfl⟩
    · have hi6 : i < c := lp_lt (N := c) (by omega) (by rw [← hI5]; exact c_9)
      refine aw_iload_n dX9_wouldGoOn_12 rfl rfl ?_
      refine aw_aload_n dX9_wouldGoOn_13 rfl rfl ?_
      refine aw_get fd_X9_98_9 dX9_wouldGoOn_14 (by decide) he_LM rfl ?_
      rw [hI7]
      refine aw_iload_n dX9_wouldGoOn_17 rfl rfl ?_
      refine aw_callS cw_X9_isOf ml_X9_139 sm_X9_isOf (c_X9_isOf _ _ _ _) ⟨Nat.le_of_ble_eq_true rfl, Nat.le_of_ble_eq_true rfl⟩ ⟨Nat.zero_le _, Nat.zero_le _⟩ rfl rfl (Nat.le_of_ble_eq_true rfl) dX9_wouldGoOn_18 ?_
      rintro _ _ ⟨rfl, rfl⟩
      rw [of_has (by omega) (by omega)]
      refine aw_ifB_eq (tgt := 48) dX9_wouldGoOn_21 (by decide) (fun c_21 => ?_) (fun c_21 => ?_)
      · refine aw_iconst (v := 0) dX9_wouldGoOn_48 (by decide) ?_
        refine aw_iadd dX9_wouldGoOn_49 ?_
        refine aw_istore_n dX9_wouldGoOn_50 rfl (by decide) rfl ?_
        refine aw_iinc (v := 1) dX9_wouldGoOn_51 rfl (by decide) (by decide) rfl ?_
        refine aw_goto (tgt := 4) dX9_wouldGoOn_54 (by decide) ?_
        rw [nI_1]
        exact ih (m - 1) (by omega) (i + 1) _ (by omega) (by
          rw [sumN, hq]
          clear hI5 hI7 hq ih
          congr 1
          simp [*])
      · refine aw_iload_n dX9_wouldGoOn_24 rfl rfl ?_
        refine aw_aload_n dX9_wouldGoOn_25 rfl rfl ?_
        refine aw_get fd_X9_133_9 dX9_wouldGoOn_26 (by decide) he_LM rfl ?_
        refine aw_icmp_eq (tgt := 48) dX9_wouldGoOn_29 (by decide) (fun c_29 => ?_) (fun c_29 => ?_)
        · refine aw_iconst (v := 0) dX9_wouldGoOn_48 (by decide) ?_
          refine aw_iadd dX9_wouldGoOn_49 ?_
          refine aw_istore_n dX9_wouldGoOn_50 rfl (by decide) rfl ?_
          refine aw_iinc (v := 1) dX9_wouldGoOn_51 rfl (by decide) (by decide) rfl ?_
          refine aw_goto (tgt := 4) dX9_wouldGoOn_54 (by decide) ?_
          rw [nI_1]
          exact ih (m - 1) (by omega) (i + 1) _ (by omega) (by
            rw [sumN, hq]
            clear hI5 hI7 hq ih
            congr 1
            simp [*])
        · refine aw_aload_n dX9_wouldGoOn_32 rfl rfl ?_
          refine aw_iload_n dX9_wouldGoOn_33 rfl rfl ?_
          refine aw_callV cw_X9_mayOf ml_X9_123 im_X9_mayOf sl_X9_X9_mayOf rfl (by decide) he_LM (c_X9_mayOf (LM I f h s) F (p := i) (by omega)) ⟨Nat.le_of_ble_eq_true rfl, Nat.le_of_ble_eq_true rfl⟩ ⟨Nat.zero_le _, Nat.zero_le _⟩ rfl rfl (Nat.le_of_ble_eq_true rfl) dX9_wouldGoOn_34 ?_
          rintro _ _ ⟨rfl, rfl⟩
          rw [myM_LM]
          refine aw_aload_n dX9_wouldGoOn_37 rfl rfl ?_
          refine aw_get fd_X9_130_9 dX9_wouldGoOn_38 (by decide) he_LM rfl ?_
          refine aw_icmp_le (tgt := 48) dX9_wouldGoOn_41 (by decide) (fun c_41 => ?_) (fun c_41 => ?_)
          · refine aw_iconst (v := 0) dX9_wouldGoOn_48 (by decide) ?_
            refine aw_iadd dX9_wouldGoOn_49 ?_
            refine aw_istore_n dX9_wouldGoOn_50 rfl (by decide) rfl ?_
            refine aw_iinc (v := 1) dX9_wouldGoOn_51 rfl (by decide) (by decide) rfl ?_
            refine aw_goto (tgt := 4) dX9_wouldGoOn_54 (by decide) ?_
            rw [nI_1]
            exact ih (m - 1) (by omega) (i + 1) _ (by omega) (by
              rw [sumN, hq]
              clear hI5 hI7 hq ih
              congr 1
              simp [*])
          · refine aw_iconst (v := 1) dX9_wouldGoOn_44 (by decide) ?_
            refine aw_goto (tgt := 49) dX9_wouldGoOn_45 (by decide) ?_
            refine aw_iadd dX9_wouldGoOn_49 ?_
            refine aw_istore_n dX9_wouldGoOn_50 rfl (by decide) rfl ?_
            refine aw_iinc (v := 1) dX9_wouldGoOn_51 rfl (by decide) (by decide) rfl ?_
            refine aw_goto (tgt := 4) dX9_wouldGoOn_54 (by decide) ?_
            rw [nI_1]
            exact ih (m - 1) (by omega) (i + 1) _ (by omega) (by
              rw [sumN, hq]
              clear hI5 hI7 hq ih
              congr 1
              simp [*])
set_option maxRecDepth 100000 in
set_option maxHeartbeats 4000000 in
theorem c_X9_wouldGoOn {l : Launch} {D : va_G} {tc : Nat → ClassId} (I F : Nat → Nat → Int32) {c : Nat} (hc : c ≤ 6) (hI5 : I 0 5 = nI c) {x : Nat} (hx : x < 2 ^ c) (hI7 : I 0 7 = nI x) (f h s : Int32) : AM l D tc yX9_wouldGoOn cX9_wouldGoOn 3 (some .int) 2 43 0 0 [.ref 0] 15 (hM (LM I f h s) F) (fun v n1 h1 => n1 = 15 ∧ (v = some (.int (goN (nI x) (myM I F) f h c)) ∧ h1 = (hM (LM I f h s) F))) := by
  refine am_of (L := [some (.ref 0), none, none]) (by decide +kernel) (Nat.le_of_ble_eq_true rfl) rfl ?_
  refine aw_iconst (v := 0) dX9_wouldGoOn_0 (by decide) ?_
  refine aw_istore_n dX9_wouldGoOn_1 rfl (by decide) rfl ?_
  refine aw_iconst (v := 0) dX9_wouldGoOn_2 (by decide) ?_
  refine aw_istore_n dX9_wouldGoOn_3 rfl (by decide) rfl ?_
  have h6 : 2 ^ c ≤ 2 ^ 6 := Nat.pow_le_pow_right (by decide) hc
  exact lp_X9_wouldGoOn I F hc hI5 hx (by omega) hI7 f h s c 0 0 (by omega) rfl
def ctW (q : Option Nat × Int32 × Int32) : Int32 := match q.1 with
  | some k => nI k
  | none => -9
theorem ix2 (b q : Nat) : nI b + (2 : Int32) * nI q = nI (b + 2 * q) := by
  rw [show (2 : Int32) = nI 2 from rfl, pk_mul, nI_add]
set_option maxRecDepth 100000 in
set_option maxHeartbeats 4000000 in
theorem lp_X9_goCalls {l : Launch} {D : va_G} {tc : Nat → ClassId} (I F : Nat → Nat → Int32) {c : Nat} (hc : c ≤ 6) (hI5 : I 0 5 = nI c) {x : Nat} (hx : x < 2 ^ c) (hx31 : x < 2 ^ 31) (hI7 : I 0 7 = nI x) {b n : Nat} (hb : b + 2 * n ≤ 240) (hall : ∀ k, k < n → sP c (F 3 (b + 2 * k)) = true) (s : Int32) (q : Option Nat × Int32 × Int32) : ∀ (m i : Nat) (f h : Int32) (w4 w5 : Option Value), i + m = n → ctN (nI x) (myM I F) (fun k => F 3 (b + 2 * k)) (fun k => F 3 (b + 2 * k + 1)) i m f h = q → AW l D tc yX9_goCalls.cls cX9_goCalls 6 (some .int) { frames := 2, cells := 0, slots := 0, locals := 43 } 15 0 0 (fun v n1 h1 => n1 = 15 ∧ (v = some (.int (ctW q)) ∧ h1 = hM (LM I q.2.1 q.2.2 s) F)) 13 [some (.ref 0), some (.int (nI b)), some (.int (nI n)), some (.int (nI i)), w4, w5] [] 15 (hM (LM I f h s) F) 0 0 := by
  intro m
  induction m using Nat.strongRecOn with
  | _ m ih =>
    intro i f h w4 w5 hi hq
    refine aw_iload_n dX9_goCalls_13 rfl rfl ?_
    refine aw_iload_n dX9_goCalls_14 rfl rfl ?_
    refine aw_icmp_ge (tgt := 96) dX9_goCalls_15 (by decide) (fun c_15 => ?_) (fun c_15 => ?_)
    · refine aw_bipush (v := (-9)) dX9_goCalls_96 (by decide) ?_
      refine aw_iret dX9_goCalls_98 (Nat.zero_le _) (Nat.zero_le _) ?_
      have hi6 : i = n := lp_ge (by omega) (by omega) c_15
      have hm : m = 0 := by omega
      subst hm
      rw [ctN] at hq
      subst hq
      exact ⟨rfl, rfl, rfl⟩
    · have hi6 : i < n := lp_lt (N := n) (by omega) c_15
      obtain ⟨p9, hp9, ep⟩ := (perC hc (F 3 (b + 2 * i))).resolve_left (by rw [hall i hi6]; decide)
      refine aw_aload_n dX9_goCalls_18 rfl rfl ?_
      refine aw_get fd_X9_16_9 dX9_goCalls_19 (by decide) he_LM rfl ?_
      refine aw_iload_n dX9_goCalls_22 rfl rfl ?_
      refine aw_iconst (v := 2) dX9_goCalls_23 (by decide) ?_
      refine aw_iload_n dX9_goCalls_24 rfl rfl ?_
      refine aw_imul dX9_goCalls_25 ?_
      refine aw_iadd dX9_goCalls_26 ?_
      rw [ix2]
      refine aw_iald dX9_goCalls_27 (by decide) rfl (vp_in_nI (n := b + 2 * i) (by omega) (by decide)) ?_
      rw [nI_clamp (n := b + 2 * i) (by omega), ep]
      refine aw_istore dX9_goCalls_28 (by decide) rfl ?_
      refine aw_aload_n dX9_goCalls_30 rfl rfl ?_
      refine aw_get fd_X9_16_9 dX9_goCalls_31 (by decide) he_LM rfl ?_
      refine aw_iload_n dX9_goCalls_34 rfl rfl ?_
      refine aw_iconst (v := 2) dX9_goCalls_35 (by decide) ?_
      refine aw_iload_n dX9_goCalls_36 rfl rfl ?_
      refine aw_imul dX9_goCalls_37 ?_
      refine aw_iadd dX9_goCalls_38 ?_
      rw [ix2]
      refine aw_iconst (v := 1) dX9_goCalls_39 (by decide) ?_
      refine aw_iadd dX9_goCalls_40 ?_
      rw [nI_1]
      refine aw_iald dX9_goCalls_41 (by decide) rfl (vp_in_nI (n := b + 2 * i + 1) (by omega) (by decide)) ?_
      rw [nI_clamp (n := b + 2 * i + 1) (by omega)]
      refine aw_istore dX9_goCalls_42 (by decide) rfl ?_
      refine aw_aload_n dX9_goCalls_44 rfl rfl ?_
      refine aw_get fd_X9_98_9 dX9_goCalls_45 (by decide) he_LM rfl ?_
      rw [hI7]
      refine aw_iload dX9_goCalls_48 rfl ?_
      refine aw_callS cw_X9_isOf ml_X9_139 sm_X9_isOf (c_X9_isOf _ _ _ _) ⟨Nat.le_of_ble_eq_true rfl, Nat.le_of_ble_eq_true rfl⟩ ⟨Nat.zero_le _, Nat.zero_le _⟩ rfl rfl (Nat.le_of_ble_eq_true rfl) dX9_goCalls_50 ?_
      rintro _ _ ⟨rfl, rfl⟩
      rw [of_has (by omega) (by omega)]
      refine aw_ifB_eq (tgt := 76) dX9_goCalls_53 (by decide) (fun c_53 => ?_) (fun c_53 => ?_)
      · refine aw_iload_n dX9_goCalls_76 rfl rfl ?_
        refine aw_iret dX9_goCalls_77 (Nat.zero_le _) (Nat.zero_le _) ?_
        obtain ⟨m2, rfl⟩ : ∃ m2, m = m2 + 1 := ⟨m - 1, by omega⟩
        rw [ctN, if_neg (by rw [ep, nI_clamp (n := p9) (by omega)]; simp [*])] at hq
        subst hq
        exact ⟨rfl, rfl, rfl⟩
      · refine aw_iload dX9_goCalls_56 rfl ?_
        refine aw_aload_n dX9_goCalls_58 rfl rfl ?_
        refine aw_iload dX9_goCalls_59 rfl ?_
        refine aw_callV cw_X9_mayOf ml_X9_123 im_X9_mayOf sl_X9_X9_mayOf rfl (by decide) he_LM (c_X9_mayOf (LM I f h s) F (p := p9) (by omega)) ⟨Nat.le_of_ble_eq_true rfl, Nat.le_of_ble_eq_true rfl⟩ ⟨Nat.zero_le _, Nat.zero_le _⟩ rfl rfl (Nat.le_of_ble_eq_true rfl) dX9_goCalls_61 ?_
        rintro _ _ ⟨rfl, rfl⟩
        rw [myM_LM]
        refine aw_icmp_gt (tgt := 76) dX9_goCalls_64 (by decide) (fun c_64 => ?_) (fun c_64 => ?_)
        · refine aw_iload_n dX9_goCalls_76 rfl rfl ?_
          refine aw_iret dX9_goCalls_77 (Nat.zero_le _) (Nat.zero_le _) ?_
          obtain ⟨m2, rfl⟩ : ∃ m2, m = m2 + 1 := ⟨m - 1, by omega⟩
          rw [ctN, if_neg (by rw [ep, nI_clamp (n := p9) (by omega)]; simp [*])] at hq
          subst hq
          exact ⟨rfl, rfl, rfl⟩
        · refine aw_iload dX9_goCalls_67 rfl ?_
          refine aw_aload_n dX9_goCalls_69 rfl rfl ?_
          refine aw_get fd_X9_130_9 dX9_goCalls_70 (by decide) he_LM rfl ?_
          refine aw_icmp_gt (tgt := 78) dX9_goCalls_73 (by decide) (fun c_73 => ?_) (fun c_73 => ?_)
          · refine aw_aload_n dX9_goCalls_78 rfl rfl ?_
            refine aw_iload dX9_goCalls_79 rfl ?_
            refine aw_putI fp_X9_130_9 dX9_goCalls_81 (by decide) he_LM rfl rfl (Nat.le_of_ble_eq_true rfl) rfl (LM_f _ _ _ _ _) ?_
            refine aw_aload_n dX9_goCalls_84 rfl rfl ?_
            refine aw_iload dX9_goCalls_85 rfl ?_
            refine aw_putI fp_X9_133_9 dX9_goCalls_87 (by decide) he_LM rfl rfl (Nat.le_of_ble_eq_true rfl) rfl (LM_h _ _ _ _ _) ?_
            refine aw_iinc (v := 1) dX9_goCalls_90 rfl (by decide) (by decide) rfl ?_
            refine aw_goto (tgt := 13) dX9_goCalls_93 (by decide) ?_
            obtain ⟨m2, rfl⟩ : ∃ m2, m = m2 + 1 := ⟨m - 1, by omega⟩
            rw [ctN, if_pos (by rw [ep, nI_clamp (n := p9) (by omega)]; simp [*])] at hq
            rw [nI_1]
            rw [ep] at hq
            exact ih m2 (by omega) (i + 1) _ _ _ _ (by omega) hq
          · refine aw_iload_n dX9_goCalls_76 rfl rfl ?_
            refine aw_iret dX9_goCalls_77 (Nat.zero_le _) (Nat.zero_le _) ?_
            obtain ⟨m2, rfl⟩ : ∃ m2, m = m2 + 1 := ⟨m - 1, by omega⟩
            rw [ctN, if_neg (by rw [ep, nI_clamp (n := p9) (by omega)]; simp [*])] at hq
            subst hq
            exact ⟨rfl, rfl, rfl⟩
set_option maxRecDepth 100000 in
set_option maxHeartbeats 4000000 in
theorem c_X9_goCalls3 {l : Launch} {D : va_G} {tc : Nat → ClassId} (I F : Nat → Nat → Int32) {c : Nat} (hc : c ≤ 6) (hI5 : I 0 5 = nI c) {x : Nat} (hx : x < 2 ^ c) (hI7 : I 0 7 = nI x) {b n : Nat} (hb : b + 2 * n ≤ 240) (hall : ∀ k, k < n → sP c (F 3 (b + 2 * k)) = true) (f h s : Int32) : AM l D tc yX9_goCalls cX9_goCalls 6 (some .int) 2 43 0 0 [.ref 0, .int (nI b), .int (nI n)] 15 (hM (LM I f h s) F) (fun v n1 h1 => n1 = 15 ∧ (v = some (.int (ctW (ctN (nI x) (myM I F) (fun k => F 3 (b + 2 * k)) (fun k => F 3 (b + 2 * k + 1)) 0 n 0 (-9)))) ∧ h1 = hM (LM I (ctN (nI x) (myM I F) (fun k => F 3 (b + 2 * k)) (fun k => F 3 (b + 2 * k + 1)) 0 n 0 (-9)).2.1 (ctN (nI x) (myM I F) (fun k => F 3 (b + 2 * k)) (fun k => F 3 (b + 2 * k + 1)) 0 n 0 (-9)).2.2 s) F)) := by
  refine am_of (L := [some (.ref 0), some (.int (nI b)), some (.int (nI n)), none, none, none]) (by decide +kernel) (Nat.le_of_ble_eq_true rfl) rfl ?_
  refine aw_aload_n dX9_goCalls_0 rfl rfl ?_
  refine aw_iconst (v := 0) dX9_goCalls_1 (by decide) ?_
  refine aw_putI fp_X9_130_9 dX9_goCalls_2 (by decide) he_LM rfl rfl (Nat.le_of_ble_eq_true rfl) rfl (LM_f _ _ _ _ _) ?_
  refine aw_aload_n dX9_goCalls_5 rfl rfl ?_
  refine aw_bipush (v := (-9)) dX9_goCalls_6 (by decide) ?_
  refine aw_putI fp_X9_133_9 dX9_goCalls_8 (by decide) he_LM rfl rfl (Nat.le_of_ble_eq_true rfl) rfl (LM_h _ _ _ _ _) ?_
  refine aw_iconst (v := 0) dX9_goCalls_11 (by decide) ?_
  refine aw_istore_n dX9_goCalls_12 rfl (by decide) rfl ?_
  have h6 : 2 ^ c ≤ 2 ^ 6 := Nat.pow_le_pow_right (by decide) hc
  exact lp_X9_goCalls I F hc hI5 hx (by omega) hI7 hb hall s _ n 0 0 (-9) none none (by omega) rfl
theorem c_X9_goCalls {l : Launch} {D : va_G} {tc : Nat → ClassId} (I F : Nat → Nat → Int32) {c : Nat} (hc : c ≤ 6) (hI5 : I 0 5 = nI c) {x : Nat} (hx : x < 2 ^ c) (hI7 : I 0 7 = nI x) {b n : Nat} (hb : b + 2 * n ≤ 240) (hall : ∀ k, k < n → sP c (F 3 (b + 2 * k)) = true) : AM l D tc yX9_goCalls cX9_goCalls 6 (some .int) 2 43 0 0 [.ref 0, .int (nI b), .int (nI n)] 15 (hM I F) (fun v n1 h1 => n1 = 15 ∧ (v = some (.int (ctW (ctN (nI x) (myM I F) (fun k => F 3 (b + 2 * k)) (fun k => F 3 (b + 2 * k + 1)) 0 n 0 (-9)))) ∧ h1 = hM (LM I (ctN (nI x) (myM I F) (fun k => F 3 (b + 2 * k)) (fun k => F 3 (b + 2 * k + 1)) 0 n 0 (-9)).2.1 (ctN (nI x) (myM I F) (fun k => F 3 (b + 2 * k)) (fun k => F 3 (b + 2 * k + 1)) 0 n 0 (-9)).2.2 (I 0 19)) F)) := by
  have h := c_X9_goCalls3 (l := l) (D := D) (tc := tc) I F hc hI5 hx hI7 hb hall (I 0 17) (I 0 18) (I 0 19)
  rw [← LM_I] at h
  exact h
set_option maxRecDepth 100000 in
set_option maxHeartbeats 4000000 in
theorem c_X9_were_no {l : Launch} {D : va_G} {tc : Nat → ClassId} (I F : Nat → Nat → Int32) {c : Nat} (hc : c ≤ 6) (hI5 : I 0 5 = nI c) {x : Int32} (hx : sP c x = false) (y : Int32) (w : Int32) : AM l D tc yX9_were cX9_were 8 (some .int) 3 66 0 0 [.ref 0, .int x, .int y, .int w] 15 (hM I F) (fun v n1 h1 => n1 = 15 ∧ (v = some (.int (-1)) ∧ h1 = hM I F)) := by
  refine am_of (L := [some (.ref 0), some (.int x), some (.int y), some (.int w), none, none, none, none]) (by decide +kernel) (Nat.le_of_ble_eq_true rfl) rfl ?_
  refine aw_aload_n dX9_were_0 rfl rfl ?_
  refine aw_iload_n dX9_were_1 rfl rfl ?_
  refine aw_callV cw_X9_isPerson ml_X9_120 im_X9_isPerson sl_X9_X9_isPerson rfl (by decide) rfl (c_X9_isPerson _ _ hc hI5 _) ⟨Nat.le_of_ble_eq_true rfl, Nat.le_of_ble_eq_true rfl⟩ ⟨Nat.zero_le _, Nat.zero_le _⟩ rfl rfl (Nat.le_of_ble_eq_true rfl) dX9_were_2 ?_
  rintro _ _ ⟨rfl, rfl⟩
  rw [show b2i (sP c x) = 0 from by rw [hx]; rfl]
  refine aw_if_ne (tgt := 10) dX9_were_5 (by decide) (fun c9 => absurd rfl c9) (fun _ => ?_)
  refine aw_iconst (v := (-1)) dX9_were_8 (by decide) ?_
  refine aw_iret dX9_were_9 (Nat.zero_le _) (Nat.zero_le _) ?_
  exact ⟨rfl, rfl, rfl⟩
theorem pw_c {c : Nat} (hc : c ≤ 6) : 0 < 2 ^ c ∧ 2 ^ c ≤ 64 := by
  have h6 : 2 ^ c ≤ 2 ^ 6 := Nat.pow_le_pow_right (by decide) hc
  have h0 : 0 < 2 ^ c := Nat.pow_pos (by decide)
  exact ⟨h0, by omega⟩
set_option maxRecDepth 100000 in
set_option maxHeartbeats 4000000 in
theorem lp_X9_were {l : Launch} {D : va_G} {tc : Nat → ClassId} (I F : Nat → Nat → Int32) {c : Nat} (hc : c ≤ 6) (hI5 : I 0 5 = nI c) (hH : HH F c) {p : Nat} (hp : p < c) (y w : Int32) : ∀ (m i : Nat) (f h s a b e : Int32), i + 1 + m = 2 ^ c → wrN (myM I F) (nI p) y (nI (2 ^ c - 1)) i = (a, b, e) → AW l D tc yX9_were.cls cX9_were 8 (some .int) { frames := 3, cells := 0, slots := 0, locals := 66 } 15 0 0 (fun v n1 h1 => n1 = 15 ∧ (∃ I1 F1, h1 = hM I1 F1 ∧ SM I F I1 F1 ∧ v = some (.int (if w = 0 then (wrN (myM I F) (nI p) y (nI (2 ^ c - 1)) (2 ^ c - 1)).1 else if w = 1 ∨ (wrN (myM I F) (nI p) y (nI (2 ^ c - 1)) (2 ^ c - 1)).1 = 0 then (wrN (myM I F) (nI p) y (nI (2 ^ c - 1)) (2 ^ c - 1)).2.1 else (wrN (myM I F) (nI p) y (nI (2 ^ c - 1)) (2 ^ c - 1)).2.2)))) 52 [some (.ref 0), some (.int (nI p)), some (.int y), some (.int w), some (.int a), some (.int b), some (.int e), some (.int (nI (i + 1)))] [] 15 (hM (LM I f h s) F) 0 0 := by
  obtain ⟨h0c, h6c⟩ := pw_c hc
  intro m
  induction m using Nat.strongRecOn with
  | _ m ih =>
    intro i f h s a b e hi hq
    refine aw_iload dX9_were_52 rfl ?_
    refine aw_iconst (v := 1) dX9_were_54 (by decide) ?_
    refine aw_aload_n dX9_were_55 rfl rfl ?_
    refine aw_get fd_X9_62_9 dX9_were_56 (by decide) he_LM rfl ?_
    refine aw_ishl dX9_were_59 ?_
    rw [hI5, show (1 : Int32) <<< (nI c &&& 31) = nI (2 ^ c) from bit_n (by omega)]
    refine aw_icmp_ge (tgt := 122) dX9_were_60 (by decide) (fun c_60 => ?_) (fun c_60 => ?_)
    · have hi1 : i + 1 = 2 ^ c := lp_ge (by omega) (by omega) c_60
      have hw : (wrN (myM I F) (nI p) y (nI (2 ^ c - 1)) (2 ^ c - 1)) = (a, b, e) := by rw [← hq, show 2 ^ c - 1 = i by omega]
      refine aw_iload_n dX9_were_122 rfl rfl ?_
      refine aw_if_ne (tgt := 131) dX9_were_123 (by decide) (fun c_123 => ?_) (fun c_123 => ?_)
      · refine aw_iload_n dX9_were_131 rfl rfl ?_
        refine aw_iconst (v := 1) dX9_were_132 (by decide) ?_
        refine aw_icmp_eq (tgt := 141) dX9_were_133 (by decide) (fun c_133 => ?_) (fun c_133 => ?_)
        · refine aw_iload dX9_were_141 rfl ?_
          refine aw_goto (tgt := 148) dX9_were_143 (by decide) ?_
          refine aw_iret dX9_were_148 (Nat.zero_le _) (Nat.zero_le _) ?_
          refine ⟨rfl, _, _, rfl, SM_LM I F f h s, ?_⟩
          rw [hw]
          clear hw hq ih hI5
          simp [*]
        · refine aw_iload dX9_were_136 rfl ?_
          refine aw_if_ne (tgt := 146) dX9_were_138 (by decide) (fun c_138 => ?_) (fun c_138 => ?_)
          · refine aw_iload dX9_were_146 rfl ?_
            refine aw_iret dX9_were_148 (Nat.zero_le _) (Nat.zero_le _) ?_
            refine ⟨rfl, _, _, rfl, SM_LM I F f h s, ?_⟩
            rw [hw]
            clear hw hq ih hI5
            simp [*]
          · refine aw_iload dX9_were_141 rfl ?_
            refine aw_goto (tgt := 148) dX9_were_143 (by decide) ?_
            refine aw_iret dX9_were_148 (Nat.zero_le _) (Nat.zero_le _) ?_
            refine ⟨rfl, _, _, rfl, SM_LM I F f h s, ?_⟩
            rw [hw]
            clear hw hq ih hI5
            simp [*]
      · refine aw_iload dX9_were_126 rfl ?_
        refine aw_goto (tgt := 148) dX9_were_128 (by decide) ?_
        refine aw_iret dX9_were_148 (Nat.zero_le _) (Nat.zero_le _) ?_
        refine ⟨rfl, _, _, rfl, SM_LM I F f h s, ?_⟩
        rw [hw]
        clear hw hq ih hI5
        simp [*]
    · have hi1 : i + 1 < 2 ^ c := lp_lt (by omega) c_60
      refine aw_iload dX9_were_63 rfl ?_
      refine aw_iload_n dX9_were_65 rfl rfl ?_
      refine aw_callS cw_X9_isOf ml_X9_139 sm_X9_isOf (c_X9_isOf _ _ _ _) ⟨Nat.le_of_ble_eq_true rfl, Nat.le_of_ble_eq_true rfl⟩ ⟨Nat.zero_le _, Nat.zero_le _⟩ rfl rfl (Nat.le_of_ble_eq_true rfl) dX9_were_66 ?_
      rintro _ _ ⟨rfl, rfl⟩
      rw [of_has (by omega) (by omega)]
      refine aw_ifB_eq (tgt := 116) dX9_were_69 (by decide) (fun c_69 => ?_) (fun c_69 => ?_)
      · refine aw_iinc (v := 1) dX9_were_116 rfl (by decide) (by decide) rfl ?_
        refine aw_goto (tgt := 52) dX9_were_119 (by decide) ?_
        rw [nI_1]
        exact ih (m - 1) (by omega) (i + 1) _ _ _ _ _ _ (by omega) (by
          rw [wrN]
          rw [if_neg (fun q9 => by
            obtain ⟨d9, hd9, e9, hb9⟩ := sDown_ex (myM_le (I := I) hc hH hi1) (by omega) (by omega)
            rw [e9] at q9
            have := (nI_eq (by omega) (by omega)).mp q9.1
            subst this
            rw [hb9] at c_69
            cases c_69), hq])
      · refine aw_aload_n dX9_were_72 rfl rfl ?_
        refine aw_iload dX9_were_73 rfl ?_
        refine aw_callV cw_X9_callOf ml_X9_145 im_X9_callOf sl_X9_X9_callOf rfl (by decide) he_LM (c_X9_callOf3 I F hc hI5 (x := i + 1) hi1 (by omega) hH f h s) ⟨Nat.le_of_ble_eq_true rfl, Nat.le_of_ble_eq_true rfl⟩ ⟨Nat.zero_le _, Nat.zero_le _⟩ rfl rfl (Nat.le_of_ble_eq_true rfl) dX9_were_75 ?_
        rintro _ _ ⟨rfl, rfl⟩
        refine aw_iload_n dX9_were_78 rfl rfl ?_
        refine aw_icmp_ne (tgt := 116) dX9_were_79 (by decide) (fun c_79 => ?_) (fun c_79 => ?_)
        · refine aw_iinc (v := 1) dX9_were_116 rfl (by decide) (by decide) rfl ?_
          refine aw_goto (tgt := 52) dX9_were_119 (by decide) ?_
          rw [nI_1]
          exact ih (m - 1) (by omega) (i + 1) _ _ _ _ _ _ (by omega) (by
            rw [wrN]
            rw [if_neg (fun q9 => c_79 q9.1), hq])
        · refine aw_aload_n dX9_were_82 rfl rfl ?_
          refine aw_get fd_X9_130_9 dX9_were_83 (by decide) he_LM rfl ?_
          refine aw_iload_n dX9_were_86 rfl rfl ?_
          refine aw_icmp_ne (tgt := 116) dX9_were_87 (by decide) (fun c_87 => ?_) (fun c_87 => ?_)
          · refine aw_iinc (v := 1) dX9_were_116 rfl (by decide) (by decide) rfl ?_
            refine aw_goto (tgt := 52) dX9_were_119 (by decide) ?_
            rw [nI_1]
            exact ih (m - 1) (by omega) (i + 1) _ _ _ _ _ _ (by omega) (by
              rw [wrN]
              rw [if_neg (fun q9 => c_87 q9.2), hq])
          · refine aw_iinc (v := 1) dX9_were_90 rfl (by decide) (by decide) rfl ?_
            refine aw_iload dX9_were_93 rfl ?_
            refine aw_bipush (v := (-9)) dX9_were_95 (by decide) ?_
            refine aw_icmp_ne (tgt := 105) dX9_were_97 (by decide) (fun c_97 => ?_) (fun c_97 => ?_)
            · refine aw_iload dX9_were_105 rfl ?_
              refine aw_istore dX9_were_107 (by decide) rfl ?_
              refine aw_iload dX9_were_109 rfl ?_
              refine aw_iload dX9_were_111 rfl ?_
              refine aw_iand dX9_were_113 ?_
              refine aw_istore dX9_were_114 (by decide) rfl ?_
              refine aw_iinc (v := 1) dX9_were_116 rfl (by decide) (by decide) rfl ?_
              refine aw_goto (tgt := 52) dX9_were_119 (by decide) ?_
              rw [nI_1]
              exact ih (m - 1) (by omega) (i + 1) _ _ _ _ _ _ (by omega) (by
                rw [wrN]
                rw [if_pos ⟨c_79, c_87⟩, hq, if_neg c_97])
            · refine aw_iload dX9_were_100 rfl ?_
              refine aw_goto (tgt := 107) dX9_were_102 (by decide) ?_
              refine aw_istore dX9_were_107 (by decide) rfl ?_
              refine aw_iload dX9_were_109 rfl ?_
              refine aw_iload dX9_were_111 rfl ?_
              refine aw_iand dX9_were_113 ?_
              refine aw_istore dX9_were_114 (by decide) rfl ?_
              refine aw_iinc (v := 1) dX9_were_116 rfl (by decide) (by decide) rfl ?_
              refine aw_goto (tgt := 52) dX9_were_119 (by decide) ?_
              rw [nI_1]
              exact ih (m - 1) (by omega) (i + 1) _ _ _ _ _ _ (by omega) (by
                rw [wrN]
                rw [if_pos ⟨c_79, c_87⟩, hq, if_pos c_97])
set_option maxRecDepth 100000 in
set_option maxHeartbeats 4000000 in
theorem c_X9_were {l : Launch} {D : va_G} {tc : Nat → ClassId} (I F : Nat → Nat → Int32) {c : Nat} (hc : c ≤ 6) (hI5 : I 0 5 = nI c) (hH : HH F c) {p : Nat} (hp : p < c) (y w : Int32) : AM l D tc yX9_were cX9_were 8 (some .int) 3 66 0 0 [.ref 0, .int (nI p), .int y, .int w] 15 (hM I F) (fun v n1 h1 => n1 = 15 ∧ (∃ I1 F1, h1 = hM I1 F1 ∧ SM I F I1 F1 ∧ v = some (.int (if sW y 0 18 && sW w 0 2 then (if w = 0 then (wrN (myM I F) (nI p) y (nI (2 ^ c - 1)) (2 ^ c - 1)).1 else if w = 1 ∨ (wrN (myM I F) (nI p) y (nI (2 ^ c - 1)) (2 ^ c - 1)).1 = 0 then (wrN (myM I F) (nI p) y (nI (2 ^ c - 1)) (2 ^ c - 1)).2.1 else (wrN (myM I F) (nI p) y (nI (2 ^ c - 1)) (2 ^ c - 1)).2.2) else -2)))) := by
  refine am_of (L := [some (.ref 0), some (.int (nI p)), some (.int y), some (.int w), none, none, none, none]) (by decide +kernel) (Nat.le_of_ble_eq_true rfl) rfl ?_
  refine aw_aload_n dX9_were_0 rfl rfl ?_
  refine aw_iload_n dX9_were_1 rfl rfl ?_
  refine aw_callV cw_X9_isPerson ml_X9_120 im_X9_isPerson sl_X9_X9_isPerson rfl (by decide) rfl (c_X9_isPerson _ _ hc hI5 _) ⟨Nat.le_of_ble_eq_true rfl, Nat.le_of_ble_eq_true rfl⟩ ⟨Nat.zero_le _, Nat.zero_le _⟩ rfl rfl (Nat.le_of_ble_eq_true rfl) dX9_were_2 ?_
  rintro _ _ ⟨rfl, rfl⟩
  rw [show b2i (sP c (nI p)) = 1 from by rw [sP_nI hc hp]; rfl]
  refine aw_if_ne (tgt := 10) dX9_were_5 (by decide) (fun _ => ?_) (fun c9 => absurd c9 (by decide))
  refine aw_iload_n dX9_were_10 rfl rfl ?_
  refine aw_iconst (v := 0) dX9_were_11 (by decide) ?_
  refine aw_bipush (v := (18)) dX9_were_12 (by decide) ?_
  refine aw_callS cw_X9_within ml_X9_58 sm_X9_within (c_X9_within _ _ _ _ _) ⟨Nat.le_of_ble_eq_true rfl, Nat.le_of_ble_eq_true rfl⟩ ⟨Nat.zero_le _, Nat.zero_le _⟩ rfl rfl (Nat.le_of_ble_eq_true rfl) dX9_were_14 ?_
  rintro _ _ ⟨rfl, rfl⟩
  refine aw_ifB_eq (tgt := 29) dX9_were_17 (by decide) (fun c_17 => ?_) (fun c_17 => ?_)
  · refine aw_bipush (v := (-2)) dX9_were_29 (by decide) ?_
    refine aw_iret dX9_were_31 (Nat.zero_le _) (Nat.zero_le _) ?_
    refine ⟨rfl, _, _, rfl, SM_refl I F, ?_⟩
    rw [if_neg (by simp [*])]
  · refine aw_iload_n dX9_were_20 rfl rfl ?_
    refine aw_iconst (v := 0) dX9_were_21 (by decide) ?_
    refine aw_iconst (v := 2) dX9_were_22 (by decide) ?_
    refine aw_callS cw_X9_within ml_X9_58 sm_X9_within (c_X9_within _ _ _ _ _) ⟨Nat.le_of_ble_eq_true rfl, Nat.le_of_ble_eq_true rfl⟩ ⟨Nat.zero_le _, Nat.zero_le _⟩ rfl rfl (Nat.le_of_ble_eq_true rfl) dX9_were_23 ?_
    rintro _ _ ⟨rfl, rfl⟩
    refine aw_ifB_ne (tgt := 32) dX9_were_26 (by decide) (fun c_26 => ?_) (fun c_26 => ?_)
    · refine aw_iconst (v := 0) dX9_were_32 (by decide) ?_
      refine aw_istore dX9_were_33 (by decide) rfl ?_
      refine aw_bipush (v := (-9)) dX9_were_35 (by decide) ?_
      refine aw_istore dX9_were_37 (by decide) rfl ?_
      refine aw_iconst (v := 1) dX9_were_39 (by decide) ?_
      refine aw_aload_n dX9_were_40 rfl rfl ?_
      refine aw_get fd_X9_62_9 dX9_were_41 (by decide) rfl rfl ?_
      refine aw_ishl dX9_were_44 ?_
      rw [hI5, show (1 : Int32) <<< (nI c &&& 31) = nI (2 ^ c) from bit_n (by omega)]
      refine aw_iconst (v := 1) dX9_were_45 (by decide) ?_
      refine aw_isub dX9_were_46 ?_
      rw [show nI (2 ^ c) - 1 = nI (2 ^ c - 1) from by obtain ⟨h0c, h6c⟩ := pw_c hc; obtain ⟨z, hz⟩ : ∃ z, 2 ^ c = z + 1 := ⟨2 ^ c - 1, by omega⟩; rw [hz, nI_pred]; rfl]
      refine aw_istore dX9_were_47 (by decide) rfl ?_
      refine aw_iconst (v := 1) dX9_were_49 (by decide) ?_
      refine aw_istore dX9_were_50 (by decide) rfl ?_
      obtain ⟨h0c, h6c⟩ := pw_c hc
      rw [if_pos (show (sW y 0 18 && sW w 0 2) = true by rw [c_17, c_26]; rfl)]
      have hl := lp_X9_were (l := l) (D := D) (tc := tc) I F hc hI5 hH hp y w (2 ^ c - 1) 0 (I 0 17) (I 0 18) (I 0 19) 0 (-9) (nI (2 ^ c - 1)) (by omega) rfl
      rw [← LM_I] at hl
      exact hl
    · refine aw_bipush (v := (-2)) dX9_were_29 (by decide) ?_
      refine aw_iret dX9_were_31 (Nat.zero_le _) (Nat.zero_le _) ?_
      refine ⟨rfl, _, _, rfl, SM_refl I F, ?_⟩
      rw [if_neg (by simp [*])]
