set_option maxRecDepth 100000 in
set_option maxHeartbeats 4000000 in
theorem lp_X9_leastOf {l : Launch} {D : va_G} {tc : Nat → ClassId} {x : Nat} (hx : x < 2 ^ 31) (r : Int32) (n : Nat) (h : aw_H) {j : Nat} (hj6 : j < 6) (hj : sHas (nI x) (nI j) = true) : ∀ (m i : Nat), i + m = 6 → i ≤ j → lstN (nI x) i m = r → AW l D tc yX9_leastOf.cls cX9_leastOf 2 (some .int) { frames := 1, cells := 0, slots := 0, locals := 21 } n 0 0 (fun v n1 h1 => n1 = n ∧ (v = some (.int r) ∧ h1 = h)) 2 [some (.int (nI x)), some (.int (nI i))] [] n h 0 0 := by
  intro m
  induction m using Nat.strongRecOn with
  | _ m ih =>
    intro i hi hij hq
    refine aw_iload_n dX9_leastOf_2 rfl rfl ?_
    refine aw_iload_n dX9_leastOf_3 rfl rfl ?_
    refine aw_callS cw_X9_isOf ml_X9_139 sm_X9_isOf (c_X9_isOf _ _ _ _) ⟨Nat.le_of_ble_eq_true rfl, Nat.le_of_ble_eq_true rfl⟩ ⟨Nat.zero_le _, Nat.zero_le _⟩ rfl rfl (Nat.le_of_ble_eq_true rfl) dX9_leastOf_4 ?_
    rintro _ _ ⟨rfl, rfl⟩
    rw [of_has (by omega) (by omega)]
    refine aw_ifB_ne (tgt := 16) dX9_leastOf_7 (by decide) (fun c_7 => ?_) (fun c_7 => ?_)
    · refine aw_iload_n dX9_leastOf_16 rfl rfl ?_
      refine aw_iret dX9_leastOf_17 (Nat.zero_le _) (Nat.zero_le _) ?_
      obtain ⟨m2, rfl⟩ : ∃ m2, m = m2 + 1 := ⟨m - 1, by omega⟩
      refine ⟨rfl, ?_, rfl⟩
      rw [← hq, lstN, if_pos c_7]
    · refine aw_iinc (v := 1) dX9_leastOf_10 rfl (by decide) (by decide) rfl ?_
      refine aw_goto (tgt := 2) dX9_leastOf_13 (by decide) ?_
      rw [nI_1]
      exact ih (m - 1) (by omega) (i + 1) (by omega) (by
        rcases Nat.lt_or_ge i j with q | q
        · omega
        · exact absurd (show i = j by omega) (fun e => by
            subst e
            rw [hj] at c_7
            cases c_7)) (by
        obtain ⟨m2, rfl⟩ : ∃ m2, m = m2 + 1 := ⟨m - 1, by omega⟩
        rw [← hq, lstN, if_neg (by rw [c_7]; decide)]
        rfl)
set_option maxRecDepth 100000 in
set_option maxHeartbeats 4000000 in
theorem c_X9_leastOf {l : Launch} {D : va_G} {tc : Nat → ClassId} {x : Nat} (h0 : x ≠ 0) (hx : x < 64) (n : Nat) (h : aw_H) : AM l D tc yX9_leastOf cX9_leastOf 2 (some .int) 1 21 0 0 [.int (nI x)] n h (fun v n1 h1 => n1 = n ∧ (v = some (.int (sLst (nI x))) ∧ h1 = h)) := by
  refine am_of (L := [some (.int (nI x)), none]) (by decide +kernel) (Nat.le_of_ble_eq_true rfl) rfl ?_
  refine aw_iconst (v := 0) dX9_leastOf_0 (by decide) ?_
  refine aw_istore_n dX9_leastOf_1 rfl (by decide) rfl ?_
  obtain ⟨j, h1, h2⟩ := bit_ex h0 hx
  exact lp_X9_leastOf (by omega) (sLst (nI x)) n h h1 h2 6 0 (by omega) (by omega) rfl
set_option maxRecDepth 100000 in
set_option maxHeartbeats 4000000 in
theorem lp_X9_callOf1 {l : Launch} {D : va_G} {tc : Nat → ClassId} (I F : Nat → Nat → Int32) {c : Nat} (hc : c ≤ 6) (hI5 : I 0 5 = nI c) {x : Nat} (hx : x < 2 ^ c) (hx31 : x < 2 ^ 31) (q0 : Int32 × Int32 × Int32 × Int32) (K : ∀ f h s b : Int32, rndN (myM I F) (nI x) q0 c = (f, h, s, b) → AW l D tc yX9_callOf.cls cX9_callOf 4 (some .int) { frames := 2, cells := 0, slots := 0, locals := 43 } 15 0 0 (fun v n1 h1 => n1 = 15 ∧ (v = some (.int (sDown (myM I F) (nI x))) ∧ h1 = hM (LM I (sCall (myM I F) (nI x)).1 (sCall (myM I F) (nI x)).2.1 (sCall (myM I F) (nI x)).2.2.1) F)) 19 [some (.ref 0), some (.int (nI x)), some (.int b), some (.int (nI c))] [] 15 (hM (LM I f h s) F) 0 0) : ∀ (m i : Nat) (f h s b : Int32), i + m = c → rndN (myM I F) (nI x) q0 i = (f, h, s, b) → AW l D tc yX9_callOf.cls cX9_callOf 4 (some .int) { frames := 2, cells := 0, slots := 0, locals := 43 } 15 0 0 (fun v n1 h1 => n1 = 15 ∧ (v = some (.int (sDown (myM I F) (nI x))) ∧ h1 = hM (LM I (sCall (myM I F) (nI x)).1 (sCall (myM I F) (nI x)).2.1 (sCall (myM I F) (nI x)).2.2.1) F)) 27 [some (.ref 0), some (.int (nI x)), some (.int b), some (.int (nI i))] [] 15 (hM (LM I f h s) F) 0 0 := by
  intro m
  induction m using Nat.strongRecOn with
  | _ m ih =>
    intro i f h s b hi hq
    refine aw_iload_n dX9_callOf_27 rfl rfl ?_
    refine aw_aload_n dX9_callOf_28 rfl rfl ?_
    refine aw_get fd_X9_62_9 dX9_callOf_29 (by decide) he_LM rfl ?_
    refine aw_icmp_ge (tgt := 94) dX9_callOf_32 (by decide) (fun c_32 => ?_) (fun c_32 => ?_)
    · have hi6 : i = c := lp_ge (by omega) (by omega) (by rw [← hI5]; exact c_32)
      subst hi6
      refine aw_goto (tgt := 19) dX9_callOf_94 (by decide) ?_
      exact K f h s b hq
    · have hi6 : i < c := lp_lt (N := c) (by omega) (by rw [← hI5]; exact c_32)
      refine aw_iload_n dX9_callOf_35 rfl rfl ?_
      refine aw_iload_n dX9_callOf_36 rfl rfl ?_
      refine aw_callS cw_X9_isOf ml_X9_139 sm_X9_isOf (c_X9_isOf _ _ _ _) ⟨Nat.le_of_ble_eq_true rfl, Nat.le_of_ble_eq_true rfl⟩ ⟨Nat.zero_le _, Nat.zero_le _⟩ rfl rfl (Nat.le_of_ble_eq_true rfl) dX9_callOf_37 ?_
      rintro _ _ ⟨rfl, rfl⟩
      rw [of_has (by omega) (by omega)]
      refine aw_ifB_eq (tgt := 88) dX9_callOf_40 (by decide) (fun c_40 => ?_) (fun c_40 => ?_)
      · refine aw_iinc (v := 1) dX9_callOf_88 rfl (by decide) (by decide) rfl ?_
        refine aw_goto (tgt := 27) dX9_callOf_91 (by decide) ?_
        rw [nI_1]
        exact ih (m - 1) (by omega) (i + 1) _ _ _ _ (by omega) (by
          rw [rndN, hq]
          rw [stp, if_pos c_40, ite_self])
      · refine aw_iload_n dX9_callOf_43 rfl rfl ?_
        refine aw_aload_n dX9_callOf_44 rfl rfl ?_
        refine aw_get fd_X9_133_9 dX9_callOf_45 (by decide) he_LM rfl ?_
        refine aw_icmp_eq (tgt := 88) dX9_callOf_48 (by decide) (fun c_48 => ?_) (fun c_48 => ?_)
        · refine aw_iinc (v := 1) dX9_callOf_88 rfl (by decide) (by decide) rfl ?_
          refine aw_goto (tgt := 27) dX9_callOf_91 (by decide) ?_
          rw [nI_1]
          exact ih (m - 1) (by omega) (i + 1) _ _ _ _ (by omega) (by
            rw [rndN, hq]
            rw [stp, if_pos c_48])
        · refine aw_aload_n dX9_callOf_51 rfl rfl ?_
          refine aw_iload_n dX9_callOf_52 rfl rfl ?_
          refine aw_callV cw_X9_mayOf ml_X9_123 im_X9_mayOf sl_X9_X9_mayOf rfl (by decide) he_LM (c_X9_mayOf (LM I f h s) F (p := i) (by omega)) ⟨Nat.le_of_ble_eq_true rfl, Nat.le_of_ble_eq_true rfl⟩ ⟨Nat.zero_le _, Nat.zero_le _⟩ rfl rfl (Nat.le_of_ble_eq_true rfl) dX9_callOf_53 ?_
          rintro _ _ ⟨rfl, rfl⟩
          rw [myM_LM]
          refine aw_aload_n dX9_callOf_56 rfl rfl ?_
          refine aw_get fd_X9_130_9 dX9_callOf_57 (by decide) he_LM rfl ?_
          refine aw_icmp_le (tgt := 88) dX9_callOf_60 (by decide) (fun c_60 => ?_) (fun c_60 => ?_)
          · refine aw_iinc (v := 1) dX9_callOf_88 rfl (by decide) (by decide) rfl ?_
            refine aw_goto (tgt := 27) dX9_callOf_91 (by decide) ?_
            rw [nI_1]
            exact ih (m - 1) (by omega) (i + 1) _ _ _ _ (by omega) (by
              rw [rndN, hq]
              rw [stp, if_neg c_48, if_neg (by rw [c_40] ; decide), if_pos c_60])
          · refine aw_aload_n dX9_callOf_63 rfl rfl ?_
            refine aw_dup dX9_callOf_64 rfl ?_
            refine aw_get fd_X9_130_9 dX9_callOf_65 (by decide) he_LM rfl ?_
            refine aw_iconst (v := 1) dX9_callOf_68 (by decide) ?_
            refine aw_iadd dX9_callOf_69 ?_
            refine aw_putI fp_X9_130_9 dX9_callOf_70 (by decide) he_LM rfl rfl (Nat.le_of_ble_eq_true rfl) rfl (LM_f _ _ _ _ _) ?_
            refine aw_aload_n dX9_callOf_73 rfl rfl ?_
            refine aw_aload_n dX9_callOf_74 rfl rfl ?_
            refine aw_get fd_X9_133_9 dX9_callOf_75 (by decide) he_LM rfl ?_
            refine aw_putI fp_X9_136_9 dX9_callOf_78 (by decide) he_LM rfl rfl (Nat.le_of_ble_eq_true rfl) rfl (LM_s _ _ _ _ _) ?_
            refine aw_aload_n dX9_callOf_81 rfl rfl ?_
            refine aw_iload_n dX9_callOf_82 rfl rfl ?_
            refine aw_putI fp_X9_133_9 dX9_callOf_83 (by decide) he_LM rfl rfl (Nat.le_of_ble_eq_true rfl) rfl (LM_h _ _ _ _ _) ?_
            refine aw_iconst (v := 1) dX9_callOf_86 (by decide) ?_
            refine aw_istore_n dX9_callOf_87 rfl (by decide) rfl ?_
            refine aw_iinc (v := 1) dX9_callOf_88 rfl (by decide) (by decide) rfl ?_
            refine aw_goto (tgt := 27) dX9_callOf_91 (by decide) ?_
            rw [nI_1]
            exact ih (m - 1) (by omega) (i + 1) _ _ _ _ (by omega) (by
              rw [rndN, hq]
              rw [stp, if_neg c_48, if_neg (by rw [c_40] ; decide), if_neg c_60])
set_option maxRecDepth 100000 in
set_option maxHeartbeats 4000000 in
theorem lp_X9_callOf {l : Launch} {D : va_G} {tc : Nat → ClassId} (I F : Nat → Nat → Int32) {c : Nat} (hc : c ≤ 6) (hI5 : I 0 5 = nI c) {x : Nat} (hx : x < 2 ^ c) (h0 : x ≠ 0) (hH : HH F c) : ∀ (m i : Nat) (f h s b : Int32) (w : Option Value), i + m = 19 → itN (myM I F) (nI x) i = (f, h, s, b) → AW l D tc yX9_callOf.cls cX9_callOf 4 (some .int) { frames := 2, cells := 0, slots := 0, locals := 43 } 15 0 0 (fun v n1 h1 => n1 = 15 ∧ (v = some (.int (sDown (myM I F) (nI x))) ∧ h1 = hM (LM I (sCall (myM I F) (nI x)).1 (sCall (myM I F) (nI x)).2.1 (sCall (myM I F) (nI x)).2.2.1) F)) 19 [some (.ref 0), some (.int (nI x)), some (.int b), w] [] 15 (hM (LM I f h s) F) 0 0 := by
  have h6 : 2 ^ c ≤ 2 ^ 6 := Nat.pow_le_pow_right (by decide) hc
  intro m
  induction m using Nat.strongRecOn with
  | _ m ih =>
    intro i f h s b w hi hq
    refine aw_iload_n dX9_callOf_19 rfl rfl ?_
    refine aw_if_eq (tgt := 97) dX9_callOf_20 (by decide) (fun c_20 => ?_) (fun c_20 => ?_)
    · have hs : (sCall (myM I F) (nI x)) = (f, h, s, b) := by
        rw [sCall, ← hq, show 19 = i + m by omega]
        exact itN_stop (by rw [hq]; exact c_20) m
      refine aw_aload_n dX9_callOf_97 rfl rfl ?_
      refine aw_get fd_X9_133_9 dX9_callOf_98 (by decide) he_LM rfl ?_
      refine aw_bipush (v := (-9)) dX9_callOf_101 (by decide) ?_
      refine aw_icmp_ne (tgt := 113) dX9_callOf_103 (by decide) (fun c_103 => ?_) (fun c_103 => ?_)
      · refine aw_aload_n dX9_callOf_113 rfl rfl ?_
        refine aw_get fd_X9_133_9 dX9_callOf_114 (by decide) he_LM rfl ?_
        refine aw_iret dX9_callOf_117 (Nat.zero_le _) (Nat.zero_le _) ?_
        rw [sDown, hs]
        dsimp only
        first | (rw [if_pos c_103]; exact ⟨rfl, rfl, rfl⟩) | (rw [if_neg c_103]; exact ⟨rfl, rfl, rfl⟩)
      · refine aw_iload_n dX9_callOf_106 rfl rfl ?_
        refine aw_callS cw_X9_leastOf ml_X9_142 sm_X9_leastOf (c_X9_leastOf h0 (by omega) _ _) ⟨Nat.le_of_ble_eq_true rfl, Nat.le_of_ble_eq_true rfl⟩ ⟨Nat.zero_le _, Nat.zero_le _⟩ rfl rfl (Nat.le_of_ble_eq_true rfl) dX9_callOf_107 ?_
        rintro _ _ ⟨rfl, rfl⟩
        refine aw_goto (tgt := 117) dX9_callOf_110 (by decide) ?_
        refine aw_iret dX9_callOf_117 (Nat.zero_le _) (Nat.zero_le _) ?_
        rw [sDown, hs]
        dsimp only
        first | (rw [if_pos c_103]; exact ⟨rfl, rfl, rfl⟩) | (rw [if_neg c_103]; exact ⟨rfl, rfl, rfl⟩)
    · refine aw_iconst (v := 0) dX9_callOf_23 (by decide) ?_
      refine aw_istore_n dX9_callOf_24 rfl (by decide) rfl ?_
      refine aw_iconst (v := 0) dX9_callOf_25 (by decide) ?_
      refine aw_istore_n dX9_callOf_26 rfl (by decide) rfl ?_
      have h19 : i ≠ 19 := fun e => by
        subst e
        have h9 := itN_19 (myM_le (I := I) hc hH hx)
        rw [hq] at h9
        exact c_20 h9
      exact lp_X9_callOf1 I F hc hI5 hx (by omega) (f, h, s, 0) (fun f2 h2 s2 b2 e2 => ih (m - 1) (by omega) (i + 1) f2 h2 s2 b2 _ (by omega) (by
        have e3 := rndN_cc (my := (myM I F)) (noB_n hx hc) (f, h, s, 0) (6 - c) (by omega)
        rw [show c + (6 - c) = 6 by omega] at e3
        rw [itN, hq, if_neg c_20]
        exact e3.trans e2)) c 0 f h s 0 (by omega) rfl
set_option maxRecDepth 100000 in
set_option maxHeartbeats 4000000 in
theorem c_X9_callOf3 {l : Launch} {D : va_G} {tc : Nat → ClassId} (I F : Nat → Nat → Int32) {c : Nat} (hc : c ≤ 6) (hI5 : I 0 5 = nI c) {x : Nat} (hx : x < 2 ^ c) (h0 : x ≠ 0) (hH : HH F c) (f h s : Int32) : AM l D tc yX9_callOf cX9_callOf 4 (some .int) 2 43 0 0 [.ref 0, .int (nI x)] 15 (hM (LM I f h s) F) (fun v n1 h1 => n1 = 15 ∧ (v = some (.int (sDown (myM I F) (nI x))) ∧ h1 = hM (LM I (sCall (myM I F) (nI x)).1 (sCall (myM I F) (nI x)).2.1 (sCall (myM I F) (nI x)).2.2.1) F)) := by
  refine am_of (L := [some (.ref 0), some (.int (nI x)), none, none]) (by decide +kernel) (Nat.le_of_ble_eq_true rfl) rfl ?_
  refine aw_aload_n dX9_callOf_0 rfl rfl ?_
  refine aw_iconst (v := 0) dX9_callOf_1 (by decide) ?_
  refine aw_putI fp_X9_130_9 dX9_callOf_2 (by decide) he_LM rfl rfl (Nat.le_of_ble_eq_true rfl) rfl (LM_f _ _ _ _ _) ?_
  refine aw_aload_n dX9_callOf_5 rfl rfl ?_
  refine aw_bipush (v := (-9)) dX9_callOf_6 (by decide) ?_
  refine aw_putI fp_X9_133_9 dX9_callOf_8 (by decide) he_LM rfl rfl (Nat.le_of_ble_eq_true rfl) rfl (LM_h _ _ _ _ _) ?_
  refine aw_aload_n dX9_callOf_11 rfl rfl ?_
  refine aw_bipush (v := (-9)) dX9_callOf_12 (by decide) ?_
  refine aw_putI fp_X9_136_9 dX9_callOf_14 (by decide) he_LM rfl rfl (Nat.le_of_ble_eq_true rfl) rfl (LM_s _ _ _ _ _) ?_
  refine aw_iconst (v := 1) dX9_callOf_17 (by decide) ?_
  refine aw_istore_n dX9_callOf_18 rfl (by decide) rfl ?_
  exact lp_X9_callOf I F hc hI5 hx h0 hH 19 0 0 (-9) (-9) 1 _ (by omega) rfl
theorem c_X9_callOf {l : Launch} {D : va_G} {tc : Nat → ClassId} (I F : Nat → Nat → Int32) {c : Nat} (hc : c ≤ 6) (hI5 : I 0 5 = nI c) {x : Nat} (hx : x < 2 ^ c) (h0 : x ≠ 0) (hH : HH F c) : AM l D tc yX9_callOf cX9_callOf 4 (some .int) 2 43 0 0 [.ref 0, .int (nI x)] 15 (hM I F) (fun v n1 h1 => n1 = 15 ∧ (v = some (.int (sDown (myM I F) (nI x))) ∧ h1 = hM (LM I (sCall (myM I F) (nI x)).1 (sCall (myM I F) (nI x)).2.1 (sCall (myM I F) (nI x)).2.2.1) F)) := by
  have h := c_X9_callOf3 (l := l) (D := D) (tc := tc) I F hc hI5 hx h0 hH (I 0 17) (I 0 18) (I 0 19)
  rw [← LM_I] at h
  exact h
