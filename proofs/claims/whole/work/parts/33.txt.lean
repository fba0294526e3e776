/-! the reference: a text -/
def PM (I : Nat → Nat → Int32) (a g p : Int32) : Nat → Nat → Int32 := fun b k => if b = 0 then (if k = 13 then a else if k = 14 then g else if k = 15 then p else I b k) else I b k
theorem PM_a (I : Nat → Nat → Int32) (a g p x : Int32) : st_I (PM I a g p) 0 13 x = PM I x g p := by
  funext b k
  unfold st_I PM upd
  by_cases e : b = 0
  · subst e
    by_cases e2 : k = 13 <;> simp [e2]
  · simp [e]
theorem PM_g (I : Nat → Nat → Int32) (a g p x : Int32) : st_I (PM I a g p) 0 14 x = PM I a x p := by
  funext b k
  unfold st_I PM upd
  by_cases e : b = 0
  · subst e
    by_cases e2 : k = 14 <;> simp [e2]
  · simp [e]
theorem PM_p (I : Nat → Nat → Int32) (a g p x : Int32) : st_I (PM I a g p) 0 15 x = PM I a g x := by
  funext b k
  unfold st_I PM upd
  by_cases e : b = 0
  · subst e
    by_cases e2 : k = 15 <;> simp [e2]
  · simp [e]
theorem PM_I (I : Nat → Nat → Int32) : I = PM I (I 0 13) (I 0 14) (I 0 15) := by
  funext b k
  unfold PM
  by_cases e : b = 0
  · subst e
    by_cases e2 : k = 13
    · simp [e2]
    · by_cases e3 : k = 14
      · simp [e3]
      · by_cases e4 : k = 15 <;> simp [e2, e3, e4]
  · simp [e]
theorem SM_PM (I F : Nat → Nat → Int32) (a g p : Int32) (r : Nat → Int32) : SM I F (PM I a g p) (st_F F 8 r) := by
  refine ⟨fun k h1 h2 h3 _ _ _ _ => ?_, fun b h1 _ _ _ => st_Fn h1⟩
  unfold PM
  simp [h1, h2, h3]
theorem he_PM {I F : Nat → Nat → Int32} {a g p : Int32} : hM (PM I a g p) F 0 = .inr (9, [.int (I 0 0), .int (I 0 1), .ref 1, .ref 2, .ref 3, .int (I 0 5), .int (I 0 6), .int (I 0 7), .int (I 0 8), .ref 4, .ref 5, .ref 6, .ref 7, .int a, .int g, .int p, .ref 8, .int (I 0 17), .int (I 0 18), .int (I 0 19), .ref 9, .ref 10, .int (I 0 22), .ref 11, .int (I 0 24), .ref 12, .ref 13, .ref 14]) := rfl
def ltK (x : Int32) : Int32 := if x = 112 then 0 else if x = 117 then 1 else if x = 108 then 2 else -9
theorem sDig_ex {x : Int32} (h : sDig x = true) : ∃ a : Nat, a ≤ 9 ∧ x - 48 = nI a := by
  unfold sDig sW at h
  simp only [Bool.and_eq_true, Bool.not_eq_true', decide_eq_false_iff_not] at h
  have h1 : ¬ x < 0 := fun q => h.1 (Int32.lt_trans q (by decide))
  obtain ⟨a, ha, rfl⟩ := nI_of h1
  have h2 : 48 ≤ a := Classical.byContradiction fun q => h.1 (nI_lt (b := 48) (by omega) (by decide))
  have h3 : a ≤ 57 := Classical.byContradiction fun q => h.2 (nI_lt (a := 57) (by omega) ha)
  exact ⟨a - 48, by omega, pk_sub (b := 48) h2⟩
theorem nI_n9 {a : Nat} (ha : a < 2 ^ 31) : ¬ nI a = -9 := fun h => by
  have h6 := congrArg Int32.toInt h
  rw [nI_toInt ha] at h6
  have h7 : (-9 : Int32).toInt = -9 := by decide
  rw [h7] at h6
  omega
theorem sDig_n9 {x : Int32} (h : sDig x = true) : ¬ x - 48 = -9 := by
  obtain ⟨a, ha, e⟩ := sDig_ex h
  rw [e]
  exact nI_n9 (by omega)
theorem ltK_0 : ltK 0 = -9 := by decide
def okD (F : Nat → Nat → Int32) (e a : Nat) : Bool := decide (a < e) && sDig (F 3 a)
def okS (F : Nat → Nat → Int32) (e a : Nat) (x : Int32) : Bool := decide (a < e) && decide (F 3 a = x)
def okK (F : Nat → Nat → Int32) (e a : Nat) : Bool := decide (a < e) && !decide (ltK (F 3 a) = -9)
def r3 (r F3 : Nat → Int32) (p a : Nat) : Nat → Int32 := upd (upd (upd r (3 * p) (ltK (F3 a))) (3 * p + 1) (F3 (a + 1) - 48)) (3 * p + 2) (F3 (a + 2) - 48)

set_option maxRecDepth 100000 in
set_option maxHeartbeats 4000000 in
theorem c_X9_digit {l : Launch} {D : va_G} {tc : Nat → ClassId} (I F : Nat → Nat → Int32) {e a : Nat} (he : e ≤ 240) (ha : a ≤ e) (g p : Int32) : AM l D tc yX9_digit cX9_digit 2 (some .int) 1 22 0 0 [.ref 0, .int (nI e)] 15 (hM (PM I (nI a) g p) F) (fun v n1 h1 => n1 = 15 ∧ (v = some (.int (if okD F e a then F 3 a - 48 else -9)) ∧ h1 = hM (PM I (nI (if okD F e a then a + 1 else a)) g p) F)) := by
  refine am_of (L := [some (.ref 0), some (.int (nI e))]) (by decide +kernel) (Nat.le_of_ble_eq_true rfl) rfl ?_
  refine aw_aload_n dX9_digit_0 rfl rfl ?_
  refine aw_get fd_X9_65_9 dX9_digit_1 (by decide) he_PM rfl ?_
  refine aw_iload_n dX9_digit_4 rfl rfl ?_
  refine aw_icmp_ge (tgt := 27) dX9_digit_5 (by decide) (fun c_5 => ?_) (fun c_5 => ?_)
  · refine aw_bipush (v := (-9)) dX9_digit_27 (by decide) ?_
    refine aw_iret dX9_digit_29 (Nat.zero_le _) (Nat.zero_le _) ?_
    have e9 : okD F e a = false := by
      unfold okD
      first | (rw [decide_eq_false (show ¬ a < e by
        have := lp_ge (i := a) (N := e) (by omega) ha c_5
        omega)]; rfl) | (rw [sDig, c_24, Bool.and_false])
    rw [e9]
    exact ⟨rfl, rfl, rfl⟩
  · have hae : a < e := lp_lt (by omega) c_5
    refine aw_aload_n dX9_digit_8 rfl rfl ?_
    refine aw_get fd_X9_16_9 dX9_digit_9 (by decide) he_PM rfl ?_
    refine aw_aload_n dX9_digit_12 rfl rfl ?_
    refine aw_get fd_X9_65_9 dX9_digit_13 (by decide) he_PM rfl ?_
    refine aw_iald dX9_digit_16 (by decide) rfl (vp_in_nI (n := a) (by omega) (by decide)) ?_
    rw [nI_clamp (n := a) (by omega)]
    refine aw_bipush (v := (48)) dX9_digit_17 (by decide) ?_
    refine aw_bipush (v := (57)) dX9_digit_19 (by decide) ?_
    refine aw_callS cw_X9_within ml_X9_58 sm_X9_within (c_X9_within _ _ _ _ _) ⟨Nat.le_of_ble_eq_true rfl, Nat.le_of_ble_eq_true rfl⟩ ⟨Nat.zero_le _, Nat.zero_le _⟩ rfl rfl (Nat.le_of_ble_eq_true rfl) dX9_digit_21 ?_
    rintro _ _ ⟨rfl, rfl⟩
    refine aw_ifB_ne (tgt := 30) dX9_digit_24 (by decide) (fun c_24 => ?_) (fun c_24 => ?_)
    · refine aw_aload_n dX9_digit_30 rfl rfl ?_
      refine aw_dup dX9_digit_31 rfl ?_
      refine aw_get fd_X9_65_9 dX9_digit_32 (by decide) he_PM rfl ?_
      refine aw_iconst (v := 1) dX9_digit_35 (by decide) ?_
      refine aw_iadd dX9_digit_36 ?_
      refine aw_putI fp_X9_65_9 dX9_digit_37 (by decide) he_PM rfl rfl (Nat.le_of_ble_eq_true rfl) rfl (PM_a _ _ _ _ _) ?_
      refine aw_aload_n dX9_digit_40 rfl rfl ?_
      refine aw_get fd_X9_16_9 dX9_digit_41 (by decide) he_PM rfl ?_
      refine aw_aload_n dX9_digit_44 rfl rfl ?_
      refine aw_get fd_X9_65_9 dX9_digit_45 (by decide) he_PM rfl ?_
      refine aw_iconst (v := 1) dX9_digit_48 (by decide) ?_
      refine aw_isub dX9_digit_49 ?_
      rw [nI_1, nI_pred]
      refine aw_iald dX9_digit_50 (by decide) rfl (vp_in_nI (n := a) (by omega) (by decide)) ?_
      refine aw_bipush (v := (48)) dX9_digit_51 (by decide) ?_
      refine aw_isub dX9_digit_53 ?_
      refine aw_iret dX9_digit_54 (Nat.zero_le _) (Nat.zero_le _) ?_
      have e9 : okD F e a = true := by
        unfold okD
        rw [decide_eq_true hae, sDig, c_24]
        rfl
      rw [e9, nI_clamp (n := a) (by omega)]
      exact ⟨rfl, rfl, rfl⟩
    · refine aw_bipush (v := (-9)) dX9_digit_27 (by decide) ?_
      refine aw_iret dX9_digit_29 (Nat.zero_le _) (Nat.zero_le _) ?_
      have e9 : okD F e a = false := by
        unfold okD
        first | (rw [decide_eq_false (show ¬ a < e by
          have := lp_ge (i := a) (N := e) (by omega) ha c_5
          omega)]; rfl) | (rw [sDig, c_24, Bool.and_false])
      rw [e9]
      exact ⟨rfl, rfl, rfl⟩
set_option maxRecDepth 100000 in
set_option maxHeartbeats 4000000 in
theorem c_X9_isSign {l : Launch} {D : va_G} {tc : Nat → ClassId} (I F : Nat → Nat → Int32) {e a : Nat} (he : e ≤ 240) (ha : a ≤ e) (x g p : Int32) : AM l D tc yX9_isSign cX9_isSign 3 (some .boolean) 0 0 0 0 [.ref 0, .int (nI e), .int x] 15 (hM (PM I (nI a) g p) F) (fun v n1 h1 => n1 = 15 ∧ (v = some (.int (b2i (okS F e a x))) ∧ h1 = hM (PM I (nI (if okS F e a x then a + 1 else a)) g p) F)) := by
  refine am_of (L := [some (.ref 0), some (.int (nI e)), some (.int x)]) (by decide +kernel) (Nat.le_of_ble_eq_true rfl) rfl ?_
  refine aw_aload_n dX9_isSign_0 rfl rfl ?_
  refine aw_get fd_X9_65_9 dX9_isSign_1 (by decide) he_PM rfl ?_
  refine aw_iload_n dX9_isSign_4 rfl rfl ?_
  refine aw_icmp_ge (tgt := 21) dX9_isSign_5 (by decide) (fun c_5 => ?_) (fun c_5 => ?_)
  · refine aw_iconst (v := 0) dX9_isSign_21 (by decide) ?_
    refine aw_zret dX9_isSign_22 (by first | rfl | exact aw_nb _) (Nat.zero_le _) (Nat.zero_le _) ?_
    have e9 : okS F e a x = false := by
      unfold okS
      first | (rw [decide_eq_false (show ¬ a < e by
        have := lp_ge (i := a) (N := e) (by omega) ha c_5
        omega)]; rfl) | (rw [decide_eq_false c_18, Bool.and_false])
    rw [e9]
    exact ⟨rfl, rfl, rfl⟩
  · have hae : a < e := lp_lt (by omega) c_5
    refine aw_aload_n dX9_isSign_8 rfl rfl ?_
    refine aw_get fd_X9_16_9 dX9_isSign_9 (by decide) he_PM rfl ?_
    refine aw_aload_n dX9_isSign_12 rfl rfl ?_
    refine aw_get fd_X9_65_9 dX9_isSign_13 (by decide) he_PM rfl ?_
    refine aw_iald dX9_isSign_16 (by decide) rfl (vp_in_nI (n := a) (by omega) (by decide)) ?_
    rw [nI_clamp (n := a) (by omega)]
    refine aw_iload_n dX9_isSign_17 rfl rfl ?_
    refine aw_icmp_eq (tgt := 23) dX9_isSign_18 (by decide) (fun c_18 => ?_) (fun c_18 => ?_)
    · refine aw_aload_n dX9_isSign_23 rfl rfl ?_
      refine aw_dup dX9_isSign_24 rfl ?_
      refine aw_get fd_X9_65_9 dX9_isSign_25 (by decide) he_PM rfl ?_
      refine aw_iconst (v := 1) dX9_isSign_28 (by decide) ?_
      refine aw_iadd dX9_isSign_29 ?_
      rw [nI_1]
      refine aw_putI fp_X9_65_9 dX9_isSign_30 (by decide) he_PM rfl rfl (Nat.le_of_ble_eq_true rfl) rfl (PM_a _ _ _ _ _) ?_
      refine aw_iconst (v := 1) dX9_isSign_33 (by decide) ?_
      refine aw_zret dX9_isSign_34 (by first | rfl | exact aw_nb _) (Nat.zero_le _) (Nat.zero_le _) ?_
      have e9 : okS F e a x = true := by
        unfold okS
        rw [decide_eq_true hae, decide_eq_true c_18]
        rfl
      rw [e9]
      exact ⟨rfl, rfl, rfl⟩
    · refine aw_iconst (v := 0) dX9_isSign_21 (by decide) ?_
      refine aw_zret dX9_isSign_22 (by first | rfl | exact aw_nb _) (Nat.zero_le _) (Nat.zero_le _) ?_
      have e9 : okS F e a x = false := by
        unfold okS
        first | (rw [decide_eq_false (show ¬ a < e by
          have := lp_ge (i := a) (N := e) (by omega) ha c_5
          omega)]; rfl) | (rw [decide_eq_false c_18, Bool.and_false])
      rw [e9]
      exact ⟨rfl, rfl, rfl⟩
set_option maxRecDepth 100000 in
set_option maxHeartbeats 4000000 in
theorem lp_X9_rp6 {l : Launch} {D : va_G} {tc : Nat → ClassId} (I F : Nat → Nat → Int32) {p : Nat} (hp : p < 6) (g : Int32) (r : Nat → Int32) (e : Nat) {a : Nat} {x : Int32} : AW l D tc yX9_readPerson.cls cX9_readPerson 4 (some .boolean) { frames := 2, cells := 0, slots := 0, locals := 43 } 15 0 0 (fun v n1 h1 => n1 = 15 ∧ (v = some (.int 0) ∧ ∃ p9 r9, h1 = hM (PM I (nI (a + 2)) g p9) (st_F F 8 r9))) 130 [some (.ref 0), some (.int (nI e)), some (.int x), some (.int (nI (3 * p)))] [.int (-9), .int (nI (3 * p + 2)), .ref 8] 15 (hM (PM I (nI (a + 2)) g (nI p)) (st_F F 8 (upd (upd r (3 * p) (ltK (F 3 a))) (3 * p + 1) (F 3 (a + 1) - 48)))) 0 0 := by
  skip
  refine aw_iastI dX9_readPerson_130 (by decide) rfl (fun _ => rfl) (vp_in_nI (n := 3 * p + 2) (by omega) (by decide)) (show _ = st_F F 8 (upd (upd (upd r (3 * p) (ltK (F 3 a))) (3 * p + 1) (F 3 (a + 1) - 48)) (3 * p + 2) (-9)) from by rw [nI_clamp (n := 3 * p + 2) (by omega)]; show st_F (st_F F 8 (upd (upd r (3 * p) (ltK (F 3 a))) (3 * p + 1) (F 3 (a + 1) - 48))) 8 (upd (st_F F 8 (upd (upd r (3 * p) (ltK (F 3 a))) (3 * p + 1) (F 3 (a + 1) - 48)) 8) (3 * p + 2) (-9)) = _; rw [st_Fs, st_FF]) ?_
  refine aw_aload_n dX9_readPerson_131 rfl rfl ?_
  refine aw_dup dX9_readPerson_132 rfl ?_
  refine aw_get fd_X9_95_9 dX9_readPerson_133 (by decide) he_PM rfl ?_
  refine aw_iconst (v := 1) dX9_readPerson_136 (by decide) ?_
  refine aw_iadd dX9_readPerson_137 ?_
  rw [nI_1]
  refine aw_putI fp_X9_95_9 dX9_readPerson_138 (by decide) he_PM rfl rfl (Nat.le_of_ble_eq_true rfl) rfl (PM_p _ _ _ _ _) ?_
  refine aw_aload_n dX9_readPerson_141 rfl rfl ?_
  refine aw_get fd_X9_31_9 dX9_readPerson_142 (by decide) he_PM rfl ?_
  refine aw_iload_n dX9_readPerson_145 rfl rfl ?_
  refine aw_iconst (v := 2) dX9_readPerson_146 (by decide) ?_
  refine aw_iadd dX9_readPerson_147 ?_
  rw [show nI (3 * p) + 2 = nI (3 * p + 2) from nI_add (3 * p) 2]
  refine aw_iald dX9_readPerson_148 (by decide) rfl (vp_in_nI (n := 3 * p + 2) (by omega) (by decide)) ?_
  rw [nI_clamp (n := 3 * p + 2) (by omega), show st_F F 8 (upd (upd (upd r (3 * p) (ltK (F 3 a))) (3 * p + 1) (F 3 (a + 1) - 48)) (3 * p + 2) (-9)) 8 (3 * p + 2) = (-9) from if_pos rfl]
  refine aw_bipush (v := (-9)) dX9_readPerson_149 (by decide) ?_
  refine aw_icmp_eq (tgt := 158) dX9_readPerson_151 (by decide) (fun c_151 => ?_) (fun c_151 => ?_)
  · refine aw_iconst (v := 0) dX9_readPerson_158 (by decide) ?_
    refine aw_zret dX9_readPerson_159 (by first | rfl | exact aw_nb _) (Nat.zero_le _) (Nat.zero_le _) ?_
    exact ⟨rfl, rfl, _, _, rfl⟩
  · exact absurd rfl c_151
set_option maxRecDepth 100000 in
set_option maxHeartbeats 4000000 in
theorem lp_X9_rp5 {l : Launch} {D : va_G} {tc : Nat → ClassId} (I F : Nat → Nat → Int32) {p : Nat} (hp : p < 6) (g : Int32) (r : Nat → Int32) (e : Nat) {a : Nat} {x : Int32} (o3 : okD F e (a + 2) = true) : AW l D tc yX9_readPerson.cls cX9_readPerson 4 (some .boolean) { frames := 2, cells := 0, slots := 0, locals := 43 } 15 0 0 (fun v n1 h1 => n1 = 15 ∧ (v = some (.int 1) ∧ h1 = hM (PM I (nI (a + 3)) g (nI (p + 1))) (st_F F 8 (r3 r (F 3) p a)))) 130 [some (.ref 0), some (.int (nI e)), some (.int x), some (.int (nI (3 * p)))] [.int (F 3 (a + 2) - 48), .int (nI (3 * p + 2)), .ref 8] 15 (hM (PM I (nI (a + 3)) g (nI p)) (st_F F 8 (upd (upd r (3 * p) (ltK (F 3 a))) (3 * p + 1) (F 3 (a + 1) - 48)))) 0 0 := by
  skip
  refine aw_iastI dX9_readPerson_130 (by decide) rfl (fun _ => rfl) (vp_in_nI (n := 3 * p + 2) (by omega) (by decide)) (show _ = st_F F 8 (r3 r (F 3) p a) from by rw [nI_clamp (n := 3 * p + 2) (by omega)]; show st_F (st_F F 8 (upd (upd r (3 * p) (ltK (F 3 a))) (3 * p + 1) (F 3 (a + 1) - 48))) 8 (upd (st_F F 8 (upd (upd r (3 * p) (ltK (F 3 a))) (3 * p + 1) (F 3 (a + 1) - 48)) 8) (3 * p + 2) (F 3 (a + 2) - 48)) = _; rw [st_Fs, st_FF]; rfl) ?_
  refine aw_aload_n dX9_readPerson_131 rfl rfl ?_
  refine aw_dup dX9_readPerson_132 rfl ?_
  refine aw_get fd_X9_95_9 dX9_readPerson_133 (by decide) he_PM rfl ?_
  refine aw_iconst (v := 1) dX9_readPerson_136 (by decide) ?_
  refine aw_iadd dX9_readPerson_137 ?_
  rw [nI_1]
  refine aw_putI fp_X9_95_9 dX9_readPerson_138 (by decide) he_PM rfl rfl (Nat.le_of_ble_eq_true rfl) rfl (PM_p _ _ _ _ _) ?_
  refine aw_aload_n dX9_readPerson_141 rfl rfl ?_
  refine aw_get fd_X9_31_9 dX9_readPerson_142 (by decide) he_PM rfl ?_
  refine aw_iload_n dX9_readPerson_145 rfl rfl ?_
  refine aw_iconst (v := 2) dX9_readPerson_146 (by decide) ?_
  refine aw_iadd dX9_readPerson_147 ?_
  rw [show nI (3 * p) + 2 = nI (3 * p + 2) from nI_add (3 * p) 2]
  refine aw_iald dX9_readPerson_148 (by decide) rfl (vp_in_nI (n := 3 * p + 2) (by omega) (by decide)) ?_
  rw [nI_clamp (n := 3 * p + 2) (by omega), show st_F F 8 (r3 r (F 3) p a) 8 (3 * p + 2) = (F 3 (a + 2) - 48) from if_pos rfl]
  refine aw_bipush (v := (-9)) dX9_readPerson_149 (by decide) ?_
  refine aw_icmp_eq (tgt := 158) dX9_readPerson_151 (by decide) (fun c_151 => ?_) (fun c_151 => ?_)
  · exact absurd c_151 (sDig_n9 (by
      unfold okD at o3
      simp only [Bool.and_eq_true] at o3
      exact o3.2))
  · refine aw_iconst (v := 1) dX9_readPerson_154 (by decide) ?_
    refine aw_goto (tgt := 159) dX9_readPerson_155 (by decide) ?_
    refine aw_zret dX9_readPerson_159 (by first | rfl | exact aw_nb _) (Nat.zero_le _) (Nat.zero_le _) ?_
    exact ⟨rfl, rfl, rfl⟩
set_option maxRecDepth 100000 in
set_option maxHeartbeats 4000000 in
theorem lp_X9_rp4 {l : Launch} {D : va_G} {tc : Nat → ClassId} (I F : Nat → Nat → Int32) {e a : Nat} (he : e ≤ 240) {p : Nat} (hp : p < 6) (g : Int32) (r : Nat → Int32) {x : Int32} : AW l D tc yX9_readPerson.cls cX9_readPerson 4 (some .boolean) { frames := 2, cells := 0, slots := 0, locals := 43 } 15 0 0 (fun v n1 h1 => n1 = 15 ∧ (v = some (.int 0) ∧ ∃ p9 r9, h1 = hM (PM I (nI (a + 1)) g p9) (st_F F 8 r9))) 102 [some (.ref 0), some (.int (nI e)), some (.int x), some (.int (nI (3 * p)))] [.int (-9), .int (nI (3 * p + 1)), .ref 8] 15 (hM (PM I (nI (a + 1)) g (nI p)) (st_F F 8 (upd r (3 * p) (ltK (F 3 a))))) 0 0 := by
  skip
  refine aw_iastI dX9_readPerson_102 (by decide) rfl (fun _ => rfl) (vp_in_nI (n := 3 * p + 1) (by omega) (by decide)) (show _ = st_F F 8 (upd (upd r (3 * p) (ltK (F 3 a))) (3 * p + 1) (-9)) from by rw [nI_clamp (n := 3 * p + 1) (by omega)]; show st_F (st_F F 8 (upd r (3 * p) (ltK (F 3 a)))) 8 (upd (st_F F 8 (upd r (3 * p) (ltK (F 3 a))) 8) (3 * p + 1) (-9)) = _; rw [st_Fs, st_FF]) ?_
  refine aw_aload_n dX9_readPerson_103 rfl rfl ?_
  refine aw_get fd_X9_31_9 dX9_readPerson_104 (by decide) he_PM rfl ?_
  refine aw_iload_n dX9_readPerson_107 rfl rfl ?_
  refine aw_iconst (v := 1) dX9_readPerson_108 (by decide) ?_
  refine aw_iadd dX9_readPerson_109 ?_
  rw [nI_1]
  refine aw_iald dX9_readPerson_110 (by decide) rfl (vp_in_nI (n := 3 * p + 1) (by omega) (by decide)) ?_
  rw [nI_clamp (n := 3 * p + 1) (by omega), show st_F F 8 (upd (upd r (3 * p) (ltK (F 3 a))) (3 * p + 1) (-9)) 8 (3 * p + 1) = (-9) from if_pos rfl]
  refine aw_bipush (v := (-9)) dX9_readPerson_111 (by decide) ?_
  refine aw_icmp_ne (tgt := 118) dX9_readPerson_113 (by decide) (fun c_113 => ?_) (fun c_113 => ?_)
  · exact absurd rfl c_113
  · refine aw_iconst (v := 0) dX9_readPerson_116 (by decide) ?_
    refine aw_zret dX9_readPerson_117 (by first | rfl | exact aw_nb _) (Nat.zero_le _) (Nat.zero_le _) ?_
    exact ⟨rfl, rfl, _, _, rfl⟩
set_option maxRecDepth 100000 in
set_option maxHeartbeats 4000000 in
theorem lp_X9_rp3 {l : Launch} {D : va_G} {tc : Nat → ClassId} (I F : Nat → Nat → Int32) {e a : Nat} (he : e ≤ 240) {p : Nat} (hp : p < 6) (g : Int32) (r : Nat → Int32) {x : Int32} (o2 : okD F e (a + 1) = true) : AW l D tc yX9_readPerson.cls cX9_readPerson 4 (some .boolean) { frames := 2, cells := 0, slots := 0, locals := 43 } 15 0 0 (fun v n1 h1 => n1 = 15 ∧ (if okD F e (a + 2) then v = some (.int 1) ∧ h1 = hM (PM I (nI (a + 3)) g (nI (p + 1))) (st_F F 8 (r3 r (F 3) p a)) else v = some (.int 0) ∧ ∃ p9 r9, h1 = hM (PM I (nI (a + 2)) g p9) (st_F F 8 r9))) 102 [some (.ref 0), some (.int (nI e)), some (.int x), some (.int (nI (3 * p)))] [.int (F 3 (a + 1) - 48), .int (nI (3 * p + 1)), .ref 8] 15 (hM (PM I (nI (a + 1 + 1)) g (nI p)) (st_F F 8 (upd r (3 * p) (ltK (F 3 a))))) 0 0 := by
  have hle : a + 1 < e := by
    unfold okD at o2
    simp only [Bool.and_eq_true, decide_eq_true_eq] at o2
    exact o2.1
  skip
  refine aw_iastI dX9_readPerson_102 (by decide) rfl (fun _ => rfl) (vp_in_nI (n := 3 * p + 1) (by omega) (by decide)) (show _ = st_F F 8 (upd (upd r (3 * p) (ltK (F 3 a))) (3 * p + 1) (F 3 (a + 1) - 48)) from by rw [nI_clamp (n := 3 * p + 1) (by omega)]; show st_F (st_F F 8 (upd r (3 * p) (ltK (F 3 a)))) 8 (upd (st_F F 8 (upd r (3 * p) (ltK (F 3 a))) 8) (3 * p + 1) (F 3 (a + 1) - 48)) = _; rw [st_Fs, st_FF]) ?_
  refine aw_aload_n dX9_readPerson_103 rfl rfl ?_
  refine aw_get fd_X9_31_9 dX9_readPerson_104 (by decide) he_PM rfl ?_
  refine aw_iload_n dX9_readPerson_107 rfl rfl ?_
  refine aw_iconst (v := 1) dX9_readPerson_108 (by decide) ?_
  refine aw_iadd dX9_readPerson_109 ?_
  rw [nI_1]
  refine aw_iald dX9_readPerson_110 (by decide) rfl (vp_in_nI (n := 3 * p + 1) (by omega) (by decide)) ?_
  rw [nI_clamp (n := 3 * p + 1) (by omega), show st_F F 8 (upd (upd r (3 * p) (ltK (F 3 a))) (3 * p + 1) (F 3 (a + 1) - 48)) 8 (3 * p + 1) = (F 3 (a + 1) - 48) from if_pos rfl]
  refine aw_bipush (v := (-9)) dX9_readPerson_111 (by decide) ?_
  refine aw_icmp_ne (tgt := 118) dX9_readPerson_113 (by decide) (fun c_113 => ?_) (fun c_113 => ?_)
  · refine aw_aload_n dX9_readPerson_118 rfl rfl ?_
    refine aw_get fd_X9_31_9 dX9_readPerson_119 (by decide) he_PM rfl ?_
    refine aw_iload_n dX9_readPerson_122 rfl rfl ?_
    refine aw_iconst (v := 2) dX9_readPerson_123 (by decide) ?_
    refine aw_iadd dX9_readPerson_124 ?_
    rw [show nI (3 * p) + 2 = nI (3 * p + 2) from nI_add (3 * p) 2]
    refine aw_aload_n dX9_readPerson_125 rfl rfl ?_
    refine aw_iload_n dX9_readPerson_126 rfl rfl ?_
    refine aw_callV cw_X9_digit ml_X9_111 im_X9_digit sl_X9_X9_digit rfl (by decide) he_PM (c_X9_digit I (st_F F 8 (upd (upd r (3 * p) (ltK (F 3 a))) (3 * p + 1) (F 3 (a + 1) - 48))) he (a := (a + 1 + 1)) (by omega) g (nI p)) ⟨Nat.le_of_ble_eq_true rfl, Nat.le_of_ble_eq_true rfl⟩ ⟨Nat.zero_le _, Nat.zero_le _⟩ rfl rfl (Nat.le_of_ble_eq_true rfl) dX9_readPerson_127 ?_
    rintro _ _ ⟨rfl, rfl⟩
    rw [show okD (st_F F 8 (upd (upd r (3 * p) (ltK (F 3 a))) (3 * p + 1) (F 3 (a + 1) - 48))) e (a + 1 + 1) = okD F e (a + 1 + 1) from rfl, show st_F F 8 (upd (upd r (3 * p) (ltK (F 3 a))) (3 * p + 1) (F 3 (a + 1) - 48)) 3 (a + 1 + 1) = F 3 (a + 1 + 1) from rfl]
    rw [show a + 1 + 1 = a + 2 from rfl]
    cases o3 : okD F e (a + 2)
    · simp only [o3, Bool.false_eq_true, ↓reduceIte]
      exact lp_X9_rp6 I F hp g r e
    · simp only [o3, ↓reduceIte]
      exact lp_X9_rp5 I F hp g r e o3
  · exact absurd c_113 (sDig_n9 (by
      unfold okD at o2
      simp only [Bool.and_eq_true] at o2
      exact o2.2))
set_option maxRecDepth 100000 in
set_option maxHeartbeats 4000000 in
theorem lp_X9_rp2 {l : Launch} {D : va_G} {tc : Nat → ClassId} (I F : Nat → Nat → Int32) {e a : Nat} (he : e ≤ 240) (ha : a ≤ e) {p : Nat} (hp : p < 6) (g : Int32) (r : Nat → Int32) (x : Int32) (hx : (x = 0 ∧ okK F e a = false) ∨ (a < e ∧ x = F 3 a)) (y : Int32) (hy : y = ltK x) : AW l D tc yX9_readPerson.cls cX9_readPerson 4 (some .boolean) { frames := 2, cells := 0, slots := 0, locals := 43 } 15 0 0 (fun v n1 h1 => n1 = 15 ∧ (if okK F e a then (if okD F e (a + 1) then (if okD F e (a + 2) then v = some (.int 1) ∧ h1 = hM (PM I (nI (a + 3)) g (nI (p + 1))) (st_F F 8 (r3 r (F 3) p a)) else v = some (.int 0) ∧ ∃ p9 r9, h1 = hM (PM I (nI (a + 2)) g p9) (st_F F 8 r9)) else v = some (.int 0) ∧ ∃ p9 r9, h1 = hM (PM I (nI (a + 1)) g p9) (st_F F 8 r9)) else v = some (.int 0) ∧ ∃ p9 r9, h1 = hM (PM I (nI a) g p9) (st_F F 8 r9))) 66 [some (.ref 0), some (.int (nI e)), some (.int x), some (.int (nI (3 * p)))] [.int y, .int (nI (3 * p)), .ref 8] 15 (hM (PM I (nI a) g (nI p)) (st_F F 8 r)) 0 0 := by
  subst hy
  refine aw_iastI dX9_readPerson_66 (by decide) rfl (fun _ => rfl) (vp_in_nI (n := 3 * p) (by omega) (by decide)) (show _ = st_F F 8 (upd r (3 * p) (ltK x)) from by rw [nI_clamp (n := 3 * p) (by omega)]; show st_F (st_F F 8 r) 8 (upd (st_F F 8 r 8) (3 * p) (ltK x)) = _; rw [st_Fs, st_FF]) ?_
  refine aw_aload_n dX9_readPerson_67 rfl rfl ?_
  refine aw_get fd_X9_31_9 dX9_readPerson_68 (by decide) he_PM rfl ?_
  refine aw_iload_n dX9_readPerson_71 rfl rfl ?_
  refine aw_iald dX9_readPerson_72 (by decide) rfl (vp_in_nI (n := 3 * p) (by omega) (by decide)) ?_
  rw [nI_clamp (n := 3 * p) (by omega), show st_F F 8 (upd r (3 * p) (ltK x)) 8 (3 * p) = ltK x from if_pos rfl]
  refine aw_bipush (v := (-9)) dX9_readPerson_73 (by decide) ?_
  refine aw_icmp_ne (tgt := 80) dX9_readPerson_75 (by decide) (fun c_75 => ?_) (fun c_75 => ?_)
  · obtain ⟨hae, rfl⟩ := hx.resolve_left (fun q => c_75 (by rw [q.1]; exact ltK_0))
    have hk : okK F e a = true := by
      unfold okK
      rw [decide_eq_true hae, decide_eq_false c_75]
      rfl
    simp only [hk, ↓reduceIte]
    refine aw_aload_n dX9_readPerson_80 rfl rfl ?_
    refine aw_dup dX9_readPerson_81 rfl ?_
    refine aw_get fd_X9_65_9 dX9_readPerson_82 (by decide) he_PM rfl ?_
    refine aw_iconst (v := 1) dX9_readPerson_85 (by decide) ?_
    refine aw_iadd dX9_readPerson_86 ?_
    rw [nI_1]
    refine aw_putI fp_X9_65_9 dX9_readPerson_87 (by decide) he_PM rfl rfl (Nat.le_of_ble_eq_true rfl) rfl (PM_a _ _ _ _ _) ?_
    refine aw_aload_n dX9_readPerson_90 rfl rfl ?_
    refine aw_get fd_X9_31_9 dX9_readPerson_91 (by decide) he_PM rfl ?_
    refine aw_iload_n dX9_readPerson_94 rfl rfl ?_
    refine aw_iconst (v := 1) dX9_readPerson_95 (by decide) ?_
    refine aw_iadd dX9_readPerson_96 ?_
    rw [nI_1]
    refine aw_aload_n dX9_readPerson_97 rfl rfl ?_
    refine aw_iload_n dX9_readPerson_98 rfl rfl ?_
    refine aw_callV cw_X9_digit ml_X9_111 im_X9_digit sl_X9_X9_digit rfl (by decide) he_PM (c_X9_digit I (st_F F 8 (upd r (3 * p) (ltK (F 3 a)))) he (a := (a + 1)) (by omega) g (nI p)) ⟨Nat.le_of_ble_eq_true rfl, Nat.le_of_ble_eq_true rfl⟩ ⟨Nat.zero_le _, Nat.zero_le _⟩ rfl rfl (Nat.le_of_ble_eq_true rfl) dX9_readPerson_99 ?_
    rintro _ _ ⟨rfl, rfl⟩
    rw [show okD (st_F F 8 (upd r (3 * p) (ltK (F 3 a)))) e (a + 1) = okD F e (a + 1) from rfl, show st_F F 8 (upd r (3 * p) (ltK (F 3 a))) 3 (a + 1) = F 3 (a + 1) from rfl]
    cases o2 : okD F e (a + 1)
    · simp only [o2, Bool.false_eq_true, ↓reduceIte]
      exact lp_X9_rp4 I F he hp g r
    · simp only [o2, ↓reduceIte]
      exact lp_X9_rp3 I F he hp g r o2
  · refine aw_iconst (v := 0) dX9_readPerson_78 (by decide) ?_
    refine aw_zret dX9_readPerson_79 (by first | rfl | exact aw_nb _) (Nat.zero_le _) (Nat.zero_le _) ?_
    have hk : okK F e a = false := by
      rcases hx with hx | ⟨h1, h2⟩
      · exact hx.2
      · unfold okK
        rw [← h2, decide_eq_true c_75, Bool.not_true, Bool.and_false]
    rw [hk]
    exact ⟨rfl, rfl, _, _, rfl⟩
set_option maxRecDepth 100000 in
set_option maxHeartbeats 4000000 in
theorem lp_X9_rp {l : Launch} {D : va_G} {tc : Nat → ClassId} (I F : Nat → Nat → Int32) {e a : Nat} (he : e ≤ 240) (ha : a ≤ e) {p : Nat} (hp : p < 6) (g : Int32) (r : Nat → Int32) (x : Int32) (hx : (x = 0 ∧ okK F e a = false) ∨ (a < e ∧ x = F 3 a)) : AW l D tc yX9_readPerson.cls cX9_readPerson 4 (some .boolean) { frames := 2, cells := 0, slots := 0, locals := 43 } 15 0 0 (fun v n1 h1 => n1 = 15 ∧ (if okK F e a then (if okD F e (a + 1) then (if okD F e (a + 2) then v = some (.int 1) ∧ h1 = hM (PM I (nI (a + 3)) g (nI (p + 1))) (st_F F 8 (r3 r (F 3) p a)) else v = some (.int 0) ∧ ∃ p9 r9, h1 = hM (PM I (nI (a + 2)) g p9) (st_F F 8 r9)) else v = some (.int 0) ∧ ∃ p9 r9, h1 = hM (PM I (nI (a + 1)) g p9) (st_F F 8 r9)) else v = some (.int 0) ∧ ∃ p9 r9, h1 = hM (PM I (nI a) g p9) (st_F F 8 r9))) 21 [some (.ref 0), some (.int (nI e)), none, none] [.int x] 15 (hM (PM I (nI a) g (nI p)) (st_F F 8 r)) 0 0 := by
  skip
  refine aw_istore_n dX9_readPerson_21 rfl (by decide) rfl ?_
  refine aw_iconst (v := 3) dX9_readPerson_22 (by decide) ?_
  refine aw_aload_n dX9_readPerson_23 rfl rfl ?_
  refine aw_get fd_X9_95_9 dX9_readPerson_24 (by decide) he_PM rfl ?_
  refine aw_imul dX9_readPerson_27 ?_
  rw [ix3]
  refine aw_istore_n dX9_readPerson_28 rfl (by decide) rfl ?_
  refine aw_aload_n dX9_readPerson_29 rfl rfl ?_
  refine aw_get fd_X9_31_9 dX9_readPerson_30 (by decide) he_PM rfl ?_
  refine aw_iload_n dX9_readPerson_33 rfl rfl ?_
  refine aw_iload_n dX9_readPerson_34 rfl rfl ?_
  refine aw_bipush (v := (112)) dX9_readPerson_35 (by decide) ?_
  refine aw_icmp_ne (tgt := 44) dX9_readPerson_37 (by decide) (fun c_37 => ?_) (fun c_37 => ?_)
  · refine aw_iload_n dX9_readPerson_44 rfl rfl ?_
    refine aw_bipush (v := (117)) dX9_readPerson_45 (by decide) ?_
    refine aw_icmp_ne (tgt := 54) dX9_readPerson_47 (by decide) (fun c_47 => ?_) (fun c_47 => ?_)
    · refine aw_iload_n dX9_readPerson_54 rfl rfl ?_
      refine aw_bipush (v := (108)) dX9_readPerson_55 (by decide) ?_
      refine aw_icmp_ne (tgt := 64) dX9_readPerson_57 (by decide) (fun c_57 => ?_) (fun c_57 => ?_)
      · refine aw_bipush (v := (-9)) dX9_readPerson_64 (by decide) ?_
        exact lp_X9_rp2 I F he ha hp g r x hx (-9) (by rw [ltK, if_neg c_37, if_neg c_47, if_neg c_57])
      · refine aw_iconst (v := 2) dX9_readPerson_60 (by decide) ?_
        refine aw_goto (tgt := 66) dX9_readPerson_61 (by decide) ?_
        exact lp_X9_rp2 I F he ha hp g r x hx (2) (by rw [ltK, if_neg c_37, if_neg c_47, if_pos c_57])
    · refine aw_iconst (v := 1) dX9_readPerson_50 (by decide) ?_
      refine aw_goto (tgt := 66) dX9_readPerson_51 (by decide) ?_
      exact lp_X9_rp2 I F he ha hp g r x hx (1) (by rw [ltK, if_neg c_37, if_pos c_47])
  · refine aw_iconst (v := 0) dX9_readPerson_40 (by decide) ?_
    refine aw_goto (tgt := 66) dX9_readPerson_41 (by decide) ?_
    exact lp_X9_rp2 I F he ha hp g r x hx (0) (by rw [ltK, if_pos c_37])
set_option maxRecDepth 100000 in
set_option maxHeartbeats 4000000 in
theorem c_X9_readPerson {l : Launch} {D : va_G} {tc : Nat → ClassId} (I F : Nat → Nat → Int32) {e a : Nat} (he : e ≤ 240) (ha : a ≤ e) {p : Nat} (hp : p < 6) (g : Int32) (r : Nat → Int32) : AM l D tc yX9_readPerson cX9_readPerson 4 (some .boolean) 2 43 0 0 [.ref 0, .int (nI e)] 15 (hM (PM I (nI a) g (nI p)) (st_F F 8 r)) (fun v n1 h1 => n1 = 15 ∧ (if okK F e a then (if okD F e (a + 1) then (if okD F e (a + 2) then v = some (.int 1) ∧ h1 = hM (PM I (nI (a + 3)) g (nI (p + 1))) (st_F F 8 (r3 r (F 3) p a)) else v = some (.int 0) ∧ ∃ p9 r9, h1 = hM (PM I (nI (a + 2)) g p9) (st_F F 8 r9)) else v = some (.int 0) ∧ ∃ p9 r9, h1 = hM (PM I (nI (a + 1)) g p9) (st_F F 8 r9)) else v = some (.int 0) ∧ ∃ p9 r9, h1 = hM (PM I (nI a) g p9) (st_F F 8 r9))) := by
  refine am_of (L := [some (.ref 0), some (.int (nI e)), none, none]) (by decide +kernel) (Nat.le_of_ble_eq_true rfl) rfl ?_
  refine aw_aload_n dX9_readPerson_0 rfl rfl ?_
  refine aw_get fd_X9_65_9 dX9_readPerson_1 (by decide) he_PM rfl ?_
  refine aw_iload_n dX9_readPerson_4 rfl rfl ?_
  refine aw_icmp_ge (tgt := 20) dX9_readPerson_5 (by decide) (fun c_5 => ?_) (fun c_5 => ?_)
  · refine aw_iconst (v := 0) dX9_readPerson_20 (by decide) ?_
    have hk : okK F e a = false := by
      unfold okK
      rw [decide_eq_false (show ¬ a < e by
        have := lp_ge (i := a) (N := e) (by omega) ha c_5
        omega)]
      rfl
    exact lp_X9_rp I F he ha hp g r 0 (Or.inl ⟨rfl, hk⟩)
  · have hae : a < e := lp_lt (by omega) c_5
    refine aw_aload_n dX9_readPerson_8 rfl rfl ?_
    refine aw_get fd_X9_16_9 dX9_readPerson_9 (by decide) he_PM rfl ?_
    refine aw_aload_n dX9_readPerson_12 rfl rfl ?_
    refine aw_get fd_X9_65_9 dX9_readPerson_13 (by decide) he_PM rfl ?_
    refine aw_iald dX9_readPerson_16 (by decide) rfl (vp_in_nI (n := a) (by omega) (by decide)) ?_
    rw [nI_clamp (n := a) (by omega), show st_F F 8 r 3 a = F 3 a from rfl]
    refine aw_goto (tgt := 21) dX9_readPerson_17 (by decide) ?_
    exact lp_X9_rp I F he ha hp g r (F 3 a) (Or.inr ⟨hae, rfl⟩)
