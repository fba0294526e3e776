theorem ft0 {t ln z a i m : Int32} (h : sFt t ln z a i m = 0) : ¬ t = 0 ∧ ln = a ∧ 0 ≤ m ∧ sHasC z i m = true := by
  unfold sFt at h
  by_cases h1 : t = 0
  · rw [if_pos h1] at h; exact absurd h (by decide)
  · rw [if_neg h1] at h
    by_cases h2 : ln = a
    · rw [if_pos h2] at h
      by_cases h3 : 0 ≤ m
      · rw [if_pos h3] at h
        by_cases h4 : sHasC z i m = true
        · exact ⟨h1, h2, h3, h4⟩
        · rw [if_neg h4] at h; exact absurd h (by decide)
      · rw [if_neg h3] at h; exact absurd h (by decide)
    · rw [if_neg h2] at h; exact absurd h (by decide)
set_option maxRecDepth 100000 in
set_option maxHeartbeats 4000000 in
theorem c_X8_line_no {l : Launch} {D : va_G} {tc : Nat → ClassId} (pk : Nat → Nat) (G : Nat → Option Nat) (I F : Nat → Nat → Int32) (b0 : Nat) (hG : HG G (b0 + 30)) (J : Nat → Nat → Int32) (hJ : J = st_I I 0 11 0) {x : Int32} (hx : sP 4 x = false) (a i m : Int32) : AM l D tc yX8_line cX8_line 8 (some .int) 6 138 6 18 [.ref 0, .int x, .int a, .int i, .int m] (b0 + 30) (hC pk G I F) (fun v n1 h1 => n1 = b0 + 30 ∧ v = some (.int (-1)) ∧ h1 = hC pk G J F) := by
  refine am_of (L := [some (.ref 0), some (.int x), some (.int a), some (.int i), some (.int m), none, none, none]) (by decide +kernel) (Nat.le_of_ble_eq_true rfl) rfl ?_
  have hn : 30 ≤ b0 + 30 := by omega
  obtain ⟨n, hnn⟩ : ∃ n, n = b0 + 30 := ⟨_, rfl⟩
  refine aw_aload_n dX8_line_0 rfl rfl ?_
  refine aw_iconst (v := 0) dX8_line_1 (by decide) ?_
  refine aw_putI fp_X8_56_8 dX8_line_2 (by omega) rfl rfl rfl (Nat.le_of_ble_eq_true rfl) rfl hJ.symm ?_
  clear hJ
  refine aw_aload_n dX8_line_5 rfl rfl ?_
  refine aw_iload_n dX8_line_6 rfl rfl ?_
  refine aw_callV cw_X8_sheetAt ml_X8_60 im_X8_sheetAt sl_X8_X8_sheetAt rfl (by omega) rfl (c_X8_sheetAt_no pk G _ _ (b0 + 30) hn hx) ⟨Nat.le_of_ble_eq_true rfl, Nat.le_of_ble_eq_true rfl⟩ ⟨Nat.zero_le _, Nat.zero_le _⟩ rfl rfl (Nat.le_of_ble_eq_true rfl) dX8_line_7 ?_
  rintro _ _ ⟨rfl, rfl⟩
  refine aw_astoreN dX8_line_10 (by decide) rfl ?_
  refine aw_aloadN dX8_line_12 rfl ?_
  refine aw_ifnonnullN dX8_line_14 ?_
  refine aw_iconst (v := (-1)) dX8_line_17 (by decide) ?_
  refine aw_iret dX8_line_18 (Nat.zero_le _) (Nat.zero_le _) ?_
  exact ⟨rfl, rfl, rfl⟩
set_option maxRecDepth 100000 in
set_option maxHeartbeats 4000000 in
theorem c_X8_line {l : Launch} {D : va_G} {tc : Nat → ClassId} (pk : Nat → Nat) (G : Nat → Option Nat) (I F : Nat → Nat → Int32) (b0 : Nat) (hG : HG G (b0 + 30)) (J : Nat → Nat → Int32) (hJ : J = st_I I 0 11 0) {k : Nat} (hk : k < 4) {z : Nat} (hz : z ≤ 60) (hI : J (22 + k) 3 = nI z) (a i m : Int32) : AM l D tc yX8_line cX8_line 8 (some .int) 6 138 6 18 [.ref 0, .int (nI k), .int a, .int i, .int m] (b0 + 30) (hC pk G I F) (fun v n1 h1 => if sW a 0 2 then (if (sFt (J (22 + k) 1) (J (22 + k) 2) (J (22 + k) 3) a i m) = 0 then (if (ffN (fun j => sRead (J (22 + k) 3) (F (26 + k)) (i + nI j)) (ffE m) 0 m.toNatClampNeg) = -9 then (∃ c : Nat, c ≤ 6 ∧ 2 ≤ c ∧ m = nI (2 + 4 * c) ∧ n1 = b0 + c + 30 ∧ v = some (.int (nI c)) ∧ h1 = hC (pkT pk b0 (fun p => sRead (nI z) (F (26 + k)) (i + 2 + nI p * 4 + 1)) c) (GT G b0 c) (st_I (st_I (st_I (IT (st_I (st_I J 0 8 (sRead (nI z) (F (26 + k)) (i + 1) - 48)) 0 7 (nI c)) b0 (fun p => sRead (nI z) (F (26 + k)) (i + 2 + nI p * 4 + 2) - 48) (fun p => sRead (nI z) (F (26 + k)) (i + 2 + nI p * 4 + 3) - 48) c) 0 9 (nI (2 ^ c - 1))) 0 10 0) 17 3 0) (fgF F 6)) else (n1 = b0 + 30 ∧ v = some (.int (-100 - (ffN (fun j => sRead (J (22 + k) 3) (F (26 + k)) (i + nI j)) (ffE m) 0 m.toNatClampNeg))) ∧ h1 = hC pk G J F)) else (n1 = b0 + 30 ∧ v = some (.int (-10 - (sFt (J (22 + k) 1) (J (22 + k) 2) (J (22 + k) 3) a i m))) ∧ h1 = hC pk G (st_I J 0 11 (sFt (J (22 + k) 1) (J (22 + k) 2) (J (22 + k) 3) a i m)) F)) else (n1 = b0 + 30 ∧ v = some (.int (-2)) ∧ h1 = hC pk G J F)) := by
  refine am_of (L := [some (.ref 0), some (.int (nI k)), some (.int a), some (.int i), some (.int m), none, none, none]) (by decide +kernel) (Nat.le_of_ble_eq_true rfl) rfl ?_
  have hn : 30 ≤ b0 + 30 := by omega
  obtain ⟨n, hnn⟩ : ∃ n, n = b0 + 30 := ⟨_, rfl⟩
  refine aw_aload_n dX8_line_0 rfl rfl ?_
  refine aw_iconst (v := 0) dX8_line_1 (by decide) ?_
  refine aw_putI fp_X8_56_8 dX8_line_2 (by omega) rfl rfl rfl (Nat.le_of_ble_eq_true rfl) rfl hJ.symm ?_
  clear hJ
  refine aw_aload_n dX8_line_5 rfl rfl ?_
  refine aw_iload_n dX8_line_6 rfl rfl ?_
  refine aw_callV cw_X8_sheetAt ml_X8_60 im_X8_sheetAt sl_X8_X8_sheetAt rfl (by omega) rfl (c_X8_sheetAt pk G _ _ (b0 + 30) hn hk) ⟨Nat.le_of_ble_eq_true rfl, Nat.le_of_ble_eq_true rfl⟩ ⟨Nat.zero_le _, Nat.zero_le _⟩ rfl rfl (Nat.le_of_ble_eq_true rfl) dX8_line_7 ?_
  rintro _ _ ⟨rfl, rfl⟩
  refine aw_astore dX8_line_10 (by decide) rfl ?_
  refine aw_aload dX8_line_12 rfl ?_
  refine aw_ifnonnull (tgt := 19) dX8_line_14 (by decide) ?_
  refine aw_iload_n dX8_line_19 rfl rfl ?_
  refine aw_callS cw_X8_isLane ml_X8_64 sm_X8_isLane (c_X8_isLane _ _ _) ⟨Nat.le_of_ble_eq_true rfl, Nat.le_of_ble_eq_true rfl⟩ ⟨Nat.zero_le _, Nat.zero_le _⟩ rfl rfl (Nat.le_of_ble_eq_true rfl) dX8_line_20 ?_
  rintro _ _ ⟨rfl, rfl⟩
  refine aw_ifB_ne (tgt := 29) dX8_line_23 (by decide) (fun c_23 => ?_) (fun c_23 => ?_)
  · refine aw_aload dX8_line_29 rfl ?_
    refine aw_iload_n dX8_line_31 rfl rfl ?_
    refine aw_iload_n dX8_line_32 rfl rfl ?_
    refine aw_iload dX8_line_33 rfl ?_
    refine aw_callS cw_X8_faultOfTaking ml_X8_68 sm_X8_faultOfTaking (c_X8_faultOfTaking pk G _ _ (b0 + 30) hn hk _ _ _) ⟨Nat.le_of_ble_eq_true rfl, Nat.le_of_ble_eq_true rfl⟩ ⟨Nat.zero_le _, Nat.zero_le _⟩ rfl rfl (Nat.le_of_ble_eq_true rfl) dX8_line_35 ?_
    rintro _ _ ⟨rfl, rfl⟩
    refine aw_istore dX8_line_38 (by decide) rfl ?_
    refine aw_iload dX8_line_40 rfl ?_
    refine aw_if_eq (tgt := 52) dX8_line_42 (by decide) (fun c_42 => ?_) (fun c_42 => ?_)
    · refine aw_aload dX8_line_52 rfl ?_
      refine aw_iload_n dX8_line_54 rfl rfl ?_
      refine aw_iload dX8_line_55 rfl ?_
      obtain ⟨i0, b, rfl, rfl, hb⟩ := (hasC_iff hz i m).mp (by rw [← hI]; exact (ft0 c_42).2.2.2)
      refine aw_callS cw_X8_firstFault ml_X8_76 sm_X8_firstFault (c_X8_firstFault pk G _ _ (b0 + 30) hn hk hz hI _ (b := b) (by omega)) ⟨Nat.le_of_ble_eq_true rfl, Nat.le_of_ble_eq_true rfl⟩ ⟨Nat.zero_le _, Nat.zero_le _⟩ rfl rfl (Nat.le_of_ble_eq_true rfl) dX8_line_57 ?_
      rintro _ _ ⟨rfl, rfl⟩
      have eb : (nI b).toNatClampNeg = b := nI_clamp (by omega)
      refine aw_istore dX8_line_60 (by decide) rfl ?_
      refine aw_iload dX8_line_62 rfl ?_
      refine aw_bipush (v := (-9)) dX8_line_64 (by decide) ?_
      refine aw_icmp_eq (tgt := 75) dX8_line_66 (by decide) (fun c_66 => ?_) (fun c_66 => ?_)
      · refine aw_aload_n dX8_line_75 rfl rfl ?_
        refine aw_aload dX8_line_76 rfl ?_
        refine aw_iload_n dX8_line_78 rfl rfl ?_
        refine aw_iload dX8_line_79 rfl ?_
        obtain ⟨c, hc, hc2, rfl⟩ := ff_c (by omega) c_66
        refine aw_callVA (mc' := 6) (ms' := 18) cw_X8_takeText ml_X8_80 im_X8_takeText sl_X8_X8_takeText rfl (by omega) rfl (c_X8_takeText pk G J F b0 hG hk hz hI _ hc) ⟨Nat.le_of_ble_eq_true rfl, Nat.le_of_ble_eq_true rfl⟩ ⟨(Nat.le_of_ble_eq_true rfl), (Nat.le_of_ble_eq_true rfl)⟩ rfl rfl (Nat.le_of_ble_eq_true rfl) (loLs (los_c (los_r (by omega)) (los_c los_i (los_c los_i (los_c los_i (los_c los_i (los_c (los_r (by omega)) (los_c los_i (los_c los_i los_n))))))))) lo_nil dX8_line_81 ?_
        rintro _ _ _ ⟨rfl, rfl, rfl⟩ -
        refine aw_aload_n dX8_line_84 rfl rfl ?_
        refine aw_get fd_X8_84_8 dX8_line_85 (by omega) rfl rfl ?_
        refine aw_iret dX8_line_88 (Nat.le_of_ble_eq_true rfl) (Nat.le_of_ble_eq_true rfl) ?_
        rw [if_pos c_23, if_pos c_42, if_pos (by rw [eb]; exact c_66)]
        refine ⟨c, hc, hc2, rfl, rfl, ?_, rfl⟩
        rw [st_In (by decide), st_In (by decide), st_In (by decide), IT_lo (by omega), st_Is]
      · refine aw_bipush (v := (-100)) dX8_line_69 (by decide) ?_
        refine aw_iload dX8_line_71 rfl ?_
        refine aw_isub dX8_line_73 ?_
        refine aw_iret dX8_line_74 (Nat.zero_le _) (Nat.zero_le _) ?_
        rw [if_pos c_23, if_pos c_42, if_neg (by rw [eb]; exact c_66), eb]
        exact ⟨rfl, rfl, rfl⟩
    · refine aw_aload_n dX8_line_45 rfl rfl ?_
      refine aw_iload dX8_line_46 rfl ?_
      refine aw_callV cw_X8_faulted ml_X8_72 im_X8_faulted sl_X8_X8_faulted rfl (by omega) rfl (c_X8_faulted pk G _ _ (b0 + 30) hn _) ⟨Nat.le_of_ble_eq_true rfl, Nat.le_of_ble_eq_true rfl⟩ ⟨Nat.zero_le _, Nat.zero_le _⟩ rfl rfl (Nat.le_of_ble_eq_true rfl) dX8_line_48 ?_
      rintro _ _ ⟨rfl, rfl⟩
      refine aw_iret dX8_line_51 (Nat.zero_le _) (Nat.zero_le _) ?_
      rw [if_pos c_23, if_neg c_42]
      exact ⟨rfl, rfl, rfl⟩
  · refine aw_bipush (v := (-2)) dX8_line_26 (by decide) ?_
    refine aw_iret dX8_line_28 (Nat.zero_le _) (Nat.zero_le _) ?_
    rw [if_neg (by rw [c_23]; decide)]
    exact ⟨rfl, rfl, rfl⟩
