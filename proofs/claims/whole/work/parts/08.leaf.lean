/-! what the small static methods answer -/
def sW (v a b : Int32) : Bool := !decide (v < a) && !decide (b < v)
def sBit (k : Int32) : Int32 := 1 <<< (k &&& 31)
def sHas (set k : Int32) : Bool := !decide (set &&& sBit k = 0)
def sDig (c : Int32) : Bool := sW c 48 57
def sWould (kind haste : Int32) : Int32 := if kind = 1 then 2 * haste else if kind = 2 then haste / 2 else haste
theorem aw_lk1 {x v1 : Int32} {a1 o1 d : Int} (q1 : v1.toInt = a1) (h1 : ¬ x = v1) : Op.lookupswitch.offset [(a1, o1)] d x.toInt = d := by
  have e1 : ¬ a1 = x.toInt := fun q => h1 (Int32.toInt_inj.mp (q1.trans q).symm)
  simp [Op.lookupswitch.offset, e1]
theorem aw_lk2 {x v1 v2 : Int32} {a1 o1 a2 o2 d : Int} (q1 : v1.toInt = a1) (q2 : v2.toInt = a2) (h1 : ¬ x = v1) (h2 : ¬ x = v2) : Op.lookupswitch.offset [(a1, o1), (a2, o2)] d x.toInt = d := by
  have e1 : ¬ a1 = x.toInt := fun q => h1 (Int32.toInt_inj.mp (q1.trans q).symm)
  have e2 : ¬ a2 = x.toInt := fun q => h2 (Int32.toInt_inj.mp (q2.trans q).symm)
  simp [Op.lookupswitch.offset, e1, e2]

set_option maxRecDepth 100000 in
set_option maxHeartbeats 4000000 in
theorem c_X8_isWithin {l : Launch} {D : va_G} {tc : Nat → ClassId} (x a b : Int32) (n : Nat) (h : aw_H) : AM l D tc yX8_isWithin cX8_isWithin 3 (some .boolean) 0 0 0 0 [.int x, .int a, .int b] n h (fun v n1 h1 => n1 = n ∧ (v = some (.int (b2i (sW x a b))) ∧ h1 = h)) := by
  refine am_of (L := [some (.int x), some (.int a), some (.int b)]) (by decide +kernel) (Nat.le_of_ble_eq_true rfl) rfl ?_
  refine aw_iload_n dX8_isWithin_0 rfl rfl ?_
  refine aw_iload_n dX8_isWithin_1 rfl rfl ?_
  refine aw_icmp_lt (tgt := 14) dX8_isWithin_2 (by decide) (fun c_2 => ?_) (fun c_2 => ?_)
  · refine aw_iconst (v := 0) dX8_isWithin_14 (by decide) ?_
    refine aw_zret dX8_isWithin_15 (by first | rfl | exact aw_nb _) (Nat.zero_le _) (Nat.zero_le _) ?_
    refine ⟨rfl, ?_, rfl⟩
    simp [b2i, sW, *]
  · refine aw_iload_n dX8_isWithin_5 rfl rfl ?_
    refine aw_iload_n dX8_isWithin_6 rfl rfl ?_
    refine aw_icmp_gt (tgt := 14) dX8_isWithin_7 (by decide) (fun c_7 => ?_) (fun c_7 => ?_)
    · refine aw_iconst (v := 0) dX8_isWithin_14 (by decide) ?_
      refine aw_zret dX8_isWithin_15 (by first | rfl | exact aw_nb _) (Nat.zero_le _) (Nat.zero_le _) ?_
      refine ⟨rfl, ?_, rfl⟩
      simp [b2i, sW, *]
    · refine aw_iconst (v := 1) dX8_isWithin_10 (by decide) ?_
      refine aw_goto (tgt := 15) dX8_isWithin_11 (by decide) ?_
      refine aw_zret dX8_isWithin_15 (by first | rfl | exact aw_nb _) (Nat.zero_le _) (Nat.zero_le _) ?_
      refine ⟨rfl, ?_, rfl⟩
      simp [b2i, sW, *]
set_option maxRecDepth 100000 in
set_option maxHeartbeats 4000000 in
theorem c_X8_isLane {l : Launch} {D : va_G} {tc : Nat → ClassId} (x : Int32) (n : Nat) (h : aw_H) : AM l D tc yX8_isLane cX8_isLane 1 (some .boolean) 1 22 0 0 [.int x] n h (fun v n1 h1 => n1 = n ∧ (v = some (.int (b2i (sW x 0 2))) ∧ h1 = h)) := by
  refine am_of (L := [some (.int x)]) (by decide +kernel) (Nat.le_of_ble_eq_true rfl) rfl ?_
  refine aw_iload_n dX8_isLane_0 rfl rfl ?_
  refine aw_iconst (v := 0) dX8_isLane_1 (by decide) ?_
  refine aw_iconst (v := 2) dX8_isLane_2 (by decide) ?_
  refine aw_callS cw_X8_isWithin ml_X8_122 sm_X8_isWithin (c_X8_isWithin _ _ _ _ _) ⟨Nat.le_of_ble_eq_true rfl, Nat.le_of_ble_eq_true rfl⟩ ⟨Nat.zero_le _, Nat.zero_le _⟩ rfl rfl (Nat.le_of_ble_eq_true rfl) dX8_isLane_3 ?_
  rintro _ _ ⟨rfl, rfl⟩
  refine aw_zret dX8_isLane_6 (by first | rfl | exact aw_nb _) (Nat.zero_le _) (Nat.zero_le _) ?_
  exact ⟨rfl, rfl, rfl⟩
set_option maxRecDepth 100000 in
set_option maxHeartbeats 4000000 in
theorem c_X8_isDigit {l : Launch} {D : va_G} {tc : Nat → ClassId} (x : Int32) (n : Nat) (h : aw_H) : AM l D tc yX8_isDigit cX8_isDigit 1 (some .boolean) 1 22 0 0 [.int x] n h (fun v n1 h1 => n1 = n ∧ (v = some (.int (b2i (sDig x))) ∧ h1 = h)) := by
  refine am_of (L := [some (.int x)]) (by decide +kernel) (Nat.le_of_ble_eq_true rfl) rfl ?_
  refine aw_iload_n dX8_isDigit_0 rfl rfl ?_
  refine aw_bipush (v := (48)) dX8_isDigit_1 (by decide) ?_
  refine aw_bipush (v := (57)) dX8_isDigit_3 (by decide) ?_
  refine aw_callS cw_X8_isWithin ml_X8_122 sm_X8_isWithin (c_X8_isWithin _ _ _ _ _) ⟨Nat.le_of_ble_eq_true rfl, Nat.le_of_ble_eq_true rfl⟩ ⟨Nat.zero_le _, Nat.zero_le _⟩ rfl rfl (Nat.le_of_ble_eq_true rfl) dX8_isDigit_5 ?_
  rintro _ _ ⟨rfl, rfl⟩
  refine aw_zret dX8_isDigit_8 (aw_nb (sDig x)) (Nat.zero_le _) (Nat.zero_le _) ?_
  exact ⟨rfl, rfl, rfl⟩
set_option maxRecDepth 100000 in
set_option maxHeartbeats 4000000 in
theorem c_X8_bit {l : Launch} {D : va_G} {tc : Nat → ClassId} (x : Int32) (n : Nat) (h : aw_H) : AM l D tc yX8_bit cX8_bit 1 (some .int) 0 0 0 0 [.int x] n h (fun v n1 h1 => n1 = n ∧ (v = some (.int (sBit x)) ∧ h1 = h)) := by
  refine am_of (L := [some (.int x)]) (by decide +kernel) (Nat.le_of_ble_eq_true rfl) rfl ?_
  refine aw_iconst (v := 1) dX8_bit_0 (by decide) ?_
  refine aw_iload_n dX8_bit_1 rfl rfl ?_
  refine aw_ishl dX8_bit_2 ?_
  refine aw_iret dX8_bit_3 (Nat.zero_le _) (Nat.zero_le _) ?_
  exact ⟨rfl, rfl, rfl⟩
set_option maxRecDepth 100000 in
set_option maxHeartbeats 4000000 in
theorem c_X8_has {l : Launch} {D : va_G} {tc : Nat → ClassId} (x y : Int32) (n : Nat) (h : aw_H) : AM l D tc yX8_has cX8_has 2 (some .boolean) 1 20 0 0 [.int x, .int y] n h (fun v n1 h1 => n1 = n ∧ (v = some (.int (b2i (sHas x y))) ∧ h1 = h)) := by
  refine am_of (L := [some (.int x), some (.int y)]) (by decide +kernel) (Nat.le_of_ble_eq_true rfl) rfl ?_
  refine aw_iload_n dX8_has_0 rfl rfl ?_
  refine aw_iload_n dX8_has_1 rfl rfl ?_
  refine aw_callS cw_X8_bit ml_X8_137 sm_X8_bit (c_X8_bit _ _ _) ⟨Nat.le_of_ble_eq_true rfl, Nat.le_of_ble_eq_true rfl⟩ ⟨Nat.zero_le _, Nat.zero_le _⟩ rfl rfl (Nat.le_of_ble_eq_true rfl) dX8_has_2 ?_
  rintro _ _ ⟨rfl, rfl⟩
  refine aw_iand dX8_has_5 ?_
  refine aw_if_eq (tgt := 13) dX8_has_6 (by decide) (fun c_6 => ?_) (fun c_6 => ?_)
  · refine aw_iconst (v := 0) dX8_has_13 (by decide) ?_
    refine aw_zret dX8_has_14 (by first | rfl | exact aw_nb _) (Nat.zero_le _) (Nat.zero_le _) ?_
    refine ⟨rfl, ?_, rfl⟩
    simp [b2i, sHas, *]
  · refine aw_iconst (v := 1) dX8_has_9 (by decide) ?_
    refine aw_goto (tgt := 14) dX8_has_10 (by decide) ?_
    refine aw_zret dX8_has_14 (by first | rfl | exact aw_nb _) (Nat.zero_le _) (Nat.zero_le _) ?_
    refine ⟨rfl, ?_, rfl⟩
    simp [b2i, sHas, *]
set_option maxRecDepth 100000 in
set_option maxHeartbeats 4000000 in
theorem c_X8_wouldGo {l : Launch} {D : va_G} {tc : Nat → ClassId} (x y : Int32) (n : Nat) (h : aw_H) : AM l D tc yX8_wouldGo cX8_wouldGo 2 (some .int) 0 0 0 0 [.int x, .int y] n h (fun v n1 h1 => n1 = n ∧ (v = some (.int (sWould x y)) ∧ h1 = h)) := by
  refine am_of (L := [some (.int x), some (.int y)]) (by decide +kernel) (Nat.le_of_ble_eq_true rfl) rfl ?_
  refine aw_iload_n dX8_wouldGo_0 rfl rfl ?_
  by_cases e_1_1 : x = 1
  · refine aw_lookupC (off := 27) (tgt := 28) e_1_1 dX8_wouldGo_1 (by decide) (by decide) (by decide) ?_
    refine aw_iconst (v := 2) dX8_wouldGo_28 (by decide) ?_
    refine aw_iload_n dX8_wouldGo_29 rfl rfl ?_
    refine aw_imul dX8_wouldGo_30 ?_
    refine aw_iret dX8_wouldGo_31 (Nat.zero_le _) (Nat.zero_le _) ?_
    refine ⟨rfl, ?_, rfl⟩
    simp [sWould, *]
  by_cases e_1_2 : x = 2
  · refine aw_lookupC (off := 31) (tgt := 32) e_1_2 dX8_wouldGo_1 (by decide) (by decide) (by decide) ?_
    refine aw_iload_n dX8_wouldGo_32 rfl rfl ?_
    refine aw_iconst (v := 2) dX8_wouldGo_33 (by decide) ?_
    refine aw_idiv dX8_wouldGo_34 (by decide) ?_
    refine aw_iret dX8_wouldGo_35 (Nat.zero_le _) (Nat.zero_le _) ?_
    refine ⟨rfl, ?_, rfl⟩
    simp [sWould, *]
  refine aw_lookup (off := 35) (tgt := 36) dX8_wouldGo_1 (by decide) (aw_lk2 (by decide) (by decide) e_1_1 e_1_2) (by decide) ?_
  refine aw_iload_n dX8_wouldGo_36 rfl rfl ?_
  refine aw_iret dX8_wouldGo_37 (Nat.zero_le _) (Nat.zero_le _) ?_
  refine ⟨rfl, ?_, rfl⟩
  simp [sWould, *]
