def rdM (F : Nat → Nat → Int32) (c : Nat) (p s o : Int32) : Nat → Nat → Int32 := st_F (st_F (st_F F 12 (upd (F 12) c p)) 13 (upd (F 13) c s)) 14 (upd (F 14) c o)
set_option maxRecDepth 100000 in
set_option maxHeartbeats 4000000 in
theorem c_X9_reading_no {l : Launch} {D : va_G} {tc : Nat → ClassId} (I F : Nat → Nat → Int32) {c : Nat} (hc : c ≤ 6) (hI5 : I 0 5 = nI c) {x : Int32} (hx : sP c x = false) (y : Int32) (w : Int32) : AM l D tc yX9_reading cX9_reading 4 (some .int) 1 22 0 0 [.ref 0, .int x, .int y, .int w] 15 (hM I F) (fun v n1 h1 => n1 = 15 ∧ (v = some (.int (-1)) ∧ h1 = hM I F)) := by
  refine am_of (L := [some (.ref 0), some (.int x), some (.int y), some (.int w)]) (by decide +kernel) (Nat.le_of_ble_eq_true rfl) rfl ?_
  refine aw_aload_n dX9_reading_0 rfl rfl ?_
  refine aw_iload_n dX9_reading_1 rfl rfl ?_
  refine aw_callV cw_X9_isPerson ml_X9_120 im_X9_isPerson sl_X9_X9_isPerson rfl (by decide) rfl (c_X9_isPerson _ _ hc hI5 _) ⟨Nat.le_of_ble_eq_true rfl, Nat.le_of_ble_eq_true rfl⟩ ⟨Nat.zero_le _, Nat.zero_le _⟩ rfl rfl (Nat.le_of_ble_eq_true rfl) dX9_reading_2 ?_
  rintro _ _ ⟨rfl, rfl⟩
  rw [show b2i (sP c x) = 0 from by rw [hx]; rfl]
  refine aw_if_ne (tgt := 10) dX9_reading_5 (by decide) (fun c9 => absurd rfl c9) (fun _ => ?_)
  refine aw_iconst (v := (-1)) dX9_reading_8 (by decide) ?_
  refine aw_iret dX9_reading_9 (Nat.zero_le _) (Nat.zero_le _) ?_
  exact ⟨rfl, rfl, rfl⟩
set_option maxRecDepth 100000 in
set_option maxHeartbeats 4000000 in
theorem c_X9_reading {l : Launch} {D : va_G} {tc : Nat → ClassId} (I F : Nat → Nat → Int32) {c : Nat} (hc : c ≤ 6) (hI5 : I 0 5 = nI c) {p : Nat} (hp : p < c) {r : Nat} (hr : r ≤ 8) (hI24 : I 0 24 = nI r) (y w : Int32) : AM l D tc yX9_reading cX9_reading 4 (some .int) 1 22 0 0 [.ref 0, .int (nI p), .int y, .int w] 15 (hM I F) (fun v n1 h1 => n1 = 15 ∧ (v = some (.int (if sW y 0 18 && sW w 0 1 then (if r < 8 then nI r else -4) else -2)) ∧ h1 = hM (if sW y 0 18 && sW w 0 1 then (if r < 8 then st_I I 0 24 (nI (r + 1)) else I) else I) (if sW y 0 18 && sW w 0 1 then (if r < 8 then rdM F r (nI p) y w else F) else F))) := by
  refine am_of (L := [some (.ref 0), some (.int (nI p)), some (.int y), some (.int w)]) (by decide +kernel) (Nat.le_of_ble_eq_true rfl) rfl ?_
  refine aw_aload_n dX9_reading_0 rfl rfl ?_
  refine aw_iload_n dX9_reading_1 rfl rfl ?_
  refine aw_callV cw_X9_isPerson ml_X9_120 im_X9_isPerson sl_X9_X9_isPerson rfl (by decide) rfl (c_X9_isPerson _ _ hc hI5 _) ⟨Nat.le_of_ble_eq_true rfl, Nat.le_of_ble_eq_true rfl⟩ ⟨Nat.zero_le _, Nat.zero_le _⟩ rfl rfl (Nat.le_of_ble_eq_true rfl) dX9_reading_2 ?_
  rintro _ _ ⟨rfl, rfl⟩
  rw [show b2i (sP c (nI p)) = 1 from by rw [sP_nI hc hp]; rfl]
  refine aw_if_ne (tgt := 10) dX9_reading_5 (by decide) (fun _ => ?_) (fun c9 => absurd c9 (by decide))
  refine aw_iload_n dX9_reading_10 rfl rfl ?_
  refine aw_iconst (v := 0) dX9_reading_11 (by decide) ?_
  refine aw_bipush (v := (18)) dX9_reading_12 (by decide) ?_
  refine aw_callS cw_X9_within ml_X9_58 sm_X9_within (c_X9_within _ _ _ _ _) ⟨Nat.le_of_ble_eq_true rfl, Nat.le_of_ble_eq_true rfl⟩ ⟨Nat.zero_le _, Nat.zero_le _⟩ rfl rfl (Nat.le_of_ble_eq_true rfl) dX9_reading_14 ?_
  rintro _ _ ⟨rfl, rfl⟩
  refine aw_ifB_eq (tgt := 29) dX9_reading_17 (by decide) (fun c_17 => ?_) (fun c_17 => ?_)
  · refine aw_bipush (v := (-2)) dX9_reading_29 (by decide) ?_
    refine aw_iret dX9_reading_31 (Nat.zero_le _) (Nat.zero_le _) ?_
    refine ⟨rfl, ?_, ?_⟩ <;> first | (simp [*]; done) | (simp_all; done)
  · refine aw_iload_n dX9_reading_20 rfl rfl ?_
    refine aw_iconst (v := 0) dX9_reading_21 (by decide) ?_
    refine aw_iconst (v := 1) dX9_reading_22 (by decide) ?_
    refine aw_callS cw_X9_within ml_X9_58 sm_X9_within (c_X9_within _ _ _ _ _) ⟨Nat.le_of_ble_eq_true rfl, Nat.le_of_ble_eq_true rfl⟩ ⟨Nat.zero_le _, Nat.zero_le _⟩ rfl rfl (Nat.le_of_ble_eq_true rfl) dX9_reading_23 ?_
    rintro _ _ ⟨rfl, rfl⟩
    refine aw_ifB_ne (tgt := 32) dX9_reading_26 (by decide) (fun c_26 => ?_) (fun c_26 => ?_)
    · refine aw_aload_n dX9_reading_32 rfl rfl ?_
      refine aw_get fd_X9_104_9 dX9_reading_33 (by decide) rfl rfl ?_
      refine aw_bipush (v := (8)) dX9_reading_36 (by decide) ?_
      refine aw_icmp_ne (tgt := 44) dX9_reading_38 (by decide) (fun c_38 => ?_) (fun c_38 => ?_)
      · have hr8 : r < 8 := by
          rcases Nat.lt_or_ge r 8 with q | q
          · exact q
          · exact absurd (show I 0 24 = 8 from by rw [hI24, show r = 8 by omega]; rfl) c_38
        refine aw_aload_n dX9_reading_44 rfl rfl ?_
        refine aw_get fd_X9_43_9 dX9_reading_45 (by decide) rfl rfl ?_
        refine aw_aload_n dX9_reading_48 rfl rfl ?_
        refine aw_get fd_X9_104_9 dX9_reading_49 (by decide) rfl rfl ?_
        refine aw_iload_n dX9_reading_52 rfl rfl ?_
        refine aw_iasti dX9_reading_53 (by decide) rfl (fun _ => rfl) (by first | (rw [hI24]; exact vp_in_nI hr8 (by decide))) ?_
        refine aw_aload_n dX9_reading_54 rfl rfl ?_
        refine aw_get fd_X9_46_9 dX9_reading_55 (by decide) rfl rfl ?_
        refine aw_aload_n dX9_reading_58 rfl rfl ?_
        refine aw_get fd_X9_104_9 dX9_reading_59 (by decide) rfl rfl ?_
        refine aw_iload_n dX9_reading_62 rfl rfl ?_
        refine aw_iasti dX9_reading_63 (by decide) rfl (fun _ => rfl) (by first | (rw [hI24]; exact vp_in_nI hr8 (by decide))) ?_
        refine aw_aload_n dX9_reading_64 rfl rfl ?_
        refine aw_get fd_X9_49_9 dX9_reading_65 (by decide) rfl rfl ?_
        refine aw_aload_n dX9_reading_68 rfl rfl ?_
        refine aw_get fd_X9_104_9 dX9_reading_69 (by decide) rfl rfl ?_
        refine aw_iload_n dX9_reading_72 rfl rfl ?_
        refine aw_iasti dX9_reading_73 (by decide) rfl (fun _ => rfl) (by first | (rw [hI24]; exact vp_in_nI hr8 (by decide))) ?_
        refine aw_aload_n dX9_reading_74 rfl rfl ?_
        refine aw_dup dX9_reading_75 rfl ?_
        refine aw_get fd_X9_104_9 dX9_reading_76 (by decide) rfl rfl ?_
        refine aw_iconst (v := 1) dX9_reading_79 (by decide) ?_
        refine aw_iadd dX9_reading_80 ?_
        refine aw_puti fp_X9_104_9 dX9_reading_81 (by decide) rfl rfl rfl (Nat.le_of_ble_eq_true rfl) rfl ?_
        refine aw_aload_n dX9_reading_84 rfl rfl ?_
        refine aw_get fd_X9_104_9 dX9_reading_85 (by decide) rfl rfl ?_
        refine aw_iconst (v := 1) dX9_reading_88 (by decide) ?_
        refine aw_isub dX9_reading_89 ?_
        refine aw_iret dX9_reading_90 (Nat.zero_le _) (Nat.zero_le _) ?_
        have e1 : (sW y 0 18 && sW w 0 1) = true := by simp [*]
        rw [if_pos e1, if_pos e1, if_pos e1, if_pos hr8, if_pos hr8, if_pos hr8]
        refine ⟨rfl, ?_, ?_⟩
        · show some (Value.int (I 0 24 + 1 - 1)) = _
          rw [hI24, nI_1, nI_pred]
        · show hM (st_I I 0 24 (I 0 24 + 1)) (st_F (st_F (st_F F 12 (upd (F 12) (I 0 24).toNatClampNeg (nI p))) 13 (upd (F 13) (I 0 24).toNatClampNeg y)) 14 (upd (F 14) (I 0 24).toNatClampNeg w)) = _
          rw [hI24, nI_1, nI_clamp (by omega)]
          rfl
      · refine aw_bipush (v := (-4)) dX9_reading_41 (by decide) ?_
        refine aw_iret dX9_reading_43 (Nat.zero_le _) (Nat.zero_le _) ?_
        have hr8 : ¬ r < 8 := fun q => by
          rw [hI24] at c_38
          have : r = 8 := (nI_eq (b := 8) (by omega) (by decide)).mp c_38
          omega
        refine ⟨rfl, ?_, ?_⟩ <;> first | (simp [*]; done) | (simp_all; done)
    · refine aw_bipush (v := (-2)) dX9_reading_29 (by decide) ?_
      refine aw_iret dX9_reading_31 (Nat.zero_le _) (Nat.zero_le _) ?_
      refine ⟨rfl, ?_, ?_⟩ <;> first | (simp [*]; done) | (simp_all; done)
set_option maxRecDepth 100000 in
set_option maxHeartbeats 4000000 in
theorem c_X9_back {l : Launch} {D : va_G} {tc : Nat → ClassId} (I F : Nat → Nat → Int32) (w : Int32) : AM l D tc yX9_back cX9_back 2 (some .int) 1 22 0 0 [.ref 0, .int w] 15 (hM I F) (fun v n1 h1 => n1 = 15 ∧ (v = some (.int (if sW w 0 (I 0 24) then I 0 24 - w else -2)) ∧ h1 = hM (if sW w 0 (I 0 24) then st_I I 0 24 (I 0 24 - w) else I) F)) := by
  refine am_of (L := [some (.ref 0), some (.int w)]) (by decide +kernel) (Nat.le_of_ble_eq_true rfl) rfl ?_
  refine aw_iload_n dX9_back_0 rfl rfl ?_
  refine aw_iconst (v := 0) dX9_back_1 (by decide) ?_
  refine aw_aload_n dX9_back_2 rfl rfl ?_
  refine aw_get fd_X9_104_9 dX9_back_3 (by decide) rfl rfl ?_
  refine aw_callS cw_X9_within ml_X9_58 sm_X9_within (c_X9_within _ _ _ _ _) ⟨Nat.le_of_ble_eq_true rfl, Nat.le_of_ble_eq_true rfl⟩ ⟨Nat.zero_le _, Nat.zero_le _⟩ rfl rfl (Nat.le_of_ble_eq_true rfl) dX9_back_6 ?_
  rintro _ _ ⟨rfl, rfl⟩
  refine aw_ifB_ne (tgt := 15) dX9_back_9 (by decide) (fun c_9 => ?_) (fun c_9 => ?_)
  · refine aw_aload_n dX9_back_15 rfl rfl ?_
    refine aw_dup dX9_back_16 rfl ?_
    refine aw_get fd_X9_104_9 dX9_back_17 (by decide) rfl rfl ?_
    refine aw_iload_n dX9_back_20 rfl rfl ?_
    refine aw_isub dX9_back_21 ?_
    refine aw_puti fp_X9_104_9 dX9_back_22 (by decide) rfl rfl rfl (Nat.le_of_ble_eq_true rfl) rfl ?_
    refine aw_aload_n dX9_back_25 rfl rfl ?_
    refine aw_get fd_X9_104_9 dX9_back_26 (by decide) rfl rfl ?_
    refine aw_iret dX9_back_29 (Nat.zero_le _) (Nat.zero_le _) ?_
    refine ⟨rfl, ?_, ?_⟩
    · first | (rw [if_pos c_9]; rfl) | (rw [if_neg (by rw [c_9]; decide)])
    · first | (rw [if_pos c_9]) | (rw [if_neg (by rw [c_9]; decide)])
  · refine aw_bipush (v := (-2)) dX9_back_12 (by decide) ?_
    refine aw_iret dX9_back_14 (Nat.zero_le _) (Nat.zero_le _) ?_
    refine ⟨rfl, ?_, ?_⟩
    · first | (rw [if_pos c_9]; rfl) | (rw [if_neg (by rw [c_9]; decide)])
    · first | (rw [if_pos c_9]) | (rw [if_neg (by rw [c_9]; decide)])
set_option maxRecDepth 100000 in
set_option maxHeartbeats 4000000 in
theorem c_X9_trace {l : Launch} {D : va_G} {tc : Nat → ClassId} (I F : Nat → Nat → Int32)  : AM l D tc yX9_trace cX9_trace 1 (some .int) 0 0 0 0 [.ref 0] 15 (hM I F) (fun v n1 h1 => n1 = 15 ∧ (v = some (.int (I 0 1)) ∧ h1 = (hM I F))) := by
  refine am_of (L := [some (.ref 0)]) (by decide +kernel) (Nat.le_of_ble_eq_true rfl) rfl ?_
  refine aw_aload_n dX9_trace_0 rfl rfl ?_
  refine aw_get fd_X9_192_9 dX9_trace_1 (by decide) rfl rfl ?_
  refine aw_iret dX9_trace_4 (Nat.zero_le _) (Nat.zero_le _) ?_
  exact ⟨rfl, rfl, rfl⟩
set_option maxRecDepth 100000 in
set_option maxHeartbeats 4000000 in
theorem c_X9_fault {l : Launch} {D : va_G} {tc : Nat → ClassId} (I F : Nat → Nat → Int32)  : AM l D tc yX9_fault cX9_fault 1 (some .int) 0 0 0 0 [.ref 0] 15 (hM I F) (fun v n1 h1 => n1 = 15 ∧ (v = some (.int (I 0 0)) ∧ h1 = (hM I F))) := by
  refine am_of (L := [some (.ref 0)]) (by decide +kernel) (Nat.le_of_ble_eq_true rfl) rfl ?_
  refine aw_aload_n dX9_fault_0 rfl rfl ?_
  refine aw_get fd_X9_52_9 dX9_fault_1 (by decide) rfl rfl ?_
  refine aw_iret dX9_fault_4 (Nat.zero_le _) (Nat.zero_le _) ?_
  exact ⟨rfl, rfl, rfl⟩
set_option maxRecDepth 100000 in
set_option maxHeartbeats 4000000 in
theorem c_X9_many {l : Launch} {D : va_G} {tc : Nat → ClassId} (I F : Nat → Nat → Int32) {th : Nat} (hth : th < 64) (hI7 : I 0 7 = nI th) (w : Int32) : AM l D tc yX9_many cX9_many 2 (some .int) 1 22 0 0 [.ref 0, .int w] 15 (hM I F) (fun v n1 h1 => n1 = 15 ∧ (v = some (.int (sel5 w (I 0 5) (I 0 6) (nI (szN 6 th)) (I 0 8) (I 0 24))) ∧ h1 = (hM I F))) := by
  refine am_of (L := [some (.ref 0), some (.int w)]) (by decide +kernel) (Nat.le_of_ble_eq_true rfl) rfl ?_
  refine aw_iload_n dX9_many_0 rfl rfl ?_
  by_cases e_1_0 : w = 0
  · refine aw_tableC (off := 35) (tgt := 36) e_1_0 dX9_many_1 (by decide) (by decide) (by decide) (by decide) ?_
    refine aw_aload_n dX9_many_36 rfl rfl ?_
    refine aw_get fd_X9_62_9 dX9_many_37 (by decide) rfl rfl ?_
    refine aw_iret dX9_many_40 (Nat.zero_le _) (Nat.zero_le _) ?_
    refine ⟨rfl, ?_, rfl⟩
    simp [sel5, *]
  by_cases e_1_1 : w = 1
  · refine aw_tableC (off := 40) (tgt := 41) e_1_1 dX9_many_1 (by decide) (by decide) (by decide) (by decide) ?_
    refine aw_aload_n dX9_many_41 rfl rfl ?_
    refine aw_get fd_X9_92_9 dX9_many_42 (by decide) rfl rfl ?_
    refine aw_iret dX9_many_45 (Nat.zero_le _) (Nat.zero_le _) ?_
    refine ⟨rfl, ?_, rfl⟩
    simp [sel5, *]
  by_cases e_1_2 : w = 2
  · refine aw_tableC (off := 45) (tgt := 46) e_1_2 dX9_many_1 (by decide) (by decide) (by decide) (by decide) ?_
    refine aw_aload_n dX9_many_46 rfl rfl ?_
    refine aw_get fd_X9_98_9 dX9_many_47 (by decide) rfl rfl ?_
    rw [hI7]
    refine aw_callS cw_X9_size ml_X9_148 sm_X9_size (c_X9_size (m := th) hth _ _) ⟨Nat.le_of_ble_eq_true rfl, Nat.le_of_ble_eq_true rfl⟩ ⟨Nat.zero_le _, Nat.zero_le _⟩ rfl rfl (Nat.le_of_ble_eq_true rfl) dX9_many_50 ?_
    rintro _ _ ⟨rfl, rfl⟩
    refine aw_iret dX9_many_53 (Nat.zero_le _) (Nat.zero_le _) ?_
    refine ⟨rfl, ?_, rfl⟩
    simp [sel5, *]
  by_cases e_1_3 : w = 3
  · refine aw_tableC (off := 53) (tgt := 54) e_1_3 dX9_many_1 (by decide) (by decide) (by decide) (by decide) ?_
    refine aw_aload_n dX9_many_54 rfl rfl ?_
    refine aw_get fd_X9_101_9 dX9_many_55 (by decide) rfl rfl ?_
    refine aw_iret dX9_many_58 (Nat.zero_le _) (Nat.zero_le _) ?_
    refine ⟨rfl, ?_, rfl⟩
    simp [sel5, *]
  by_cases e_1_4 : w = 4
  · refine aw_tableC (off := 58) (tgt := 59) e_1_4 dX9_many_1 (by decide) (by decide) (by decide) (by decide) ?_
    refine aw_aload_n dX9_many_59 rfl rfl ?_
    refine aw_get fd_X9_104_9 dX9_many_60 (by decide) rfl rfl ?_
    refine aw_iret dX9_many_63 (Nat.zero_le _) (Nat.zero_le _) ?_
    refine ⟨rfl, ?_, rfl⟩
    simp [sel5, *]
  refine aw_tableOut (tgt := 64) dX9_many_1 (aw_out5 e_1_0 e_1_1 e_1_2 e_1_3 e_1_4) (by decide) ?_
  refine aw_bipush (v := (-2)) dX9_many_64 (by decide) ?_
  refine aw_iret dX9_many_66 (Nat.zero_le _) (Nat.zero_le _) ?_
  refine ⟨rfl, ?_, rfl⟩
  simp [sel5, *]
def sTellM (k x : Int32) : Int32 := if k = 1 then x + 100 else if k = 2 then 2 * x + 100 else x
def trTellM (k : Int32) (I : Nat → Nat → Int32) : Nat → Nat → Int32 := if k = 1 then trM (trM I 2) 1 else if k = 2 then trM (trM (trM (trM I 3) 2) 1) 1 else trM I 1
set_option maxRecDepth 100000 in
set_option maxHeartbeats 4000000 in
theorem c_X9_tell_no {l : Launch} {D : va_G} {tc : Nat → ClassId} (I F : Nat → Nat → Int32) {c : Nat} (hc : c ≤ 6) (hI5 : I 0 5 = nI c) {x : Int32} (hx : sP c x = false) : AM l D tc yX9_tell cX9_tell 3 (some .int) 1 21 0 0 [.ref 0, .int x] 15 (hM I F) (fun v n1 h1 => n1 = 15 ∧ (v = some (.int (-1)) ∧ h1 = hM I F)) := by
  refine am_of (L := [some (.ref 0), some (.int x), none]) (by decide +kernel) (Nat.le_of_ble_eq_true rfl) rfl ?_
  refine aw_aload_n dX9_tell_0 rfl rfl ?_
  refine aw_iload_n dX9_tell_1 rfl rfl ?_
  refine aw_callV cw_X9_isPerson ml_X9_120 im_X9_isPerson sl_X9_X9_isPerson rfl (by decide) rfl (c_X9_isPerson _ _ hc hI5 _) ⟨Nat.le_of_ble_eq_true rfl, Nat.le_of_ble_eq_true rfl⟩ ⟨Nat.zero_le _, Nat.zero_le _⟩ rfl rfl (Nat.le_of_ble_eq_true rfl) dX9_tell_2 ?_
  rintro _ _ ⟨rfl, rfl⟩
  rw [show b2i (sP c x) = 0 from by rw [hx]; rfl]
  refine aw_if_ne (tgt := 10) dX9_tell_5 (by decide) (fun c9 => absurd rfl c9) (fun _ => ?_)
  refine aw_iconst (v := (-1)) dX9_tell_8 (by decide) ?_
  refine aw_iret dX9_tell_9 (Nat.zero_le _) (Nat.zero_le _) ?_
  exact ⟨rfl, rfl, rfl⟩
set_option maxRecDepth 100000 in
set_option maxHeartbeats 4000000 in
theorem c_X9_tell {l : Launch} {D : va_G} {tc : Nat → ClassId} (I F : Nat → Nat → Int32) {c : Nat} (hc : c ≤ 6) (hI5 : I 0 5 = nI c) {p : Nat} (hp : p < c) : AM l D tc yX9_tell cX9_tell 3 (some .int) 1 21 0 0 [.ref 0, .int (nI p)] 15 (hM I F) (fun v n1 h1 => n1 = 15 ∧ (v = some (.int (sTellM (F 4 p) (F 5 p))) ∧ h1 = hM (trTellM (F 4 p) I) F)) := by
  refine am_of (L := [some (.ref 0), some (.int (nI p)), none]) (by decide +kernel) (Nat.le_of_ble_eq_true rfl) rfl ?_
  refine aw_aload_n dX9_tell_0 rfl rfl ?_
  refine aw_iload_n dX9_tell_1 rfl rfl ?_
  refine aw_callV cw_X9_isPerson ml_X9_120 im_X9_isPerson sl_X9_X9_isPerson rfl (by decide) rfl (c_X9_isPerson _ _ hc hI5 _) ⟨Nat.le_of_ble_eq_true rfl, Nat.le_of_ble_eq_true rfl⟩ ⟨Nat.zero_le _, Nat.zero_le _⟩ rfl rfl (Nat.le_of_ble_eq_true rfl) dX9_tell_2 ?_
  rintro _ _ ⟨rfl, rfl⟩
  rw [show b2i (sP c (nI p)) = 1 from by rw [sP_nI hc hp]; rfl]
  refine aw_if_ne (tgt := 10) dX9_tell_5 (by decide) (fun _ => ?_) (fun c9 => absurd c9 (by decide))
  refine aw_aload_n dX9_tell_10 rfl rfl ?_
  refine aw_get fd_X9_22_9 dX9_tell_11 (by decide) rfl rfl ?_
  refine aw_iload_n dX9_tell_14 rfl rfl ?_
  refine aw_iald dX9_tell_15 (by decide) rfl (vp_in_nI (by omega) (by decide)) ?_
  rw [nI_clamp (show p < 2 ^ 31 by omega)]
  refine aw_istore_n dX9_tell_16 rfl (by decide) rfl ?_
  refine aw_aload_n dX9_tell_17 rfl rfl ?_
  refine aw_get fd_X9_19_9 dX9_tell_18 (by decide) rfl rfl ?_
  refine aw_iload_n dX9_tell_21 rfl rfl ?_
  refine aw_iald dX9_tell_22 (by decide) rfl (vp_in_nI (by omega) (by decide)) ?_
  rw [nI_clamp (show p < 2 ^ 31 by omega)]
  by_cases e_23_1 : F 4 p = 1
  · refine aw_lookupC (off := 25) (tgt := 48) e_23_1 dX9_tell_23 (by decide) (by decide) (by decide) ?_
    refine aw_aload_n dX9_tell_48 rfl rfl ?_
    refine aw_iconst (v := 2) dX9_tell_49 (by decide) ?_
    refine aw_callV cw_X9_begins ml_X9_195 im_X9_begins sl_X9_X9_begins rfl (by decide) rfl (c_X9_begins _ _ _) ⟨Nat.le_of_ble_eq_true rfl, Nat.le_of_ble_eq_true rfl⟩ ⟨Nat.zero_le _, Nat.zero_le _⟩ rfl rfl (Nat.le_of_ble_eq_true rfl) dX9_tell_50 ?_
    rintro _ _ ⟨rfl, rfl⟩
    refine aw_aload_n dX9_tell_53 rfl rfl ?_
    refine aw_iconst (v := 1) dX9_tell_54 (by decide) ?_
    refine aw_callV cw_X9_begins ml_X9_195 im_X9_begins sl_X9_X9_begins rfl (by decide) rfl (c_X9_begins _ _ _) ⟨Nat.le_of_ble_eq_true rfl, Nat.le_of_ble_eq_true rfl⟩ ⟨Nat.zero_le _, Nat.zero_le _⟩ rfl rfl (Nat.le_of_ble_eq_true rfl) dX9_tell_55 ?_
    rintro _ _ ⟨rfl, rfl⟩
    refine aw_iload_n dX9_tell_58 rfl rfl ?_
    refine aw_bipush (v := (100)) dX9_tell_59 (by decide) ?_
    refine aw_iadd dX9_tell_61 ?_
    refine aw_iret dX9_tell_62 (Nat.zero_le _) (Nat.zero_le _) ?_
    refine ⟨rfl, ?_, ?_⟩
    · simp [sTellM, *]
    · unfold trTellM
      first | (rw [if_pos e_23_1]) | (rw [if_neg e_23_1, if_pos e_23_2]) | (rw [if_neg e_23_1, if_neg e_23_2])
  by_cases e_23_2 : F 4 p = 2
  · refine aw_lookupC (off := 40) (tgt := 63) e_23_2 dX9_tell_23 (by decide) (by decide) (by decide) ?_
    refine aw_aload_n dX9_tell_63 rfl rfl ?_
    refine aw_iconst (v := 3) dX9_tell_64 (by decide) ?_
    refine aw_callV cw_X9_begins ml_X9_195 im_X9_begins sl_X9_X9_begins rfl (by decide) rfl (c_X9_begins _ _ _) ⟨Nat.le_of_ble_eq_true rfl, Nat.le_of_ble_eq_true rfl⟩ ⟨Nat.zero_le _, Nat.zero_le _⟩ rfl rfl (Nat.le_of_ble_eq_true rfl) dX9_tell_65 ?_
    rintro _ _ ⟨rfl, rfl⟩
    refine aw_aload_n dX9_tell_68 rfl rfl ?_
    refine aw_iconst (v := 2) dX9_tell_69 (by decide) ?_
    refine aw_callV cw_X9_begins ml_X9_195 im_X9_begins sl_X9_X9_begins rfl (by decide) rfl (c_X9_begins _ _ _) ⟨Nat.le_of_ble_eq_true rfl, Nat.le_of_ble_eq_true rfl⟩ ⟨Nat.zero_le _, Nat.zero_le _⟩ rfl rfl (Nat.le_of_ble_eq_true rfl) dX9_tell_70 ?_
    rintro _ _ ⟨rfl, rfl⟩
    refine aw_aload_n dX9_tell_73 rfl rfl ?_
    refine aw_iconst (v := 1) dX9_tell_74 (by decide) ?_
    refine aw_callV cw_X9_begins ml_X9_195 im_X9_begins sl_X9_X9_begins rfl (by decide) rfl (c_X9_begins _ _ _) ⟨Nat.le_of_ble_eq_true rfl, Nat.le_of_ble_eq_true rfl⟩ ⟨Nat.zero_le _, Nat.zero_le _⟩ rfl rfl (Nat.le_of_ble_eq_true rfl) dX9_tell_75 ?_
    rintro _ _ ⟨rfl, rfl⟩
    refine aw_aload_n dX9_tell_78 rfl rfl ?_
    refine aw_iconst (v := 1) dX9_tell_79 (by decide) ?_
    refine aw_callV cw_X9_begins ml_X9_195 im_X9_begins sl_X9_X9_begins rfl (by decide) rfl (c_X9_begins _ _ _) ⟨Nat.le_of_ble_eq_true rfl, Nat.le_of_ble_eq_true rfl⟩ ⟨Nat.zero_le _, Nat.zero_le _⟩ rfl rfl (Nat.le_of_ble_eq_true rfl) dX9_tell_80 ?_
    rintro _ _ ⟨rfl, rfl⟩
    refine aw_iconst (v := 2) dX9_tell_83 (by decide) ?_
    refine aw_iload_n dX9_tell_84 rfl rfl ?_
    refine aw_imul dX9_tell_85 ?_
    refine aw_bipush (v := (100)) dX9_tell_86 (by decide) ?_
    refine aw_iadd dX9_tell_88 ?_
    refine aw_iret dX9_tell_89 (Nat.zero_le _) (Nat.zero_le _) ?_
    refine ⟨rfl, ?_, ?_⟩
    · simp [sTellM, *]
    · unfold trTellM
      first | (rw [if_pos e_23_1]) | (rw [if_neg e_23_1, if_pos e_23_2]) | (rw [if_neg e_23_1, if_neg e_23_2])
  refine aw_lookup (off := 67) (tgt := 90) dX9_tell_23 (by decide) (aw_lk2 (by decide) (by decide) e_23_1 e_23_2) (by decide) ?_
  refine aw_aload_n dX9_tell_90 rfl rfl ?_
  refine aw_iconst (v := 1) dX9_tell_91 (by decide) ?_
  refine aw_callV cw_X9_begins ml_X9_195 im_X9_begins sl_X9_X9_begins rfl (by decide) rfl (c_X9_begins _ _ _) ⟨Nat.le_of_ble_eq_true rfl, Nat.le_of_ble_eq_true rfl⟩ ⟨Nat.zero_le _, Nat.zero_le _⟩ rfl rfl (Nat.le_of_ble_eq_true rfl) dX9_tell_92 ?_
  rintro _ _ ⟨rfl, rfl⟩
  refine aw_iload_n dX9_tell_95 rfl rfl ?_
  refine aw_iret dX9_tell_96 (Nat.zero_le _) (Nat.zero_le _) ?_
  refine ⟨rfl, ?_, ?_⟩
  · simp [sTellM, *]
  · unfold trTellM
    first | (rw [if_pos e_23_1]) | (rw [if_neg e_23_1, if_pos e_23_2]) | (rw [if_neg e_23_1, if_neg e_23_2])
set_option maxRecDepth 100000 in
set_option maxHeartbeats 4000000 in
theorem c_X9_hear_no {l : Launch} {D : va_G} {tc : Nat → ClassId} (I F : Nat → Nat → Int32) {c : Nat} (hc : c ≤ 6) (hI5 : I 0 5 = nI c) {x : Int32} (hx : sP c x = false) : AM l D tc yX9_hear cX9_hear 2 (some .int) 1 21 0 0 [.ref 0, .int x] 15 (hM I F) (fun v n1 h1 => n1 = 15 ∧ (v = some (.int (-1)) ∧ h1 = hM I F)) := by
  refine am_of (L := [some (.ref 0), some (.int x)]) (by decide +kernel) (Nat.le_of_ble_eq_true rfl) rfl ?_
  refine aw_aload_n dX9_hear_0 rfl rfl ?_
  refine aw_iload_n dX9_hear_1 rfl rfl ?_
  refine aw_callV cw_X9_isPerson ml_X9_120 im_X9_isPerson sl_X9_X9_isPerson rfl (by decide) rfl (c_X9_isPerson _ _ hc hI5 _) ⟨Nat.le_of_ble_eq_true rfl, Nat.le_of_ble_eq_true rfl⟩ ⟨Nat.zero_le _, Nat.zero_le _⟩ rfl rfl (Nat.le_of_ble_eq_true rfl) dX9_hear_2 ?_
  rintro _ _ ⟨rfl, rfl⟩
  rw [show b2i (sP c x) = 0 from by rw [hx]; rfl]
  refine aw_if_ne (tgt := 10) dX9_hear_5 (by decide) (fun c9 => absurd rfl c9) (fun _ => ?_)
  refine aw_iconst (v := (-1)) dX9_hear_8 (by decide) ?_
  refine aw_iret dX9_hear_9 (Nat.zero_le _) (Nat.zero_le _) ?_
  exact ⟨rfl, rfl, rfl⟩
set_option maxRecDepth 100000 in
set_option maxHeartbeats 4000000 in
theorem c_X9_hear {l : Launch} {D : va_G} {tc : Nat → ClassId} (I F : Nat → Nat → Int32) {c : Nat} (hc : c ≤ 6) (hI5 : I 0 5 = nI c) {p : Nat} (hp : p < c) : AM l D tc yX9_hear cX9_hear 2 (some .int) 1 21 0 0 [.ref 0, .int (nI p)] 15 (hM I F) (fun v n1 h1 => n1 = 15 ∧ (v = some (.int (if F 4 p = 2 then 20 else nI p)) ∧ h1 = hM (if F 4 p = 2 then trM I 5 else trM I 4) F)) := by
  refine am_of (L := [some (.ref 0), some (.int (nI p))]) (by decide +kernel) (Nat.le_of_ble_eq_true rfl) rfl ?_
  refine aw_aload_n dX9_hear_0 rfl rfl ?_
  refine aw_iload_n dX9_hear_1 rfl rfl ?_
  refine aw_callV cw_X9_isPerson ml_X9_120 im_X9_isPerson sl_X9_X9_isPerson rfl (by decide) rfl (c_X9_isPerson _ _ hc hI5 _) ⟨Nat.le_of_ble_eq_true rfl, Nat.le_of_ble_eq_true rfl⟩ ⟨Nat.zero_le _, Nat.zero_le _⟩ rfl rfl (Nat.le_of_ble_eq_true rfl) dX9_hear_2 ?_
  rintro _ _ ⟨rfl, rfl⟩
  rw [show b2i (sP c (nI p)) = 1 from by rw [sP_nI hc hp]; rfl]
  refine aw_if_ne (tgt := 10) dX9_hear_5 (by decide) (fun _ => ?_) (fun c9 => absurd c9 (by decide))
  refine aw_aload_n dX9_hear_10 rfl rfl ?_
  refine aw_aload_n dX9_hear_11 rfl rfl ?_
  refine aw_get fd_X9_19_9 dX9_hear_12 (by decide) rfl rfl ?_
  refine aw_iload_n dX9_hear_15 rfl rfl ?_
  refine aw_iald dX9_hear_16 (by decide) rfl (vp_in_nI (by omega) (by decide)) ?_
  rw [nI_clamp (show p < 2 ^ 31 by omega)]
  refine aw_iconst (v := 2) dX9_hear_17 (by decide) ?_
  refine aw_icmp_ne (tgt := 25) dX9_hear_18 (by decide) (fun c_18 => ?_) (fun c_18 => ?_)
  · refine aw_iconst (v := 4) dX9_hear_25 (by decide) ?_
    refine aw_callV cw_X9_begins ml_X9_195 im_X9_begins sl_X9_X9_begins rfl (by decide) rfl (c_X9_begins _ _ _) ⟨Nat.le_of_ble_eq_true rfl, Nat.le_of_ble_eq_true rfl⟩ ⟨Nat.zero_le _, Nat.zero_le _⟩ rfl rfl (Nat.le_of_ble_eq_true rfl) dX9_hear_26 ?_
    rintro _ _ ⟨rfl, rfl⟩
    refine aw_aload_n dX9_hear_29 rfl rfl ?_
    refine aw_get fd_X9_19_9 dX9_hear_30 (by decide) rfl rfl ?_
    refine aw_iload_n dX9_hear_33 rfl rfl ?_
    refine aw_iald dX9_hear_34 (by decide) rfl (vp_in_nI (by omega) (by decide)) ?_
    rw [nI_clamp (show p < 2 ^ 31 by omega)]
    refine aw_iconst (v := 2) dX9_hear_35 (by decide) ?_
    refine aw_icmp_ne (tgt := 44) dX9_hear_36 (by decide) (fun c_36 => ?_) (fun c_36 => ?_)
    · refine aw_iload_n dX9_hear_44 rfl rfl ?_
      refine aw_iret dX9_hear_45 (Nat.zero_le _) (Nat.zero_le _) ?_
      refine ⟨rfl, ?_, ?_⟩ <;> first | (simp [*]; done) | (simp_all; done)
    · refine aw_bipush (v := (20)) dX9_hear_39 (by decide) ?_
      refine aw_goto (tgt := 45) dX9_hear_41 (by decide) ?_
      refine aw_iret dX9_hear_45 (Nat.zero_le _) (Nat.zero_le _) ?_
      refine ⟨rfl, ?_, ?_⟩ <;> first | (simp [*]; done) | (simp_all; done)
  · refine aw_iconst (v := 5) dX9_hear_21 (by decide) ?_
    refine aw_goto (tgt := 26) dX9_hear_22 (by decide) ?_
    refine aw_callV cw_X9_begins ml_X9_195 im_X9_begins sl_X9_X9_begins rfl (by decide) rfl (c_X9_begins _ _ _) ⟨Nat.le_of_ble_eq_true rfl, Nat.le_of_ble_eq_true rfl⟩ ⟨Nat.zero_le _, Nat.zero_le _⟩ rfl rfl (Nat.le_of_ble_eq_true rfl) dX9_hear_26 ?_
    rintro _ _ ⟨rfl, rfl⟩
    refine aw_aload_n dX9_hear_29 rfl rfl ?_
    refine aw_get fd_X9_19_9 dX9_hear_30 (by decide) rfl rfl ?_
    refine aw_iload_n dX9_hear_33 rfl rfl ?_
    refine aw_iald dX9_hear_34 (by decide) rfl (vp_in_nI (by omega) (by decide)) ?_
    rw [nI_clamp (show p < 2 ^ 31 by omega)]
    refine aw_iconst (v := 2) dX9_hear_35 (by decide) ?_
    refine aw_icmp_ne (tgt := 44) dX9_hear_36 (by decide) (fun c_36 => ?_) (fun c_36 => ?_)
    · refine aw_iload_n dX9_hear_44 rfl rfl ?_
      refine aw_iret dX9_hear_45 (Nat.zero_le _) (Nat.zero_le _) ?_
      refine ⟨rfl, ?_, ?_⟩ <;> first | (simp [*]; done) | (simp_all; done)
    · refine aw_bipush (v := (20)) dX9_hear_39 (by decide) ?_
      refine aw_goto (tgt := 45) dX9_hear_41 (by decide) ?_
      refine aw_iret dX9_hear_45 (Nat.zero_le _) (Nat.zero_le _) ?_
      refine ⟨rfl, ?_, ?_⟩ <;> first | (simp [*]; done) | (simp_all; done)
set_option maxRecDepth 100000 in
set_option maxHeartbeats 4000000 in
theorem c_X9_as_no {l : Launch} {D : va_G} {tc : Nat → ClassId} (I F : Nat → Nat → Int32) {c : Nat} (hc : c ≤ 6) (hI5 : I 0 5 = nI c) {x : Int32} (hx : sP c x = false) (w : Int32) : AM l D tc yX9_as cX9_as 3 (some .int) 1 22 0 0 [.ref 0, .int x, .int w] 15 (hM I F) (fun v n1 h1 => n1 = 15 ∧ (v = some (.int (-1)) ∧ h1 = hM (st_I I 0 0 0) F)) := by
  refine am_of (L := [some (.ref 0), some (.int x), some (.int w)]) (by decide +kernel) (Nat.le_of_ble_eq_true rfl) rfl ?_
  refine aw_aload_n dX9_as_0 rfl rfl ?_
  refine aw_iconst (v := 0) dX9_as_1 (by decide) ?_
  refine aw_puti fp_X9_52_9 dX9_as_2 (by decide) rfl rfl rfl (Nat.le_of_ble_eq_true rfl) rfl ?_
  refine aw_aload_n dX9_as_5 rfl rfl ?_
  refine aw_iload_n dX9_as_6 rfl rfl ?_
  refine aw_callV cw_X9_isPerson ml_X9_120 im_X9_isPerson sl_X9_X9_isPerson rfl (by decide) rfl (c_X9_isPerson (st_I I 0 0 0) _ hc (show st_I I 0 0 0 0 5 = nI c from hI5) _) ⟨Nat.le_of_ble_eq_true rfl, Nat.le_of_ble_eq_true rfl⟩ ⟨Nat.zero_le _, Nat.zero_le _⟩ rfl rfl (Nat.le_of_ble_eq_true rfl) dX9_as_7 ?_
  rintro _ _ ⟨rfl, rfl⟩
  rw [show b2i (sP c x) = 0 from by rw [hx]; rfl]
  refine aw_if_ne (tgt := 15) dX9_as_10 (by decide) (fun c9 => absurd rfl c9) (fun _ => ?_)
  refine aw_iconst (v := (-1)) dX9_as_13 (by decide) ?_
  refine aw_iret dX9_as_14 (Nat.zero_le _) (Nat.zero_le _) ?_
  exact ⟨rfl, rfl, rfl⟩
set_option maxRecDepth 100000 in
set_option maxHeartbeats 4000000 in
theorem c_X9_as {l : Launch} {D : va_G} {tc : Nat → ClassId} (I F : Nat → Nat → Int32) {c : Nat} (hc : c ≤ 6) (hI5 : I 0 5 = nI c) {p : Nat} (hp : p < c) (w : Int32) : AM l D tc yX9_as cX9_as 3 (some .int) 1 22 0 0 [.ref 0, .int (nI p), .int w] 15 (hM I F) (fun v n1 h1 => n1 = 15 ∧ (v = some (.int (if sW w 0 2 then (if F 4 p < w then -12 else 1) else -2)) ∧ h1 = hM (if sW w 0 2 then (if F 4 p < w then st_I I 0 0 2 else st_I I 0 0 0) else st_I I 0 0 0) F)) := by
  refine am_of (L := [some (.ref 0), some (.int (nI p)), some (.int w)]) (by decide +kernel) (Nat.le_of_ble_eq_true rfl) rfl ?_
  refine aw_aload_n dX9_as_0 rfl rfl ?_
  refine aw_iconst (v := 0) dX9_as_1 (by decide) ?_
  refine aw_puti fp_X9_52_9 dX9_as_2 (by decide) rfl rfl rfl (Nat.le_of_ble_eq_true rfl) rfl ?_
  refine aw_aload_n dX9_as_5 rfl rfl ?_
  refine aw_iload_n dX9_as_6 rfl rfl ?_
  refine aw_callV cw_X9_isPerson ml_X9_120 im_X9_isPerson sl_X9_X9_isPerson rfl (by decide) rfl (c_X9_isPerson (st_I I 0 0 0) _ hc (show st_I I 0 0 0 0 5 = nI c from hI5) _) ⟨Nat.le_of_ble_eq_true rfl, Nat.le_of_ble_eq_true rfl⟩ ⟨Nat.zero_le _, Nat.zero_le _⟩ rfl rfl (Nat.le_of_ble_eq_true rfl) dX9_as_7 ?_
  rintro _ _ ⟨rfl, rfl⟩
  rw [show b2i (sP c (nI p)) = 1 from by rw [sP_nI hc hp]; rfl]
  refine aw_if_ne (tgt := 15) dX9_as_10 (by decide) (fun _ => ?_) (fun c9 => absurd c9 (by decide))
  refine aw_iload_n dX9_as_15 rfl rfl ?_
  refine aw_iconst (v := 0) dX9_as_16 (by decide) ?_
  refine aw_iconst (v := 2) dX9_as_17 (by decide) ?_
  refine aw_callS cw_X9_within ml_X9_58 sm_X9_within (c_X9_within _ _ _ _ _) ⟨Nat.le_of_ble_eq_true rfl, Nat.le_of_ble_eq_true rfl⟩ ⟨Nat.zero_le _, Nat.zero_le _⟩ rfl rfl (Nat.le_of_ble_eq_true rfl) dX9_as_18 ?_
  rintro _ _ ⟨rfl, rfl⟩
  refine aw_ifB_ne (tgt := 27) dX9_as_21 (by decide) (fun c_21 => ?_) (fun c_21 => ?_)
  · refine aw_aload_n dX9_as_27 rfl rfl ?_
    refine aw_get fd_X9_19_9 dX9_as_28 (by decide) rfl rfl ?_
    refine aw_iload_n dX9_as_31 rfl rfl ?_
    refine aw_iald dX9_as_32 (by decide) rfl (vp_in_nI (by omega) (by decide)) ?_
    rw [nI_clamp (show p < 2 ^ 31 by omega)]
    refine aw_iload_n dX9_as_33 rfl rfl ?_
    refine aw_icmp_lt (tgt := 41) dX9_as_34 (by decide) (fun c_34 => ?_) (fun c_34 => ?_)
    · refine aw_aload_n dX9_as_41 rfl rfl ?_
      refine aw_iconst (v := 2) dX9_as_42 (by decide) ?_
      refine aw_callV cw_X9_fails ml_X9_79 im_X9_fails sl_X9_X9_fails rfl (by decide) rfl (c_X9_fails _ _ _) ⟨Nat.le_of_ble_eq_true rfl, Nat.le_of_ble_eq_true rfl⟩ ⟨Nat.zero_le _, Nat.zero_le _⟩ rfl rfl (Nat.le_of_ble_eq_true rfl) dX9_as_43 ?_
      rintro _ _ ⟨rfl, rfl⟩
      refine aw_iret dX9_as_46 (Nat.zero_le _) (Nat.zero_le _) ?_
      refine ⟨rfl, ?_, ?_⟩ <;> first | (simp [st_II, *]; done) | (simp_all [st_II]; done)
    · refine aw_iconst (v := 1) dX9_as_37 (by decide) ?_
      refine aw_goto (tgt := 46) dX9_as_38 (by decide) ?_
      refine aw_iret dX9_as_46 (Nat.zero_le _) (Nat.zero_le _) ?_
      refine ⟨rfl, ?_, ?_⟩ <;> first | (simp [st_II, *]; done) | (simp_all [st_II]; done)
  · refine aw_bipush (v := (-2)) dX9_as_24 (by decide) ?_
    refine aw_iret dX9_as_26 (Nat.zero_le _) (Nat.zero_le _) ?_
    refine ⟨rfl, ?_, ?_⟩ <;> first | (simp [st_II, *]; done) | (simp_all [st_II]; done)
set_option maxRecDepth 100000 in
set_option maxHeartbeats 4000000 in
theorem c_X9_lose_no {l : Launch} {D : va_G} {tc : Nat → ClassId} (I F : Nat → Nat → Int32) {x : Int32} (hx : sP 4 x = false) : AM l D tc yX9_lose cX9_lose 3 (some .int) 2 42 0 0 [.ref 0, .int x] 15 (hM I F) (fun v n1 h1 => n1 = 15 ∧ (v = some (.int (-1)) ∧ h1 = hM I F)) := by
  refine am_of (L := [some (.ref 0), some (.int x), none]) (by decide +kernel) (Nat.le_of_ble_eq_true rfl) rfl ?_
  refine aw_iload_n dX9_lose_0 rfl rfl ?_
  refine aw_callS cw_X9_isSheet ml_X9_68 sm_X9_isSheet (c_X9_isSheet _ _ _) ⟨Nat.le_of_ble_eq_true rfl, Nat.le_of_ble_eq_true rfl⟩ ⟨Nat.zero_le _, Nat.zero_le _⟩ rfl rfl (Nat.le_of_ble_eq_true rfl) dX9_lose_1 ?_
  rintro _ _ ⟨rfl, rfl⟩
  rw [show b2i (sW _ 0 3) = 0 from by rw [sP4, hx]; rfl]
  refine aw_if_ne (tgt := 9) dX9_lose_4 (by decide) (fun c9 => absurd rfl c9) (fun _ => ?_)
  refine aw_iconst (v := (-1)) dX9_lose_7 (by decide) ?_
  refine aw_iret dX9_lose_8 (Nat.zero_le _) (Nat.zero_le _) ?_
  exact ⟨rfl, rfl, rfl⟩
set_option maxRecDepth 100000 in
set_option maxHeartbeats 4000000 in
theorem c_X9_lose {l : Launch} {D : va_G} {tc : Nat → ClassId} (I F : Nat → Nat → Int32) {k : Nat} (hk : k < 4) : AM l D tc yX9_lose cX9_lose 3 (some .int) 2 42 0 0 [.ref 0, .int (nI k)] 15 (hM I F) (fun v n1 h1 => n1 = 15 ∧ (v = some (.int (if F 1 k = -9 then 0 else 1)) ∧ h1 = hM I (st_F F 1 (upd (F 1) k (-9))))) := by
  refine am_of (L := [some (.ref 0), some (.int (nI k)), none]) (by decide +kernel) (Nat.le_of_ble_eq_true rfl) rfl ?_
  refine aw_iload_n dX9_lose_0 rfl rfl ?_
  refine aw_callS cw_X9_isSheet ml_X9_68 sm_X9_isSheet (c_X9_isSheet _ _ _) ⟨Nat.le_of_ble_eq_true rfl, Nat.le_of_ble_eq_true rfl⟩ ⟨Nat.zero_le _, Nat.zero_le _⟩ rfl rfl (Nat.le_of_ble_eq_true rfl) dX9_lose_1 ?_
  rintro _ _ ⟨rfl, rfl⟩
  rw [show b2i (sW (nI _) 0 3) = 1 from by rw [sP4, sP_nI (c := 4) (by omega) hk]; rfl]
  refine aw_if_ne (tgt := 9) dX9_lose_4 (by decide) (fun _ => ?_) (fun c9 => absurd c9 (by decide))
  refine aw_aload_n dX9_lose_9 rfl rfl ?_
  refine aw_get fd_X9_9_9 dX9_lose_10 (by decide) rfl rfl ?_
  refine aw_iload_n dX9_lose_13 rfl rfl ?_
  refine aw_iald dX9_lose_14 (by decide) rfl (vp_in_nI hk (by decide)) ?_
  rw [nI_clamp (show k < 2 ^ 31 by omega)]
  refine aw_bipush (v := (-9)) dX9_lose_15 (by decide) ?_
  refine aw_icmp_ne (tgt := 24) dX9_lose_17 (by decide) (fun c_17 => ?_) (fun c_17 => ?_)
  · refine aw_iconst (v := 1) dX9_lose_24 (by decide) ?_
    refine aw_istore_n dX9_lose_25 rfl (by decide) rfl ?_
    refine aw_aload_n dX9_lose_26 rfl rfl ?_
    refine aw_get fd_X9_9_9 dX9_lose_27 (by decide) rfl rfl ?_
    refine aw_iload_n dX9_lose_30 rfl rfl ?_
    refine aw_bipush (v := (-9)) dX9_lose_31 (by decide) ?_
    refine aw_iasti dX9_lose_33 (by decide) rfl (fun _ => rfl) (vp_in_nI hk (by decide)) ?_
    refine aw_iload_n dX9_lose_34 rfl rfl ?_
    refine aw_iret dX9_lose_35 (Nat.zero_le _) (Nat.zero_le _) ?_
    refine ⟨rfl, ?_, ?_⟩
    · simp [*]
    · rw [nI_clamp (show k < 2 ^ 31 by omega)]
  · refine aw_iconst (v := 0) dX9_lose_20 (by decide) ?_
    refine aw_goto (tgt := 25) dX9_lose_21 (by decide) ?_
    refine aw_istore_n dX9_lose_25 rfl (by decide) rfl ?_
    refine aw_aload_n dX9_lose_26 rfl rfl ?_
    refine aw_get fd_X9_9_9 dX9_lose_27 (by decide) rfl rfl ?_
    refine aw_iload_n dX9_lose_30 rfl rfl ?_
    refine aw_bipush (v := (-9)) dX9_lose_31 (by decide) ?_
    refine aw_iasti dX9_lose_33 (by decide) rfl (fun _ => rfl) (vp_in_nI hk (by decide)) ?_
    refine aw_iload_n dX9_lose_34 rfl rfl ?_
    refine aw_iret dX9_lose_35 (Nat.zero_le _) (Nat.zero_le _) ?_
    refine ⟨rfl, ?_, ?_⟩
    · simp [*]
    · rw [nI_clamp (show k < 2 ^ 31 by omega)]
set_option maxRecDepth 100000 in
set_option maxHeartbeats 4000000 in
theorem c_X9_put_no {l : Launch} {D : va_G} {tc : Nat → ClassId} (I F : Nat → Nat → Int32) (J : Nat → Nat → Int32) (hJ : J = st_I I 0 0 0) {x : Int32} (hx : sP 4 x = false) (i : Int32) (m : Int32) : AM l D tc yX9_put cX9_put 4 (some .int) 2 42 0 0 [.ref 0, .int x, .int i, .int m] 15 (hM I F) (fun v n1 h1 => n1 = 15 ∧ (v = some (.int (-1)) ∧ h1 = hM J F)) := by
  refine am_of (L := [some (.ref 0), some (.int x), some (.int i), some (.int m)]) (by decide +kernel) (Nat.le_of_ble_eq_true rfl) rfl ?_
  refine aw_aload_n dX9_put_0 rfl rfl ?_
  refine aw_iconst (v := 0) dX9_put_1 (by decide) ?_
  refine aw_putI fp_X9_52_9 dX9_put_2 (by decide) rfl rfl rfl (Nat.le_of_ble_eq_true rfl) rfl hJ.symm ?_
  clear hJ
  refine aw_iload_n dX9_put_5 rfl rfl ?_
  refine aw_callS cw_X9_isSheet ml_X9_68 sm_X9_isSheet (c_X9_isSheet _ _ _) ⟨Nat.le_of_ble_eq_true rfl, Nat.le_of_ble_eq_true rfl⟩ ⟨Nat.zero_le _, Nat.zero_le _⟩ rfl rfl (Nat.le_of_ble_eq_true rfl) dX9_put_6 ?_
  rintro _ _ ⟨rfl, rfl⟩
  rw [show b2i (sW _ 0 3) = 0 from by rw [sP4, hx]; rfl]
  refine aw_if_ne (tgt := 14) dX9_put_9 (by decide) (fun c9 => absurd rfl c9) (fun _ => ?_)
  refine aw_iconst (v := (-1)) dX9_put_12 (by decide) ?_
  refine aw_iret dX9_put_13 (Nat.zero_le _) (Nat.zero_le _) ?_
  exact ⟨rfl, rfl, rfl⟩
def sCutM (t v : Int32) : Int32 := if t = 0 then v.toInt8.toInt32 else if t = 1 then v.toInt16.toInt32 else v
theorem in1 {z : Nat} (hz : z ≤ 60) {i w : Int32} (hw : w = nI z) (h : sW i 0 (w - 1) = true) : ∃ j : Nat, j < z ∧ i = nI j := by
  subst hw
  unfold sW at h
  simp only [Bool.and_eq_true, Bool.not_eq_true', decide_eq_false_iff_not] at h
  obtain ⟨j, hj, rfl⟩ := nI_of h.1
  refine ⟨j, ?_, rfl⟩
  rcases Nat.eq_zero_or_pos z with q | q
  · subst q
    have h1 : nI 0 - 1 < 0 := by decide
    have h2 := h.2
    exfalso
    apply h2
    rw [i32_lt] at h1 ⊢
    have h0 : (0 : Int32).toInt = 0 := by decide
    rw [h0] at h1
    rw [nI_toInt (by omega)]
    omega
  · obtain ⟨z2, rfl⟩ : ∃ z2, z = z2 + 1 := ⟨z - 1, by omega⟩
    rw [nI_pred] at h
    rcases Nat.lt_or_ge z2 j with q2 | q2
    · exact absurd (nI_lt q2 hj) h.2
    · omega
set_option maxRecDepth 100000 in
set_option maxHeartbeats 4000000 in
theorem c_X9_put {l : Launch} {D : va_G} {tc : Nat → ClassId} (I F : Nat → Nat → Int32) (J : Nat → Nat → Int32) (hJ : J = st_I I 0 0 0) {k : Nat} (hk : k < 4) {z : Nat} (hz : z ≤ 60) (hz2 : F 2 k = nI z) (i m : Int32) : AM l D tc yX9_put cX9_put 4 (some .int) 2 42 0 0 [.ref 0, .int (nI k), .int i, .int m] 15 (hM I F) (fun v n1 h1 => n1 = 15 ∧ (v = some (.int (if F 1 k = -9 then -11 else if sW i 0 (F 2 k - 1) then 1 else -13)) ∧ h1 = hM (if F 1 k = -9 then st_I J 0 0 1 else if sW i 0 (F 2 k - 1) then J else st_I J 0 0 3) (if F 1 k = -9 then F else if sW i 0 (F 2 k - 1) then st_F F 3 (upd (F 3) (60 * k + i.toNatClampNeg) (sCutM (F 1 k) m)) else F))) := by
  refine am_of (L := [some (.ref 0), some (.int (nI k)), some (.int i), some (.int m)]) (by decide +kernel) (Nat.le_of_ble_eq_true rfl) rfl ?_
  refine aw_aload_n dX9_put_0 rfl rfl ?_
  refine aw_iconst (v := 0) dX9_put_1 (by decide) ?_
  refine aw_putI fp_X9_52_9 dX9_put_2 (by decide) rfl rfl rfl (Nat.le_of_ble_eq_true rfl) rfl hJ.symm ?_
  clear hJ
  refine aw_iload_n dX9_put_5 rfl rfl ?_
  refine aw_callS cw_X9_isSheet ml_X9_68 sm_X9_isSheet (c_X9_isSheet _ _ _) ⟨Nat.le_of_ble_eq_true rfl, Nat.le_of_ble_eq_true rfl⟩ ⟨Nat.zero_le _, Nat.zero_le _⟩ rfl rfl (Nat.le_of_ble_eq_true rfl) dX9_put_6 ?_
  rintro _ _ ⟨rfl, rfl⟩
  rw [show b2i (sW (nI _) 0 3) = 1 from by rw [sP4, sP_nI (c := 4) (by omega) hk]; rfl]
  refine aw_if_ne (tgt := 14) dX9_put_9 (by decide) (fun _ => ?_) (fun c9 => absurd c9 (by decide))
  refine aw_aload_n dX9_put_14 rfl rfl ?_
  refine aw_get fd_X9_9_9 dX9_put_15 (by decide) rfl rfl ?_
  refine aw_iload_n dX9_put_18 rfl rfl ?_
  refine aw_iald dX9_put_19 (by decide) rfl (vp_in_nI hk (by decide)) ?_
  rw [nI_clamp (show k < 2 ^ 31 by omega)]
  refine aw_bipush (v := (-9)) dX9_put_20 (by decide) ?_
  refine aw_icmp_ne (tgt := 31) dX9_put_22 (by decide) (fun c_22 => ?_) (fun c_22 => ?_)
  · refine aw_iload_n dX9_put_31 rfl rfl ?_
    refine aw_iconst (v := 0) dX9_put_32 (by decide) ?_
    refine aw_aload_n dX9_put_33 rfl rfl ?_
    refine aw_get fd_X9_13_9 dX9_put_34 (by decide) rfl rfl ?_
    refine aw_iload_n dX9_put_37 rfl rfl ?_
    refine aw_iald dX9_put_38 (by decide) rfl (vp_in_nI hk (by decide)) ?_
    rw [nI_clamp (show k < 2 ^ 31 by omega)]
    refine aw_iconst (v := 1) dX9_put_39 (by decide) ?_
    refine aw_isub dX9_put_40 ?_
    refine aw_callS cw_X9_within ml_X9_58 sm_X9_within (c_X9_within _ _ _ _ _) ⟨Nat.le_of_ble_eq_true rfl, Nat.le_of_ble_eq_true rfl⟩ ⟨Nat.zero_le _, Nat.zero_le _⟩ rfl rfl (Nat.le_of_ble_eq_true rfl) dX9_put_41 ?_
    rintro _ _ ⟨rfl, rfl⟩
    refine aw_ifB_ne (tgt := 53) dX9_put_44 (by decide) (fun c_44 => ?_) (fun c_44 => ?_)
    · refine aw_aload_n dX9_put_53 rfl rfl ?_
      refine aw_get fd_X9_16_9 dX9_put_54 (by decide) rfl rfl ?_
      obtain ⟨j, hj, rfl⟩ := in1 hz hz2 c_44
      refine aw_bipush (v := (60)) dX9_put_57 (by decide) ?_
      refine aw_iload_n dX9_put_59 rfl rfl ?_
      refine aw_imul dX9_put_60 ?_
      refine aw_iload_n dX9_put_61 rfl rfl ?_
      refine aw_iadd dX9_put_62 ?_
      rw [ix60]
      refine aw_aload_n dX9_put_63 rfl rfl ?_
      refine aw_get fd_X9_9_9 dX9_put_64 (by decide) rfl rfl ?_
      refine aw_iload_n dX9_put_67 rfl rfl ?_
      refine aw_iald dX9_put_68 (by decide) rfl (vp_in_nI hk (by decide)) ?_
      rw [nI_clamp (show k < 2 ^ 31 by omega)]
      refine aw_if_ne (tgt := 77) dX9_put_69 (by decide) (fun c_69 => ?_) (fun c_69 => ?_)
      · refine aw_aload_n dX9_put_77 rfl rfl ?_
        refine aw_get fd_X9_9_9 dX9_put_78 (by decide) rfl rfl ?_
        refine aw_iload_n dX9_put_81 rfl rfl ?_
        refine aw_iald dX9_put_82 (by decide) rfl (vp_in_nI hk (by decide)) ?_
        rw [nI_clamp (show k < 2 ^ 31 by omega)]
        refine aw_iconst (v := 1) dX9_put_83 (by decide) ?_
        refine aw_icmp_ne (tgt := 92) dX9_put_84 (by decide) (fun c_84 => ?_) (fun c_84 => ?_)
        · refine aw_iload_n dX9_put_92 rfl rfl ?_
          refine aw_iasti dX9_put_93 (by decide) rfl (fun _ => rfl) (vp_in_nI (n := 60 * k + j) (by omega) (by decide)) ?_
          refine aw_iconst (v := 1) dX9_put_94 (by decide) ?_
          refine aw_iret dX9_put_95 (Nat.zero_le _) (Nat.zero_le _) ?_
          rw [if_neg c_22, if_neg c_22, if_neg c_22, if_pos c_44, if_pos c_44, if_pos c_44, nI_clamp (n := j) (by omega), nI_clamp (n := 60 * k + j) (by omega)]
          refine ⟨rfl, rfl, ?_⟩
          simp [sCutM, *]
        · refine aw_iload_n dX9_put_87 rfl rfl ?_
          refine aw_i2s dX9_put_88 ?_
          refine aw_goto (tgt := 93) dX9_put_89 (by decide) ?_
          refine aw_iasti dX9_put_93 (by decide) rfl (fun _ => rfl) (vp_in_nI (n := 60 * k + j) (by omega) (by decide)) ?_
          refine aw_iconst (v := 1) dX9_put_94 (by decide) ?_
          refine aw_iret dX9_put_95 (Nat.zero_le _) (Nat.zero_le _) ?_
          rw [if_neg c_22, if_neg c_22, if_neg c_22, if_pos c_44, if_pos c_44, if_pos c_44, nI_clamp (n := j) (by omega), nI_clamp (n := 60 * k + j) (by omega)]
          refine ⟨rfl, rfl, ?_⟩
          simp [sCutM, *]
      · refine aw_iload_n dX9_put_72 rfl rfl ?_
        refine aw_i2b dX9_put_73 ?_
        refine aw_goto (tgt := 93) dX9_put_74 (by decide) ?_
        refine aw_iasti dX9_put_93 (by decide) rfl (fun _ => rfl) (vp_in_nI (n := 60 * k + j) (by omega) (by decide)) ?_
        refine aw_iconst (v := 1) dX9_put_94 (by decide) ?_
        refine aw_iret dX9_put_95 (Nat.zero_le _) (Nat.zero_le _) ?_
        rw [if_neg c_22, if_neg c_22, if_neg c_22, if_pos c_44, if_pos c_44, if_pos c_44, nI_clamp (n := j) (by omega), nI_clamp (n := 60 * k + j) (by omega)]
        refine ⟨rfl, rfl, ?_⟩
        simp [sCutM, *]
    · refine aw_aload_n dX9_put_47 rfl rfl ?_
      refine aw_iconst (v := 3) dX9_put_48 (by decide) ?_
      refine aw_callV cw_X9_fails ml_X9_79 im_X9_fails sl_X9_X9_fails rfl (by decide) rfl (c_X9_fails _ _ _) ⟨Nat.le_of_ble_eq_true rfl, Nat.le_of_ble_eq_true rfl⟩ ⟨Nat.zero_le _, Nat.zero_le _⟩ rfl rfl (Nat.le_of_ble_eq_true rfl) dX9_put_49 ?_
      rintro _ _ ⟨rfl, rfl⟩
      refine aw_iret dX9_put_52 (Nat.zero_le _) (Nat.zero_le _) ?_
      rw [if_neg c_22, if_neg c_22, if_neg c_22, if_neg (by rw [c_44]; decide), if_neg (by rw [c_44]; decide), if_neg (by rw [c_44]; decide)]
      exact ⟨rfl, rfl, rfl⟩
  · refine aw_aload_n dX9_put_25 rfl rfl ?_
    refine aw_iconst (v := 1) dX9_put_26 (by decide) ?_
    refine aw_callV cw_X9_fails ml_X9_79 im_X9_fails sl_X9_X9_fails rfl (by decide) rfl (c_X9_fails _ _ _) ⟨Nat.le_of_ble_eq_true rfl, Nat.le_of_ble_eq_true rfl⟩ ⟨Nat.zero_le _, Nat.zero_le _⟩ rfl rfl (Nat.le_of_ble_eq_true rfl) dX9_put_27 ?_
    rintro _ _ ⟨rfl, rfl⟩
    refine aw_iret dX9_put_30 (Nat.zero_le _) (Nat.zero_le _) ?_
    rw [if_pos c_22, if_pos c_22, if_pos c_22]
    exact ⟨rfl, rfl, rfl⟩
set_option maxRecDepth 100000 in
set_option maxHeartbeats 4000000 in
theorem c_X9_cell_no {l : Launch} {D : va_G} {tc : Nat → ClassId} (I F : Nat → Nat → Int32) (J : Nat → Nat → Int32) (hJ : J = st_I I 0 0 0) {x : Int32} (hx : sP 4 x = false) (i : Int32) (a : Int32) : AM l D tc yX9_cell cX9_cell 4 (some .long) 2 42 0 0 [.ref 0, .int x, .int i, .int a] 15 (hM I F) (fun v n1 h1 => n1 = 15 ∧ (v = some (.long (-9223372036854775808)) ∧ h1 = hM J F)) := by
  refine am_of (L := [some (.ref 0), some (.int x), some (.int i), some (.int a)]) (by decide +kernel) (Nat.le_of_ble_eq_true rfl) rfl ?_
  refine aw_aload_n dX9_cell_0 rfl rfl ?_
  refine aw_iconst (v := 0) dX9_cell_1 (by decide) ?_
  refine aw_putI fp_X9_52_9 dX9_cell_2 (by decide) rfl rfl rfl (Nat.le_of_ble_eq_true rfl) rfl hJ.symm ?_
  clear hJ
  refine aw_iload_n dX9_cell_5 rfl rfl ?_
  refine aw_callS cw_X9_isSheet ml_X9_68 sm_X9_isSheet (c_X9_isSheet _ _ _) ⟨Nat.le_of_ble_eq_true rfl, Nat.le_of_ble_eq_true rfl⟩ ⟨Nat.zero_le _, Nat.zero_le _⟩ rfl rfl (Nat.le_of_ble_eq_true rfl) dX9_cell_6 ?_
  rintro _ _ ⟨rfl, rfl⟩
  rw [show b2i (sW _ 0 3) = 0 from by rw [sP4, hx]; rfl]
  refine aw_if_eq (tgt := 19) dX9_cell_9 (by decide) (fun _ => ?_) (fun c9 => absurd rfl c9)
  refine aw_ldc2 dX9_cell_19 ct_X9_56 ?_
  refine aw_lret dX9_cell_22 (Nat.zero_le _) (Nat.zero_le _) ?_
  exact ⟨rfl, rfl, rfl⟩
def ceM (t z a i : Int32) : Int32 := if t = -9 then 1 else if t = a then (if sW i 0 (z - 1) then 0 else 3) else 2
set_option maxRecDepth 100000 in
set_option maxHeartbeats 4000000 in
theorem c_X9_cell {l : Launch} {D : va_G} {tc : Nat → ClassId} (I F : Nat → Nat → Int32) (J : Nat → Nat → Int32) (hJ : J = st_I I 0 0 0) {k : Nat} (hk : k < 4) {z : Nat} (hz : z ≤ 60) (hz2 : F 2 k = nI z) (i a : Int32) : AM l D tc yX9_cell cX9_cell 4 (some .long) 2 42 0 0 [.ref 0, .int (nI k), .int i, .int a] 15 (hM I F) (fun v n1 h1 => n1 = 15 ∧ (v = some (.long (if sW a 0 2 then (if (ceM (F 1 k) (F 2 k) a i) = 0 then (F 3 (60 * k + i.toNatClampNeg)).toInt64 else -9223372036854775808) else -9223372036854775808)) ∧ h1 = hM (if sW a 0 2 then (if (ceM (F 1 k) (F 2 k) a i) = 0 then J else st_I J 0 0 (ceM (F 1 k) (F 2 k) a i)) else J) F)) := by
  refine am_of (L := [some (.ref 0), some (.int (nI k)), some (.int i), some (.int a)]) (by decide +kernel) (Nat.le_of_ble_eq_true rfl) rfl ?_
  refine aw_aload_n dX9_cell_0 rfl rfl ?_
  refine aw_iconst (v := 0) dX9_cell_1 (by decide) ?_
  refine aw_putI fp_X9_52_9 dX9_cell_2 (by decide) rfl rfl rfl (Nat.le_of_ble_eq_true rfl) rfl hJ.symm ?_
  clear hJ
  refine aw_iload_n dX9_cell_5 rfl rfl ?_
  refine aw_callS cw_X9_isSheet ml_X9_68 sm_X9_isSheet (c_X9_isSheet _ _ _) ⟨Nat.le_of_ble_eq_true rfl, Nat.le_of_ble_eq_true rfl⟩ ⟨Nat.zero_le _, Nat.zero_le _⟩ rfl rfl (Nat.le_of_ble_eq_true rfl) dX9_cell_6 ?_
  rintro _ _ ⟨rfl, rfl⟩
  rw [show b2i (sW (nI _) 0 3) = 1 from by rw [sP4, sP_nI (c := 4) (by omega) hk]; rfl]
  refine aw_if_eq (tgt := 19) dX9_cell_9 (by decide) (fun c9 => absurd c9 (by decide)) (fun _ => ?_)
  refine aw_iload_n dX9_cell_12 rfl rfl ?_
  refine aw_callS cw_X9_isSort ml_X9_72 sm_X9_isSort (c_X9_isSort _ _ _) ⟨Nat.le_of_ble_eq_true rfl, Nat.le_of_ble_eq_true rfl⟩ ⟨Nat.zero_le _, Nat.zero_le _⟩ rfl rfl (Nat.le_of_ble_eq_true rfl) dX9_cell_13 ?_
  rintro _ _ ⟨rfl, rfl⟩
  refine aw_ifB_ne (tgt := 23) dX9_cell_16 (by decide) (fun c_16 => ?_) (fun c_16 => ?_)
  · refine aw_aload_n dX9_cell_23 rfl rfl ?_
    refine aw_get fd_X9_9_9 dX9_cell_24 (by decide) rfl rfl ?_
    refine aw_iload_n dX9_cell_27 rfl rfl ?_
    refine aw_iald dX9_cell_28 (by decide) rfl (vp_in_nI hk (by decide)) ?_
    rw [nI_clamp (show k < 2 ^ 31 by omega)]
    refine aw_bipush (v := (-9)) dX9_cell_29 (by decide) ?_
    refine aw_icmp_eq (tgt := 50) dX9_cell_31 (by decide) (fun c_31 => ?_) (fun c_31 => ?_)
    · refine aw_aload_n dX9_cell_50 rfl rfl ?_
      refine aw_get fd_X9_9_9 dX9_cell_51 (by decide) rfl rfl ?_
      refine aw_iload_n dX9_cell_54 rfl rfl ?_
      refine aw_iald dX9_cell_55 (by decide) rfl (vp_in_nI hk (by decide)) ?_
      rw [nI_clamp (show k < 2 ^ 31 by omega)]
      refine aw_bipush (v := (-9)) dX9_cell_56 (by decide) ?_
      refine aw_icmp_ne (tgt := 67) dX9_cell_58 (by decide) (fun c_58 => ?_) (fun c_58 => ?_)
      · refine aw_iload_n dX9_cell_67 rfl rfl ?_
        refine aw_iconst (v := 0) dX9_cell_68 (by decide) ?_
        refine aw_aload_n dX9_cell_69 rfl rfl ?_
        refine aw_get fd_X9_13_9 dX9_cell_70 (by decide) rfl rfl ?_
        refine aw_iload_n dX9_cell_73 rfl rfl ?_
        refine aw_iald dX9_cell_74 (by decide) rfl (vp_in_nI hk (by decide)) ?_
        rw [nI_clamp (show k < 2 ^ 31 by omega)]
        refine aw_iconst (v := 1) dX9_cell_75 (by decide) ?_
        refine aw_isub dX9_cell_76 ?_
        refine aw_callS cw_X9_within ml_X9_58 sm_X9_within (c_X9_within _ _ _ _ _) ⟨Nat.le_of_ble_eq_true rfl, Nat.le_of_ble_eq_true rfl⟩ ⟨Nat.zero_le _, Nat.zero_le _⟩ rfl rfl (Nat.le_of_ble_eq_true rfl) dX9_cell_77 ?_
        rintro _ _ ⟨rfl, rfl⟩
        refine aw_ifB_ne (tgt := 89) dX9_cell_80 (by decide) (fun c_80 => ?_) (fun c_80 => ?_)
        · refine aw_aload_n dX9_cell_89 rfl rfl ?_
          refine aw_get fd_X9_16_9 dX9_cell_90 (by decide) rfl rfl ?_
          obtain ⟨j, hj, rfl⟩ := in1 hz hz2 c_80
          refine aw_bipush (v := (60)) dX9_cell_93 (by decide) ?_
          refine aw_iload_n dX9_cell_95 rfl rfl ?_
          refine aw_imul dX9_cell_96 ?_
          refine aw_iload_n dX9_cell_97 rfl rfl ?_
          refine aw_iadd dX9_cell_98 ?_
          rw [ix60]
          refine aw_iald dX9_cell_99 (by decide) rfl (vp_in_nI (n := 60 * k + j) (by omega) (by decide)) ?_
          refine aw_i2l dX9_cell_100 ?_
          refine aw_lret dX9_cell_101 (Nat.zero_le _) (Nat.zero_le _) ?_
          have e9 : ceM (F 1 k) (F 2 k) a (nI j) = 0 := by
            unfold ceM
            repeat' split
            all_goals first | rfl | contradiction | (simp_all; done)
          rw [if_pos c_16, if_pos c_16, e9, if_pos rfl, if_pos rfl, nI_clamp (n := j) (by omega), nI_clamp (n := 60 * k + j) (by omega)]
          exact ⟨rfl, rfl, rfl⟩
        · refine aw_aload_n dX9_cell_83 rfl rfl ?_
          refine aw_iconst (v := 3) dX9_cell_84 (by decide) ?_
          refine aw_callV cw_X9_lost ml_X9_188 im_X9_lost sl_X9_X9_lost rfl (by decide) rfl (c_X9_lost _ _ _) ⟨Nat.le_of_ble_eq_true rfl, Nat.le_of_ble_eq_true rfl⟩ ⟨Nat.zero_le _, Nat.zero_le _⟩ rfl rfl (Nat.le_of_ble_eq_true rfl) dX9_cell_85 ?_
          rintro _ _ ⟨rfl, rfl⟩
          refine aw_lret dX9_cell_88 (Nat.zero_le _) (Nat.zero_le _) ?_
          have e9 : ceM (F 1 k) (F 2 k) a i = 3 := by
            unfold ceM
            repeat' split
            all_goals first | rfl | contradiction | (simp_all; done)
          rw [if_pos c_16, if_pos c_16, e9, if_neg (by decide), if_neg (by decide)]
          exact ⟨rfl, rfl, rfl⟩
      · refine aw_aload_n dX9_cell_61 rfl rfl ?_
        refine aw_iconst (v := 1) dX9_cell_62 (by decide) ?_
        refine aw_callV cw_X9_lost ml_X9_188 im_X9_lost sl_X9_X9_lost rfl (by decide) rfl (c_X9_lost _ _ _) ⟨Nat.le_of_ble_eq_true rfl, Nat.le_of_ble_eq_true rfl⟩ ⟨Nat.zero_le _, Nat.zero_le _⟩ rfl rfl (Nat.le_of_ble_eq_true rfl) dX9_cell_63 ?_
        rintro _ _ ⟨rfl, rfl⟩
        refine aw_lret dX9_cell_66 (Nat.zero_le _) (Nat.zero_le _) ?_
        have e9 : ceM (F 1 k) (F 2 k) a i = 1 := by
          unfold ceM
          repeat' split
          all_goals first | rfl | contradiction | (simp_all; done)
        rw [if_pos c_16, if_pos c_16, e9, if_neg (by decide), if_neg (by decide)]
        exact ⟨rfl, rfl, rfl⟩
    · refine aw_aload_n dX9_cell_34 rfl rfl ?_
      refine aw_get fd_X9_9_9 dX9_cell_35 (by decide) rfl rfl ?_
      refine aw_iload_n dX9_cell_38 rfl rfl ?_
      refine aw_iald dX9_cell_39 (by decide) rfl (vp_in_nI hk (by decide)) ?_
      rw [nI_clamp (show k < 2 ^ 31 by omega)]
      refine aw_iload_n dX9_cell_40 rfl rfl ?_
      refine aw_icmp_eq (tgt := 50) dX9_cell_41 (by decide) (fun c_41 => ?_) (fun c_41 => ?_)
      · refine aw_aload_n dX9_cell_50 rfl rfl ?_
        refine aw_get fd_X9_9_9 dX9_cell_51 (by decide) rfl rfl ?_
        refine aw_iload_n dX9_cell_54 rfl rfl ?_
        refine aw_iald dX9_cell_55 (by decide) rfl (vp_in_nI hk (by decide)) ?_
        rw [nI_clamp (show k < 2 ^ 31 by omega)]
        refine aw_bipush (v := (-9)) dX9_cell_56 (by decide) ?_
        refine aw_icmp_ne (tgt := 67) dX9_cell_58 (by decide) (fun c_58 => ?_) (fun c_58 => ?_)
        · refine aw_iload_n dX9_cell_67 rfl rfl ?_
          refine aw_iconst (v := 0) dX9_cell_68 (by decide) ?_
          refine aw_aload_n dX9_cell_69 rfl rfl ?_
          refine aw_get fd_X9_13_9 dX9_cell_70 (by decide) rfl rfl ?_
          refine aw_iload_n dX9_cell_73 rfl rfl ?_
          refine aw_iald dX9_cell_74 (by decide) rfl (vp_in_nI hk (by decide)) ?_
          rw [nI_clamp (show k < 2 ^ 31 by omega)]
          refine aw_iconst (v := 1) dX9_cell_75 (by decide) ?_
          refine aw_isub dX9_cell_76 ?_
          refine aw_callS cw_X9_within ml_X9_58 sm_X9_within (c_X9_within _ _ _ _ _) ⟨Nat.le_of_ble_eq_true rfl, Nat.le_of_ble_eq_true rfl⟩ ⟨Nat.zero_le _, Nat.zero_le _⟩ rfl rfl (Nat.le_of_ble_eq_true rfl) dX9_cell_77 ?_
          rintro _ _ ⟨rfl, rfl⟩
          refine aw_ifB_ne (tgt := 89) dX9_cell_80 (by decide) (fun c_80 => ?_) (fun c_80 => ?_)
          · refine aw_aload_n dX9_cell_89 rfl rfl ?_
            refine aw_get fd_X9_16_9 dX9_cell_90 (by decide) rfl rfl ?_
            obtain ⟨j, hj, rfl⟩ := in1 hz hz2 c_80
            refine aw_bipush (v := (60)) dX9_cell_93 (by decide) ?_
            refine aw_iload_n dX9_cell_95 rfl rfl ?_
            refine aw_imul dX9_cell_96 ?_
            refine aw_iload_n dX9_cell_97 rfl rfl ?_
            refine aw_iadd dX9_cell_98 ?_
            rw [ix60]
            refine aw_iald dX9_cell_99 (by decide) rfl (vp_in_nI (n := 60 * k + j) (by omega) (by decide)) ?_
            refine aw_i2l dX9_cell_100 ?_
            refine aw_lret dX9_cell_101 (Nat.zero_le _) (Nat.zero_le _) ?_
            have e9 : ceM (F 1 k) (F 2 k) a (nI j) = 0 := by
              unfold ceM
              repeat' split
              all_goals first | rfl | contradiction | (simp_all; done)
            rw [if_pos c_16, if_pos c_16, e9, if_pos rfl, if_pos rfl, nI_clamp (n := j) (by omega), nI_clamp (n := 60 * k + j) (by omega)]
            exact ⟨rfl, rfl, rfl⟩
          · refine aw_aload_n dX9_cell_83 rfl rfl ?_
            refine aw_iconst (v := 3) dX9_cell_84 (by decide) ?_
            refine aw_callV cw_X9_lost ml_X9_188 im_X9_lost sl_X9_X9_lost rfl (by decide) rfl (c_X9_lost _ _ _) ⟨Nat.le_of_ble_eq_true rfl, Nat.le_of_ble_eq_true rfl⟩ ⟨Nat.zero_le _, Nat.zero_le _⟩ rfl rfl (Nat.le_of_ble_eq_true rfl) dX9_cell_85 ?_
            rintro _ _ ⟨rfl, rfl⟩
            refine aw_lret dX9_cell_88 (Nat.zero_le _) (Nat.zero_le _) ?_
            have e9 : ceM (F 1 k) (F 2 k) a i = 3 := by
              unfold ceM
              repeat' split
              all_goals first | rfl | contradiction | (simp_all; done)
            rw [if_pos c_16, if_pos c_16, e9, if_neg (by decide), if_neg (by decide)]
            exact ⟨rfl, rfl, rfl⟩
        · refine aw_aload_n dX9_cell_61 rfl rfl ?_
          refine aw_iconst (v := 1) dX9_cell_62 (by decide) ?_
          refine aw_callV cw_X9_lost ml_X9_188 im_X9_lost sl_X9_X9_lost rfl (by decide) rfl (c_X9_lost _ _ _) ⟨Nat.le_of_ble_eq_true rfl, Nat.le_of_ble_eq_true rfl⟩ ⟨Nat.zero_le _, Nat.zero_le _⟩ rfl rfl (Nat.le_of_ble_eq_true rfl) dX9_cell_63 ?_
          rintro _ _ ⟨rfl, rfl⟩
          refine aw_lret dX9_cell_66 (Nat.zero_le _) (Nat.zero_le _) ?_
          have e9 : ceM (F 1 k) (F 2 k) a i = 1 := by
            unfold ceM
            repeat' split
            all_goals first | rfl | contradiction | (simp_all; done)
          rw [if_pos c_16, if_pos c_16, e9, if_neg (by decide), if_neg (by decide)]
          exact ⟨rfl, rfl, rfl⟩
      · refine aw_aload_n dX9_cell_44 rfl rfl ?_
        refine aw_iconst (v := 2) dX9_cell_45 (by decide) ?_
        refine aw_callV cw_X9_lost ml_X9_188 im_X9_lost sl_X9_X9_lost rfl (by decide) rfl (c_X9_lost _ _ _) ⟨Nat.le_of_ble_eq_true rfl, Nat.le_of_ble_eq_true rfl⟩ ⟨Nat.zero_le _, Nat.zero_le _⟩ rfl rfl (Nat.le_of_ble_eq_true rfl) dX9_cell_46 ?_
        rintro _ _ ⟨rfl, rfl⟩
        refine aw_lret dX9_cell_49 (Nat.zero_le _) (Nat.zero_le _) ?_
        have e9 : ceM (F 1 k) (F 2 k) a i = 2 := by
          unfold ceM
          repeat' split
          all_goals first | rfl | contradiction | (simp_all; done)
        rw [if_pos c_16, if_pos c_16, e9, if_neg (by decide), if_neg (by decide)]
        exact ⟨rfl, rfl, rfl⟩
  · refine aw_ldc2 dX9_cell_19 ct_X9_56 ?_
    refine aw_lret dX9_cell_22 (Nat.zero_le _) (Nat.zero_le _) ?_
    rw [if_neg (by rw [c_16]; decide), if_neg (by rw [c_16]; decide)]
    exact ⟨rfl, rfl, rfl⟩
set_option maxRecDepth 100000 in
set_option maxHeartbeats 4000000 in
theorem c_X9_sheet_no {l : Launch} {D : va_G} {tc : Nat → ClassId} (I F : Nat → Nat → Int32) (J : Nat → Nat → Int32) (hJ : J = st_I I 0 0 0) {x : Int32} (hx : sP 4 x = false) (a : Int32) (m : Int32) : AM l D tc yX9_sheet cX9_sheet 5 (some .int) 2 42 0 0 [.ref 0, .int x, .int a, .int m] 15 (hM I F) (fun v n1 h1 => n1 = 15 ∧ (v = some (.int (-1)) ∧ h1 = hM J F)) := by
  refine am_of (L := [some (.ref 0), some (.int x), some (.int a), some (.int m), none]) (by decide +kernel) (Nat.le_of_ble_eq_true rfl) rfl ?_
  refine aw_aload_n dX9_sheet_0 rfl rfl ?_
  refine aw_iconst (v := 0) dX9_sheet_1 (by decide) ?_
  refine aw_putI fp_X9_52_9 dX9_sheet_2 (by decide) rfl rfl rfl (Nat.le_of_ble_eq_true rfl) rfl hJ.symm ?_
  clear hJ
  refine aw_iload_n dX9_sheet_5 rfl rfl ?_
  refine aw_callS cw_X9_isSheet ml_X9_68 sm_X9_isSheet (c_X9_isSheet _ _ _) ⟨Nat.le_of_ble_eq_true rfl, Nat.le_of_ble_eq_true rfl⟩ ⟨Nat.zero_le _, Nat.zero_le _⟩ rfl rfl (Nat.le_of_ble_eq_true rfl) dX9_sheet_6 ?_
  rintro _ _ ⟨rfl, rfl⟩
  rw [show b2i (sW _ 0 3) = 0 from by rw [sP4, hx]; rfl]
  refine aw_if_ne (tgt := 14) dX9_sheet_9 (by decide) (fun c9 => absurd rfl c9) (fun _ => ?_)
  refine aw_iconst (v := (-1)) dX9_sheet_12 (by decide) ?_
  refine aw_iret dX9_sheet_13 (Nat.zero_le _) (Nat.zero_le _) ?_
  exact ⟨rfl, rfl, rfl⟩
def zrM (f : Nat → Int32) (k i : Nat) : Nat → Int32 := fun j => if 60 * k ≤ j ∧ j < 60 * k + i then 0 else f j
theorem zrM_0 (f : Nat → Int32) (k : Nat) : zrM f k 0 = f := by funext j; unfold zrM; rw [if_neg (by omega)]
theorem zrM_s (f : Nat → Int32) (k i : Nat) : upd (zrM f k i) (60 * k + i) 0 = zrM f k (i + 1) := by
  funext j
  unfold upd zrM
  by_cases e : j = 60 * k + i
  · rw [if_pos e, if_pos (by omega)]
  · rw [if_neg e]
    by_cases q : 60 * k ≤ j ∧ j < 60 * k + i
    · rw [if_pos q, if_pos (by omega)]
    · rw [if_neg q, if_neg (by omega)]
set_option maxRecDepth 100000 in
set_option maxHeartbeats 4000000 in
theorem lp_X9_sheet {l : Launch} {D : va_G} {tc : Nat → ClassId} (I F : Nat → Nat → Int32) {k : Nat} (hk : k < 4) (a b : Int32) (f0 : Nat → Int32) : ∀ (m i : Nat), i + m = 60 → AW l D tc yX9_sheet.cls cX9_sheet 5 (some .int) { frames := 2, cells := 0, slots := 0, locals := 42 } 15 0 0 (fun v n1 h1 => n1 = 15 ∧ (v = some (.int 1) ∧ h1 = hM I (st_F F 3 (zrM f0 k 60)))) 57 [some (.ref 0), some (.int (nI k)), some (.int a), some (.int b), some (.int (nI i))] [] 15 (hM I (st_F F 3 (zrM f0 k i))) 0 0 := by
  intro m
  induction m using Nat.strongRecOn with
  | _ m ih =>
    intro i hi
    refine aw_iload dX9_sheet_57 rfl ?_
    refine aw_bipush (v := (60)) dX9_sheet_59 (by decide) ?_
    refine aw_icmp_ge (tgt := 83) dX9_sheet_61 (by decide) (fun c_61 => ?_) (fun c_61 => ?_)
    · have hi6 := lp_ge (N := 60) (by decide) (by omega) c_61
      subst hi6
      refine aw_iconst (v := 1) dX9_sheet_83 (by decide) ?_
      refine aw_iret dX9_sheet_84 (Nat.zero_le _) (Nat.zero_le _) ?_
      exact ⟨rfl, rfl, rfl⟩
    · have hi6 := lp_lt (N := 60) (by omega) c_61
      refine aw_aload_n dX9_sheet_64 rfl rfl ?_
      refine aw_get fd_X9_16_9 dX9_sheet_65 (by decide) rfl rfl ?_
      refine aw_bipush (v := (60)) dX9_sheet_68 (by decide) ?_
      refine aw_iload_n dX9_sheet_70 rfl rfl ?_
      refine aw_imul dX9_sheet_71 ?_
      refine aw_iload dX9_sheet_72 rfl ?_
      refine aw_iadd dX9_sheet_74 ?_
      rw [ix60]
      refine aw_iconst (v := 0) dX9_sheet_75 (by decide) ?_
      refine aw_iastI dX9_sheet_76 (by decide) rfl (fun _ => rfl) (vp_in_nI (n := 60 * k + i) (by omega) (by decide)) (show _ = st_F F 3 (zrM f0 k (i + 1)) from by rw [← zrM_s, nI_clamp (show 60 * k + i < 2 ^ 31 by omega)]; exact st_FF _ _ _ _) ?_
      refine aw_iinc (v := 1) dX9_sheet_77 rfl (by decide) (by decide) rfl ?_
      refine aw_goto (tgt := 57) dX9_sheet_80 (by decide) ?_
      rw [nI_1]
      exact ih (m - 1) (by omega) (i + 1) (by omega)
set_option maxRecDepth 100000 in
set_option maxHeartbeats 4000000 in
theorem c_X9_sheet {l : Launch} {D : va_G} {tc : Nat → ClassId} (I F : Nat → Nat → Int32) (J : Nat → Nat → Int32) (hJ : J = st_I I 0 0 0) {k : Nat} (hk : k < 4) (a m : Int32) : AM l D tc yX9_sheet cX9_sheet 5 (some .int) 2 42 0 0 [.ref 0, .int (nI k), .int a, .int m] 15 (hM I F) (fun v n1 h1 => n1 = 15 ∧ (v = some (.int (if (sW a 0 2 && decide (m ≤ 60)) then (if 0 ≤ m then 1 else -14) else -2)) ∧ h1 = hM (if (sW a 0 2 && decide (m ≤ 60)) then (if 0 ≤ m then J else st_I J 0 0 4) else J) (if (sW a 0 2 && decide (m ≤ 60)) then (if 0 ≤ m then st_F (st_F (st_F F 1 (upd (F 1) k a)) 2 (upd (F 2) k m)) 3 (zrM (F 3) k 60) else F) else F))) := by
  refine am_of (L := [some (.ref 0), some (.int (nI k)), some (.int a), some (.int m), none]) (by decide +kernel) (Nat.le_of_ble_eq_true rfl) rfl ?_
  refine aw_aload_n dX9_sheet_0 rfl rfl ?_
  refine aw_iconst (v := 0) dX9_sheet_1 (by decide) ?_
  refine aw_putI fp_X9_52_9 dX9_sheet_2 (by decide) rfl rfl rfl (Nat.le_of_ble_eq_true rfl) rfl hJ.symm ?_
  clear hJ
  refine aw_iload_n dX9_sheet_5 rfl rfl ?_
  refine aw_callS cw_X9_isSheet ml_X9_68 sm_X9_isSheet (c_X9_isSheet _ _ _) ⟨Nat.le_of_ble_eq_true rfl, Nat.le_of_ble_eq_true rfl⟩ ⟨Nat.zero_le _, Nat.zero_le _⟩ rfl rfl (Nat.le_of_ble_eq_true rfl) dX9_sheet_6 ?_
  rintro _ _ ⟨rfl, rfl⟩
  rw [show b2i (sW (nI _) 0 3) = 1 from by rw [sP4, sP_nI (c := 4) (by omega) hk]; rfl]
  refine aw_if_ne (tgt := 14) dX9_sheet_9 (by decide) (fun _ => ?_) (fun c9 => absurd c9 (by decide))
  refine aw_iload_n dX9_sheet_14 rfl rfl ?_
  refine aw_callS cw_X9_isSort ml_X9_72 sm_X9_isSort (c_X9_isSort _ _ _) ⟨Nat.le_of_ble_eq_true rfl, Nat.le_of_ble_eq_true rfl⟩ ⟨Nat.zero_le _, Nat.zero_le _⟩ rfl rfl (Nat.le_of_ble_eq_true rfl) dX9_sheet_15 ?_
  rintro _ _ ⟨rfl, rfl⟩
  refine aw_ifB_eq (tgt := 27) dX9_sheet_18 (by decide) (fun c_18 => ?_) (fun c_18 => ?_)
  · refine aw_bipush (v := (-2)) dX9_sheet_27 (by decide) ?_
    refine aw_iret dX9_sheet_29 (Nat.zero_le _) (Nat.zero_le _) ?_
    refine ⟨rfl, ?_, ?_⟩ <;> first | (simp [*]; done) | (simp_all; done)
  · refine aw_iload_n dX9_sheet_21 rfl rfl ?_
    refine aw_bipush (v := (60)) dX9_sheet_22 (by decide) ?_
    refine aw_icmp_le (tgt := 30) dX9_sheet_24 (by decide) (fun c_24 => ?_) (fun c_24 => ?_)
    · refine aw_iload_n dX9_sheet_30 rfl rfl ?_
      refine aw_if_ge (tgt := 40) dX9_sheet_31 (by decide) (fun c_31 => ?_) (fun c_31 => ?_)
      · refine aw_aload_n dX9_sheet_40 rfl rfl ?_
        refine aw_get fd_X9_9_9 dX9_sheet_41 (by decide) rfl rfl ?_
        refine aw_iload_n dX9_sheet_44 rfl rfl ?_
        refine aw_iload_n dX9_sheet_45 rfl rfl ?_
        refine aw_iasti dX9_sheet_46 (by decide) rfl (fun _ => rfl) (vp_in_nI hk (by decide)) ?_
        refine aw_aload_n dX9_sheet_47 rfl rfl ?_
        refine aw_get fd_X9_13_9 dX9_sheet_48 (by decide) rfl rfl ?_
        refine aw_iload_n dX9_sheet_51 rfl rfl ?_
        refine aw_iload_n dX9_sheet_52 rfl rfl ?_
        refine aw_iasti dX9_sheet_53 (by decide) rfl (fun _ => rfl) (vp_in_nI hk (by decide)) ?_
        refine aw_iconst (v := 0) dX9_sheet_54 (by decide) ?_
        refine aw_istore dX9_sheet_55 (by decide) rfl ?_
        have e1 : (sW a 0 2 && decide (m ≤ 60)) = true := by simp [*]
        rw [if_pos e1, if_pos e1, if_pos e1, if_pos c_31, if_pos c_31, if_pos c_31, nI_clamp (show k < 2 ^ 31 by omega)]
        have hl := lp_X9_sheet (l := l) (D := D) (tc := tc) J (st_F (st_F F 1 (upd (F 1) k a)) 2 (upd (F 2) k m)) hk a m (F 3) 60 0 (by omega)
        rw [zrM_0, show st_F (st_F (st_F F 1 (upd (F 1) k a)) 2 (upd (F 2) k m)) 3 (F 3) = st_F (st_F F 1 (upd (F 1) k a)) 2 (upd (F 2) k m) from st_F0 _ 3] at hl
        exact hl
      · refine aw_aload_n dX9_sheet_34 rfl rfl ?_
        refine aw_iconst (v := 4) dX9_sheet_35 (by decide) ?_
        refine aw_callV cw_X9_fails ml_X9_79 im_X9_fails sl_X9_X9_fails rfl (by decide) rfl (c_X9_fails _ _ _) ⟨Nat.le_of_ble_eq_true rfl, Nat.le_of_ble_eq_true rfl⟩ ⟨Nat.zero_le _, Nat.zero_le _⟩ rfl rfl (Nat.le_of_ble_eq_true rfl) dX9_sheet_36 ?_
        rintro _ _ ⟨rfl, rfl⟩
        refine aw_iret dX9_sheet_39 (Nat.zero_le _) (Nat.zero_le _) ?_
        refine ⟨rfl, ?_, ?_⟩ <;> first | (simp [*]; done) | (simp_all; done)
    · refine aw_bipush (v := (-2)) dX9_sheet_27 (by decide) ?_
      refine aw_iret dX9_sheet_29 (Nat.zero_le _) (Nat.zero_le _) ?_
      refine ⟨rfl, ?_, ?_⟩ <;> first | (simp [*]; done) | (simp_all; done)
set_option maxRecDepth 100000 in
set_option maxHeartbeats 4000000 in
theorem lp_X9_areSo {l : Launch} {D : va_G} {tc : Nat → ClassId} (I F : Nat → Nat → Int32) {r : Nat} (hr : r ≤ 8) (hI24 : I 0 24 = nI r) (hw : ∀ k, k < r → vp_in (F 12 k) 6) : ∀ (m i : Nat) (w : Option Value), i + m = r → rdAll (myM I F) (F 12) (F 13) (F 14) i = true → AW l D tc yX9_areSo.cls cX9_areSo 3 (some .boolean) { frames := 2, cells := 0, slots := 0, locals := 43 } 15 0 0 (fun v n1 h1 => n1 = 15 ∧ (v = some (.int (b2i (rdAll (myM I F) (F 12) (F 13) (F 14) r))) ∧ h1 = (hM I F))) 2 [some (.ref 0), some (.int (nI i)), w] [] 15 (hM I F) 0 0 := by
  intro m
  induction m using Nat.strongRecOn with
  | _ m ih =>
    intro i w hi hq
    refine aw_iload_n dX9_areSo_2 rfl rfl ?_
    refine aw_aload_n dX9_areSo_3 rfl rfl ?_
    refine aw_get fd_X9_104_9 dX9_areSo_4 (by decide) rfl rfl ?_
    refine aw_icmp_ge (tgt := 53) dX9_areSo_7 (by decide) (fun c_7 => ?_) (fun c_7 => ?_)
    · refine aw_iconst (v := 1) dX9_areSo_53 (by decide) ?_
      refine aw_zret dX9_areSo_54 (by first | rfl | exact aw_nb _) (Nat.zero_le _) (Nat.zero_le _) ?_
      have hi6 := lp_ge (i := i) (N := r) (by omega) (by omega) (by rw [← hI24]; exact c_7)
      subst hi6
      refine ⟨rfl, ?_, rfl⟩
      rw [hq]
      rfl
    · have hi6 : i < r := lp_lt (N := r) (by omega) (by rw [← hI24]; exact c_7)
      refine aw_aload_n dX9_areSo_10 rfl rfl ?_
      refine aw_aload_n dX9_areSo_11 rfl rfl ?_
      refine aw_get fd_X9_43_9 dX9_areSo_12 (by decide) rfl rfl ?_
      refine aw_iload_n dX9_areSo_15 rfl rfl ?_
      refine aw_iald dX9_areSo_16 (by decide) rfl (vp_in_nI (by omega) (by decide)) ?_
      rw [nI_clamp (show i < 2 ^ 31 by omega)]
      obtain ⟨w9, hw9, e9⟩ := vp_in_of (hw i hi6) (by decide)
      refine aw_callV (av := [.int (F 12 i)]) cw_X9_mayOf ml_X9_123 im_X9_mayOf sl_X9_X9_mayOf rfl (by decide) rfl (by rw [e9]; exact c_X9_mayOf _ _ hw9) ⟨Nat.le_of_ble_eq_true rfl, Nat.le_of_ble_eq_true rfl⟩ ⟨Nat.zero_le _, Nat.zero_le _⟩ rfl rfl (Nat.le_of_ble_eq_true rfl) dX9_areSo_17 ?_
      rintro _ _ ⟨rfl, rfl⟩
      refine aw_aload_n dX9_areSo_20 rfl rfl ?_
      refine aw_get fd_X9_46_9 dX9_areSo_21 (by decide) rfl rfl ?_
      refine aw_iload_n dX9_areSo_24 rfl rfl ?_
      refine aw_iald dX9_areSo_25 (by decide) rfl (vp_in_nI (by omega) (by decide)) ?_
      refine aw_icmp_le (tgt := 33) dX9_areSo_26 (by decide) (fun c_26 => ?_) (fun c_26 => ?_)
      · refine aw_iconst (v := 0) dX9_areSo_33 (by decide) ?_
        refine aw_istore_n dX9_areSo_34 rfl (by decide) rfl ?_
        refine aw_iload_n dX9_areSo_35 rfl rfl ?_
        refine aw_aload_n dX9_areSo_36 rfl rfl ?_
        refine aw_get fd_X9_49_9 dX9_areSo_37 (by decide) rfl rfl ?_
        refine aw_iload_n dX9_areSo_40 rfl rfl ?_
        refine aw_iald dX9_areSo_41 (by decide) rfl (vp_in_nI (by omega) (by decide)) ?_
        refine aw_icmp_eq (tgt := 47) dX9_areSo_42 (by decide) (fun c_42 => ?_) (fun c_42 => ?_)
        · refine aw_iinc (v := 1) dX9_areSo_47 rfl (by decide) (by decide) rfl ?_
          refine aw_goto (tgt := 2) dX9_areSo_50 (by decide) ?_
          rw [nI_1]
          exact ih (m - 1) (by omega) (i + 1) _ (by omega) (by
            rw [rdAll, hq, Bool.true_and]
            rw [nI_clamp (show i < 2 ^ 31 by omega)] at *
            simp only [rdSo, decide_eq_true_eq, e9, nI_clamp (show w9 < 2 ^ 31 by omega)]
            rw [← c_42]
            simp [b2i, c_26])
        · refine aw_iconst (v := 0) dX9_areSo_45 (by decide) ?_
          refine aw_zret dX9_areSo_46 (by first | rfl | exact aw_nb _) (Nat.zero_le _) (Nat.zero_le _) ?_
          refine ⟨rfl, ?_, rfl⟩
          have hso : rdSo (myM I F) (F 12) (F 13) (F 14) i = false := by
            rw [nI_clamp (show i < 2 ^ 31 by omega)] at *
            simp only [rdSo, decide_eq_false_iff_not, e9, nI_clamp (show w9 < 2 ^ 31 by omega)]
            intro q9
            apply c_42
            rw [← q9]
            simp [b2i, c_26]
          rw [rdAll_no hi6 hso]
          rfl
      · refine aw_iconst (v := 1) dX9_areSo_29 (by decide) ?_
        refine aw_goto (tgt := 34) dX9_areSo_30 (by decide) ?_
        refine aw_istore_n dX9_areSo_34 rfl (by decide) rfl ?_
        refine aw_iload_n dX9_areSo_35 rfl rfl ?_
        refine aw_aload_n dX9_areSo_36 rfl rfl ?_
        refine aw_get fd_X9_49_9 dX9_areSo_37 (by decide) rfl rfl ?_
        refine aw_iload_n dX9_areSo_40 rfl rfl ?_
        refine aw_iald dX9_areSo_41 (by decide) rfl (vp_in_nI (by omega) (by decide)) ?_
        refine aw_icmp_eq (tgt := 47) dX9_areSo_42 (by decide) (fun c_42 => ?_) (fun c_42 => ?_)
        · refine aw_iinc (v := 1) dX9_areSo_47 rfl (by decide) (by decide) rfl ?_
          refine aw_goto (tgt := 2) dX9_areSo_50 (by decide) ?_
          rw [nI_1]
          exact ih (m - 1) (by omega) (i + 1) _ (by omega) (by
            rw [rdAll, hq, Bool.true_and]
            rw [nI_clamp (show i < 2 ^ 31 by omega)] at *
            simp only [rdSo, decide_eq_true_eq, e9, nI_clamp (show w9 < 2 ^ 31 by omega)]
            rw [← c_42]
            simp [b2i, c_26])
        · refine aw_iconst (v := 0) dX9_areSo_45 (by decide) ?_
          refine aw_zret dX9_areSo_46 (by first | rfl | exact aw_nb _) (Nat.zero_le _) (Nat.zero_le _) ?_
          refine ⟨rfl, ?_, rfl⟩
          have hso : rdSo (myM I F) (F 12) (F 13) (F 14) i = false := by
            rw [nI_clamp (show i < 2 ^ 31 by omega)] at *
            simp only [rdSo, decide_eq_false_iff_not, e9, nI_clamp (show w9 < 2 ^ 31 by omega)]
            intro q9
            apply c_42
            rw [← q9]
            simp [b2i, c_26]
          rw [rdAll_no hi6 hso]
          rfl
set_option maxRecDepth 100000 in
set_option maxHeartbeats 4000000 in
theorem c_X9_areSo {l : Launch} {D : va_G} {tc : Nat → ClassId} (I F : Nat → Nat → Int32) {r : Nat} (hr : r ≤ 8) (hI24 : I 0 24 = nI r) (hw : ∀ k, k < r → vp_in (F 12 k) 6) : AM l D tc yX9_areSo cX9_areSo 3 (some .boolean) 2 43 0 0 [.ref 0] 15 (hM I F) (fun v n1 h1 => n1 = 15 ∧ (v = some (.int (b2i (rdAll (myM I F) (F 12) (F 13) (F 14) r))) ∧ h1 = (hM I F))) := by
  refine am_of (L := [some (.ref 0), none, none]) (by decide +kernel) (Nat.le_of_ble_eq_true rfl) rfl ?_
  refine aw_iconst (v := 0) dX9_areSo_0 (by decide) ?_
  refine aw_istore_n dX9_areSo_1 rfl (by decide) rfl ?_
  exact lp_X9_areSo I F hr hI24 hw r 0 none (by omega) rfl
set_option maxRecDepth 100000 in
set_option maxHeartbeats 4000000 in
theorem c_X9_hastes_no {l : Launch} {D : va_G} {tc : Nat → ClassId} (I F : Nat → Nat → Int32) {c : Nat} (hc : c ≤ 6) (hI5 : I 0 5 = nI c) {x : Int32} (hx : sP c x = false) : AM l D tc yX9_hastes cX9_hastes 5 (some .int) 3 65 0 0 [.ref 0, .int x] 15 (hM I F) (fun v n1 h1 => n1 = 15 ∧ (v = some (.int (-1)) ∧ h1 = hM I F)) := by
  refine am_of (L := [some (.ref 0), some (.int x), none, none, none]) (by decide +kernel) (Nat.le_of_ble_eq_true rfl) rfl ?_
  refine aw_aload_n dX9_hastes_0 rfl rfl ?_
  refine aw_iload_n dX9_hastes_1 rfl rfl ?_
  refine aw_callV cw_X9_isPerson ml_X9_120 im_X9_isPerson sl_X9_X9_isPerson rfl (by decide) rfl (c_X9_isPerson _ _ hc hI5 _) ⟨Nat.le_of_ble_eq_true rfl, Nat.le_of_ble_eq_true rfl⟩ ⟨Nat.zero_le _, Nat.zero_le _⟩ rfl rfl (Nat.le_of_ble_eq_true rfl) dX9_hastes_2 ?_
  rintro _ _ ⟨rfl, rfl⟩
  rw [show b2i (sP c x) = 0 from by rw [hx]; rfl]
  refine aw_if_ne (tgt := 10) dX9_hastes_5 (by decide) (fun c9 => absurd rfl c9) (fun _ => ?_)
  refine aw_iconst (v := (-1)) dX9_hastes_8 (by decide) ?_
  refine aw_iret dX9_hastes_9 (Nat.zero_le _) (Nat.zero_le _) ?_
  exact ⟨rfl, rfl, rfl⟩
theorem upd_upd (f : Nat → Int32) (k : Nat) (x y : Int32) : upd (upd f k x) k y = upd f k y := by
  funext j
  unfold upd
  by_cases e : j = k <;> simp [e]
theorem upd_self (f : Nat → Int32) (k : Nat) : upd f k (f k) = f := by
  funext j
  unfold upd
  by_cases e : j = k <;> simp [e]
set_option maxRecDepth 100000 in
set_option maxHeartbeats 4000000 in
theorem lp_X9_hastes {l : Launch} {D : va_G} {tc : Nat → ClassId} (I F : Nat → Nat → Int32) {c : Nat} (hc : c ≤ 6) (hI5 : I 0 5 = nI c) {p : Nat} (hp : p < c) {r : Nat} (hr : r ≤ 8) (hI24 : I 0 24 = nI r) (hw : ∀ k, k < r → vp_in (F 12 k) 6) : ∀ (m i : Nat) (x b : Int32), i + m = 10 → bsN (fun v => rdAll (myM I (st_F F 5 (upd (F 5) p (nI v)))) (F 12) (F 13) (F 14) r) i = b → AW l D tc yX9_hastes.cls cX9_hastes 5 (some .int) { frames := 3, cells := 0, slots := 0, locals := 65 } 15 0 0 (fun v n1 h1 => n1 = 15 ∧ (v = some (.int (bsN (fun v => rdAll (myM I (st_F F 5 (upd (F 5) p (nI v)))) (F 12) (F 13) (F 14) r) 10)) ∧ h1 = (hM I F))) 22 [some (.ref 0), some (.int (nI p)), some (.int (F 5 p)), some (.int b), some (.int (nI i))] [] 15 (hM I (st_F F 5 (upd (F 5) p x))) 0 0 := by
  intro m
  induction m using Nat.strongRecOn with
  | _ m ih =>
    intro i x b hi hb
    refine aw_iload dX9_hastes_22 rfl ?_
    refine aw_bipush (v := (9)) dX9_hastes_24 (by decide) ?_
    refine aw_icmp_gt (tgt := 61) dX9_hastes_26 (by decide) (fun c_26 => ?_) (fun c_26 => ?_)
    · have hi6 := gt_9 (N := 9) (by decide) (by omega) c_26
      subst hi6
      refine aw_aload_n dX9_hastes_61 rfl rfl ?_
      refine aw_get fd_X9_22_9 dX9_hastes_62 (by decide) rfl rfl ?_
      refine aw_iload_n dX9_hastes_65 rfl rfl ?_
      refine aw_iload_n dX9_hastes_66 rfl rfl ?_
      refine aw_iastI dX9_hastes_67 (by decide) rfl (fun _ => rfl) (vp_in_nI (by omega) (by decide)) (show _ = F from by rw [nI_clamp (show p < 2 ^ 31 by omega)]; show st_F (st_F F 5 (upd (F 5) p x)) 5 (upd (st_F F 5 (upd (F 5) p x) 5) p (F 5 p)) = _; rw [st_Fs, st_FF, upd_upd, upd_self, st_F0]) ?_
      refine aw_iload_n dX9_hastes_68 rfl rfl ?_
      refine aw_iret dX9_hastes_69 (Nat.zero_le _) (Nat.zero_le _) ?_
      refine ⟨rfl, ?_, rfl⟩
      rw [hb]
    · have hi6 := le_9 (N := 9) (by omega) c_26
      refine aw_aload_n dX9_hastes_29 rfl rfl ?_
      refine aw_get fd_X9_22_9 dX9_hastes_30 (by decide) rfl rfl ?_
      refine aw_iload_n dX9_hastes_33 rfl rfl ?_
      refine aw_iload dX9_hastes_34 rfl ?_
      refine aw_iastI dX9_hastes_36 (by decide) rfl (fun _ => rfl) (vp_in_nI (by omega) (by decide)) (show _ = st_F F 5 (upd (F 5) p (nI i)) from by rw [nI_clamp (show p < 2 ^ 31 by omega)]; show st_F (st_F F 5 (upd (F 5) p x)) 5 (upd (st_F F 5 (upd (F 5) p x) 5) p (nI i)) = _; rw [st_Fs, st_FF, upd_upd]) ?_
      refine aw_iload_n dX9_hastes_37 rfl rfl ?_
      refine aw_aload_n dX9_hastes_38 rfl rfl ?_
      refine aw_callV cw_X9_areSo ml_X9_180 im_X9_areSo sl_X9_X9_areSo rfl (by decide) rfl (c_X9_areSo I (st_F F 5 (upd (F 5) p (nI i))) hr hI24 hw) ⟨Nat.le_of_ble_eq_true rfl, Nat.le_of_ble_eq_true rfl⟩ ⟨Nat.zero_le _, Nat.zero_le _⟩ rfl rfl (Nat.le_of_ble_eq_true rfl) dX9_hastes_39 ?_
      rintro _ _ ⟨rfl, rfl⟩
      rw [show rdAll (myM I (st_F F 5 (upd (F 5) p (nI i)))) (st_F F 5 (upd (F 5) p (nI i)) 12) (st_F F 5 (upd (F 5) p (nI i)) 13) (st_F F 5 (upd (F 5) p (nI i)) 14) r = (fun v => rdAll (myM I (st_F F 5 (upd (F 5) p (nI v)))) (F 12) (F 13) (F 14) r) i from rfl]
      refine aw_ifB_eq (tgt := 52) dX9_hastes_42 (by decide) (fun c_42 => ?_) (fun c_42 => ?_)
      · refine aw_iconst (v := 0) dX9_hastes_52 (by decide) ?_
        refine aw_ior dX9_hastes_53 ?_
        refine aw_istore_n dX9_hastes_54 rfl (by decide) rfl ?_
        refine aw_iinc (v := 1) dX9_hastes_55 rfl (by decide) (by decide) rfl ?_
        refine aw_goto (tgt := 22) dX9_hastes_58 (by decide) ?_
        rw [nI_1]
        exact ih (m - 1) (by omega) (i + 1) _ _ (by omega) (by rw [bsN, hb]; simp [sBit, *])
      · refine aw_iconst (v := 1) dX9_hastes_45 (by decide) ?_
        refine aw_iload dX9_hastes_46 rfl ?_
        refine aw_ishl dX9_hastes_48 ?_
        refine aw_goto (tgt := 53) dX9_hastes_49 (by decide) ?_
        refine aw_ior dX9_hastes_53 ?_
        refine aw_istore_n dX9_hastes_54 rfl (by decide) rfl ?_
        refine aw_iinc (v := 1) dX9_hastes_55 rfl (by decide) (by decide) rfl ?_
        refine aw_goto (tgt := 22) dX9_hastes_58 (by decide) ?_
        rw [nI_1]
        exact ih (m - 1) (by omega) (i + 1) _ _ (by omega) (by rw [bsN, hb]; simp [sBit, *])
set_option maxRecDepth 100000 in
set_option maxHeartbeats 4000000 in
theorem c_X9_hastes {l : Launch} {D : va_G} {tc : Nat → ClassId} (I F : Nat → Nat → Int32) {c : Nat} (hc : c ≤ 6) (hI5 : I 0 5 = nI c) {p : Nat} (hp : p < c) {r : Nat} (hr : r ≤ 8) (hI24 : I 0 24 = nI r) (hw : ∀ k, k < r → vp_in (F 12 k) 6) : AM l D tc yX9_hastes cX9_hastes 5 (some .int) 3 65 0 0 [.ref 0, .int (nI p)] 15 (hM I F) (fun v n1 h1 => n1 = 15 ∧ (v = some (.int (bsN (fun v => rdAll (myM I (st_F F 5 (upd (F 5) p (nI v)))) (F 12) (F 13) (F 14) r) 10)) ∧ h1 = (hM I F))) := by
  refine am_of (L := [some (.ref 0), some (.int (nI p)), none, none, none]) (by decide +kernel) (Nat.le_of_ble_eq_true rfl) rfl ?_
  refine aw_aload_n dX9_hastes_0 rfl rfl ?_
  refine aw_iload_n dX9_hastes_1 rfl rfl ?_
  refine aw_callV cw_X9_isPerson ml_X9_120 im_X9_isPerson sl_X9_X9_isPerson rfl (by decide) rfl (c_X9_isPerson _ _ hc hI5 _) ⟨Nat.le_of_ble_eq_true rfl, Nat.le_of_ble_eq_true rfl⟩ ⟨Nat.zero_le _, Nat.zero_le _⟩ rfl rfl (Nat.le_of_ble_eq_true rfl) dX9_hastes_2 ?_
  rintro _ _ ⟨rfl, rfl⟩
  rw [show b2i (sP c (nI p)) = 1 from by rw [sP_nI hc hp]; rfl]
  refine aw_if_ne (tgt := 10) dX9_hastes_5 (by decide) (fun _ => ?_) (fun c9 => absurd c9 (by decide))
  refine aw_aload_n dX9_hastes_10 rfl rfl ?_
  refine aw_get fd_X9_22_9 dX9_hastes_11 (by decide) rfl rfl ?_
  refine aw_iload_n dX9_hastes_14 rfl rfl ?_
  refine aw_iald dX9_hastes_15 (by decide) rfl (vp_in_nI (by omega) (by decide)) ?_
  rw [nI_clamp (show p < 2 ^ 31 by omega)]
  refine aw_istore_n dX9_hastes_16 rfl (by decide) rfl ?_
  refine aw_iconst (v := 0) dX9_hastes_17 (by decide) ?_
  refine aw_istore_n dX9_hastes_18 rfl (by decide) rfl ?_
  refine aw_iconst (v := 0) dX9_hastes_19 (by decide) ?_
  refine aw_istore dX9_hastes_20 (by decide) rfl ?_
  have hl := lp_X9_hastes (l := l) (D := D) (tc := tc) I F hc hI5 hp hr hI24 hw 10 0 (F 5 p) 0 (by omega) rfl
  rw [upd_self, st_F0] at hl
  exact hl
set_option maxRecDepth 100000 in
set_option maxHeartbeats 4000000 in
theorem c_X9_rooms_no {l : Launch} {D : va_G} {tc : Nat → ClassId} (I F : Nat → Nat → Int32) {c : Nat} (hc : c ≤ 6) (hI5 : I 0 5 = nI c) {x : Int32} (hx : sP c x = false) : AM l D tc yX9_rooms cX9_rooms 5 (some .int) 3 65 0 0 [.ref 0, .int x] 15 (hM I F) (fun v n1 h1 => n1 = 15 ∧ (v = some (.int (-1)) ∧ h1 = hM I F)) := by
  refine am_of (L := [some (.ref 0), some (.int x), none, none, none]) (by decide +kernel) (Nat.le_of_ble_eq_true rfl) rfl ?_
  refine aw_aload_n dX9_rooms_0 rfl rfl ?_
  refine aw_iload_n dX9_rooms_1 rfl rfl ?_
  refine aw_callV cw_X9_isPerson ml_X9_120 im_X9_isPerson sl_X9_X9_isPerson rfl (by decide) rfl (c_X9_isPerson _ _ hc hI5 _) ⟨Nat.le_of_ble_eq_true rfl, Nat.le_of_ble_eq_true rfl⟩ ⟨Nat.zero_le _, Nat.zero_le _⟩ rfl rfl (Nat.le_of_ble_eq_true rfl) dX9_rooms_2 ?_
  rintro _ _ ⟨rfl, rfl⟩
  rw [show b2i (sP c x) = 0 from by rw [hx]; rfl]
  refine aw_if_ne (tgt := 10) dX9_rooms_5 (by decide) (fun c9 => absurd rfl c9) (fun _ => ?_)
  refine aw_iconst (v := (-1)) dX9_rooms_8 (by decide) ?_
  refine aw_iret dX9_rooms_9 (Nat.zero_le _) (Nat.zero_le _) ?_
  exact ⟨rfl, rfl, rfl⟩
set_option maxRecDepth 100000 in
set_option maxHeartbeats 4000000 in
theorem lp_X9_rooms {l : Launch} {D : va_G} {tc : Nat → ClassId} (I F : Nat → Nat → Int32) {c : Nat} (hc : c ≤ 6) (hI5 : I 0 5 = nI c) {p : Nat} (hp : p < c) {r : Nat} (hr : r ≤ 8) (hI24 : I 0 24 = nI r) (hw : ∀ k, k < r → vp_in (F 12 k) 6) : ∀ (m i : Nat) (x b : Int32), i + m = 10 → bsN (fun v => rdAll (myM I (st_F F 6 (upd (F 6) p (nI v)))) (F 12) (F 13) (F 14) r) i = b → AW l D tc yX9_rooms.cls cX9_rooms 5 (some .int) { frames := 3, cells := 0, slots := 0, locals := 65 } 15 0 0 (fun v n1 h1 => n1 = 15 ∧ (v = some (.int (bsN (fun v => rdAll (myM I (st_F F 6 (upd (F 6) p (nI v)))) (F 12) (F 13) (F 14) r) 10)) ∧ h1 = (hM I F))) 22 [some (.ref 0), some (.int (nI p)), some (.int (F 6 p)), some (.int b), some (.int (nI i))] [] 15 (hM I (st_F F 6 (upd (F 6) p x))) 0 0 := by
  intro m
  induction m using Nat.strongRecOn with
  | _ m ih =>
    intro i x b hi hb
    refine aw_iload dX9_rooms_22 rfl ?_
    refine aw_bipush (v := (9)) dX9_rooms_24 (by decide) ?_
    refine aw_icmp_gt (tgt := 61) dX9_rooms_26 (by decide) (fun c_26 => ?_) (fun c_26 => ?_)
    · have hi6 := gt_9 (N := 9) (by decide) (by omega) c_26
      subst hi6
      refine aw_aload_n dX9_rooms_61 rfl rfl ?_
      refine aw_get fd_X9_25_9 dX9_rooms_62 (by decide) rfl rfl ?_
      refine aw_iload_n dX9_rooms_65 rfl rfl ?_
      refine aw_iload_n dX9_rooms_66 rfl rfl ?_
      refine aw_iastI dX9_rooms_67 (by decide) rfl (fun _ => rfl) (vp_in_nI (by omega) (by decide)) (show _ = F from by rw [nI_clamp (show p < 2 ^ 31 by omega)]; show st_F (st_F F 6 (upd (F 6) p x)) 6 (upd (st_F F 6 (upd (F 6) p x) 6) p (F 6 p)) = _; rw [st_Fs, st_FF, upd_upd, upd_self, st_F0]) ?_
      refine aw_iload_n dX9_rooms_68 rfl rfl ?_
      refine aw_iret dX9_rooms_69 (Nat.zero_le _) (Nat.zero_le _) ?_
      refine ⟨rfl, ?_, rfl⟩
      rw [hb]
    · have hi6 := le_9 (N := 9) (by omega) c_26
      refine aw_aload_n dX9_rooms_29 rfl rfl ?_
      refine aw_get fd_X9_25_9 dX9_rooms_30 (by decide) rfl rfl ?_
      refine aw_iload_n dX9_rooms_33 rfl rfl ?_
      refine aw_iload dX9_rooms_34 rfl ?_
      refine aw_iastI dX9_rooms_36 (by decide) rfl (fun _ => rfl) (vp_in_nI (by omega) (by decide)) (show _ = st_F F 6 (upd (F 6) p (nI i)) from by rw [nI_clamp (show p < 2 ^ 31 by omega)]; show st_F (st_F F 6 (upd (F 6) p x)) 6 (upd (st_F F 6 (upd (F 6) p x) 6) p (nI i)) = _; rw [st_Fs, st_FF, upd_upd]) ?_
      refine aw_iload_n dX9_rooms_37 rfl rfl ?_
      refine aw_aload_n dX9_rooms_38 rfl rfl ?_
      refine aw_callV cw_X9_areSo ml_X9_180 im_X9_areSo sl_X9_X9_areSo rfl (by decide) rfl (c_X9_areSo I (st_F F 6 (upd (F 6) p (nI i))) hr hI24 hw) ⟨Nat.le_of_ble_eq_true rfl, Nat.le_of_ble_eq_true rfl⟩ ⟨Nat.zero_le _, Nat.zero_le _⟩ rfl rfl (Nat.le_of_ble_eq_true rfl) dX9_rooms_39 ?_
      rintro _ _ ⟨rfl, rfl⟩
      rw [show rdAll (myM I (st_F F 6 (upd (F 6) p (nI i)))) (st_F F 6 (upd (F 6) p (nI i)) 12) (st_F F 6 (upd (F 6) p (nI i)) 13) (st_F F 6 (upd (F 6) p (nI i)) 14) r = (fun v => rdAll (myM I (st_F F 6 (upd (F 6) p (nI v)))) (F 12) (F 13) (F 14) r) i from rfl]
      refine aw_ifB_eq (tgt := 52) dX9_rooms_42 (by decide) (fun c_42 => ?_) (fun c_42 => ?_)
      · refine aw_iconst (v := 0) dX9_rooms_52 (by decide) ?_
        refine aw_ior dX9_rooms_53 ?_
        refine aw_istore_n dX9_rooms_54 rfl (by decide) rfl ?_
        refine aw_iinc (v := 1) dX9_rooms_55 rfl (by decide) (by decide) rfl ?_
        refine aw_goto (tgt := 22) dX9_rooms_58 (by decide) ?_
        rw [nI_1]
        exact ih (m - 1) (by omega) (i + 1) _ _ (by omega) (by rw [bsN, hb]; simp [sBit, *])
      · refine aw_iconst (v := 1) dX9_rooms_45 (by decide) ?_
        refine aw_iload dX9_rooms_46 rfl ?_
        refine aw_ishl dX9_rooms_48 ?_
        refine aw_goto (tgt := 53) dX9_rooms_49 (by decide) ?_
        refine aw_ior dX9_rooms_53 ?_
        refine aw_istore_n dX9_rooms_54 rfl (by decide) rfl ?_
        refine aw_iinc (v := 1) dX9_rooms_55 rfl (by decide) (by decide) rfl ?_
        refine aw_goto (tgt := 22) dX9_rooms_58 (by decide) ?_
        rw [nI_1]
        exact ih (m - 1) (by omega) (i + 1) _ _ (by omega) (by rw [bsN, hb]; simp [sBit, *])
set_option maxRecDepth 100000 in
set_option maxHeartbeats 4000000 in
theorem c_X9_rooms {l : Launch} {D : va_G} {tc : Nat → ClassId} (I F : Nat → Nat → Int32) {c : Nat} (hc : c ≤ 6) (hI5 : I 0 5 = nI c) {p : Nat} (hp : p < c) {r : Nat} (hr : r ≤ 8) (hI24 : I 0 24 = nI r) (hw : ∀ k, k < r → vp_in (F 12 k) 6) : AM l D tc yX9_rooms cX9_rooms 5 (some .int) 3 65 0 0 [.ref 0, .int (nI p)] 15 (hM I F) (fun v n1 h1 => n1 = 15 ∧ (v = some (.int (bsN (fun v => rdAll (myM I (st_F F 6 (upd (F 6) p (nI v)))) (F 12) (F 13) (F 14) r) 10)) ∧ h1 = (hM I F))) := by
  refine am_of (L := [some (.ref 0), some (.int (nI p)), none, none, none]) (by decide +kernel) (Nat.le_of_ble_eq_true rfl) rfl ?_
  refine aw_aload_n dX9_rooms_0 rfl rfl ?_
  refine aw_iload_n dX9_rooms_1 rfl rfl ?_
  refine aw_callV cw_X9_isPerson ml_X9_120 im_X9_isPerson sl_X9_X9_isPerson rfl (by decide) rfl (c_X9_isPerson _ _ hc hI5 _) ⟨Nat.le_of_ble_eq_true rfl, Nat.le_of_ble_eq_true rfl⟩ ⟨Nat.zero_le _, Nat.zero_le _⟩ rfl rfl (Nat.le_of_ble_eq_true rfl) dX9_rooms_2 ?_
  rintro _ _ ⟨rfl, rfl⟩
  rw [show b2i (sP c (nI p)) = 1 from by rw [sP_nI hc hp]; rfl]
  refine aw_if_ne (tgt := 10) dX9_rooms_5 (by decide) (fun _ => ?_) (fun c9 => absurd c9 (by decide))
  refine aw_aload_n dX9_rooms_10 rfl rfl ?_
  refine aw_get fd_X9_25_9 dX9_rooms_11 (by decide) rfl rfl ?_
  refine aw_iload_n dX9_rooms_14 rfl rfl ?_
  refine aw_iald dX9_rooms_15 (by decide) rfl (vp_in_nI (by omega) (by decide)) ?_
  rw [nI_clamp (show p < 2 ^ 31 by omega)]
  refine aw_istore_n dX9_rooms_16 rfl (by decide) rfl ?_
  refine aw_iconst (v := 0) dX9_rooms_17 (by decide) ?_
  refine aw_istore_n dX9_rooms_18 rfl (by decide) rfl ?_
  refine aw_iconst (v := 0) dX9_rooms_19 (by decide) ?_
  refine aw_istore dX9_rooms_20 (by decide) rfl ?_
  have hl := lp_X9_rooms (l := l) (D := D) (tc := tc) I F hc hI5 hp hr hI24 hw 10 0 (F 6 p) 0 (by omega) rfl
  rw [upd_self, st_F0] at hl
  exact hl
set_option maxRecDepth 100000 in
set_option maxHeartbeats 4000000 in
theorem c_X9_kinds_no {l : Launch} {D : va_G} {tc : Nat → ClassId} (I F : Nat → Nat → Int32) {c : Nat} (hc : c ≤ 6) (hI5 : I 0 5 = nI c) {x : Int32} (hx : sP c x = false) : AM l D tc yX9_kinds cX9_kinds 5 (some .int) 3 65 0 0 [.ref 0, .int x] 15 (hM I F) (fun v n1 h1 => n1 = 15 ∧ (v = some (.int (-1)) ∧ h1 = hM I F)) := by
  refine am_of (L := [some (.ref 0), some (.int x), none, none, none]) (by decide +kernel) (Nat.le_of_ble_eq_true rfl) rfl ?_
  refine aw_aload_n dX9_kinds_0 rfl rfl ?_
  refine aw_iload_n dX9_kinds_1 rfl rfl ?_
  refine aw_callV cw_X9_isPerson ml_X9_120 im_X9_isPerson sl_X9_X9_isPerson rfl (by decide) rfl (c_X9_isPerson _ _ hc hI5 _) ⟨Nat.le_of_ble_eq_true rfl, Nat.le_of_ble_eq_true rfl⟩ ⟨Nat.zero_le _, Nat.zero_le _⟩ rfl rfl (Nat.le_of_ble_eq_true rfl) dX9_kinds_2 ?_
  rintro _ _ ⟨rfl, rfl⟩
  rw [show b2i (sP c x) = 0 from by rw [hx]; rfl]
  refine aw_if_ne (tgt := 10) dX9_kinds_5 (by decide) (fun c9 => absurd rfl c9) (fun _ => ?_)
  refine aw_iconst (v := (-1)) dX9_kinds_8 (by decide) ?_
  refine aw_iret dX9_kinds_9 (Nat.zero_le _) (Nat.zero_le _) ?_
  exact ⟨rfl, rfl, rfl⟩
set_option maxRecDepth 100000 in
set_option maxHeartbeats 4000000 in
theorem lp_X9_kinds {l : Launch} {D : va_G} {tc : Nat → ClassId} (I F : Nat → Nat → Int32) {c : Nat} (hc : c ≤ 6) (hI5 : I 0 5 = nI c) {p : Nat} (hp : p < c) {r : Nat} (hr : r ≤ 8) (hI24 : I 0 24 = nI r) (hw : ∀ k, k < r → vp_in (F 12 k) 6) : ∀ (m i : Nat) (x b : Int32), i + m = 3 → bsN (fun v => rdAll (myM I (st_F F 4 (upd (F 4) p (nI v)))) (F 12) (F 13) (F 14) r) i = b → AW l D tc yX9_kinds.cls cX9_kinds 5 (some .int) { frames := 3, cells := 0, slots := 0, locals := 65 } 15 0 0 (fun v n1 h1 => n1 = 15 ∧ (v = some (.int (bsN (fun v => rdAll (myM I (st_F F 4 (upd (F 4) p (nI v)))) (F 12) (F 13) (F 14) r) 3)) ∧ h1 = (hM I F))) 22 [some (.ref 0), some (.int (nI p)), some (.int (F 4 p)), some (.int b), some (.int (nI i))] [] 15 (hM I (st_F F 4 (upd (F 4) p x))) 0 0 := by
  intro m
  induction m using Nat.strongRecOn with
  | _ m ih =>
    intro i x b hi hb
    refine aw_iload dX9_kinds_22 rfl ?_
    refine aw_iconst (v := 3) dX9_kinds_24 (by decide) ?_
    refine aw_icmp_ge (tgt := 60) dX9_kinds_25 (by decide) (fun c_25 => ?_) (fun c_25 => ?_)
    · have hi6 := lp_ge (N := 3) (by decide) (by omega) c_25
      subst hi6
      refine aw_aload_n dX9_kinds_60 rfl rfl ?_
      refine aw_get fd_X9_19_9 dX9_kinds_61 (by decide) rfl rfl ?_
      refine aw_iload_n dX9_kinds_64 rfl rfl ?_
      refine aw_iload_n dX9_kinds_65 rfl rfl ?_
      refine aw_iastI dX9_kinds_66 (by decide) rfl (fun _ => rfl) (vp_in_nI (by omega) (by decide)) (show _ = F from by rw [nI_clamp (show p < 2 ^ 31 by omega)]; show st_F (st_F F 4 (upd (F 4) p x)) 4 (upd (st_F F 4 (upd (F 4) p x) 4) p (F 4 p)) = _; rw [st_Fs, st_FF, upd_upd, upd_self, st_F0]) ?_
      refine aw_iload_n dX9_kinds_67 rfl rfl ?_
      refine aw_iret dX9_kinds_68 (Nat.zero_le _) (Nat.zero_le _) ?_
      refine ⟨rfl, ?_, rfl⟩
      rw [hb]
    · have hi6 := lp_lt (N := 3) (by omega) c_25
      refine aw_aload_n dX9_kinds_28 rfl rfl ?_
      refine aw_get fd_X9_19_9 dX9_kinds_29 (by decide) rfl rfl ?_
      refine aw_iload_n dX9_kinds_32 rfl rfl ?_
      refine aw_iload dX9_kinds_33 rfl ?_
      refine aw_iastI dX9_kinds_35 (by decide) rfl (fun _ => rfl) (vp_in_nI (by omega) (by decide)) (show _ = st_F F 4 (upd (F 4) p (nI i)) from by rw [nI_clamp (show p < 2 ^ 31 by omega)]; show st_F (st_F F 4 (upd (F 4) p x)) 4 (upd (st_F F 4 (upd (F 4) p x) 4) p (nI i)) = _; rw [st_Fs, st_FF, upd_upd]) ?_
      refine aw_iload_n dX9_kinds_36 rfl rfl ?_
      refine aw_aload_n dX9_kinds_37 rfl rfl ?_
      refine aw_callV cw_X9_areSo ml_X9_180 im_X9_areSo sl_X9_X9_areSo rfl (by decide) rfl (c_X9_areSo I (st_F F 4 (upd (F 4) p (nI i))) hr hI24 hw) ⟨Nat.le_of_ble_eq_true rfl, Nat.le_of_ble_eq_true rfl⟩ ⟨Nat.zero_le _, Nat.zero_le _⟩ rfl rfl (Nat.le_of_ble_eq_true rfl) dX9_kinds_38 ?_
      rintro _ _ ⟨rfl, rfl⟩
      rw [show rdAll (myM I (st_F F 4 (upd (F 4) p (nI i)))) (st_F F 4 (upd (F 4) p (nI i)) 12) (st_F F 4 (upd (F 4) p (nI i)) 13) (st_F F 4 (upd (F 4) p (nI i)) 14) r = (fun v => rdAll (myM I (st_F F 4 (upd (F 4) p (nI v)))) (F 12) (F 13) (F 14) r) i from rfl]
      refine aw_ifB_eq (tgt := 51) dX9_kinds_41 (by decide) (fun c_41 => ?_) (fun c_41 => ?_)
      · refine aw_iconst (v := 0) dX9_kinds_51 (by decide) ?_
        refine aw_ior dX9_kinds_52 ?_
        refine aw_istore_n dX9_kinds_53 rfl (by decide) rfl ?_
        refine aw_iinc (v := 1) dX9_kinds_54 rfl (by decide) (by decide) rfl ?_
        refine aw_goto (tgt := 22) dX9_kinds_57 (by decide) ?_
        rw [nI_1]
        exact ih (m - 1) (by omega) (i + 1) _ _ (by omega) (by rw [bsN, hb]; simp [sBit, *])
      · refine aw_iconst (v := 1) dX9_kinds_44 (by decide) ?_
        refine aw_iload dX9_kinds_45 rfl ?_
        refine aw_ishl dX9_kinds_47 ?_
        refine aw_goto (tgt := 52) dX9_kinds_48 (by decide) ?_
        refine aw_ior dX9_kinds_52 ?_
        refine aw_istore_n dX9_kinds_53 rfl (by decide) rfl ?_
        refine aw_iinc (v := 1) dX9_kinds_54 rfl (by decide) (by decide) rfl ?_
        refine aw_goto (tgt := 22) dX9_kinds_57 (by decide) ?_
        rw [nI_1]
        exact ih (m - 1) (by omega) (i + 1) _ _ (by omega) (by rw [bsN, hb]; simp [sBit, *])
set_option maxRecDepth 100000 in
set_option maxHeartbeats 4000000 in
theorem c_X9_kinds {l : Launch} {D : va_G} {tc : Nat → ClassId} (I F : Nat → Nat → Int32) {c : Nat} (hc : c ≤ 6) (hI5 : I 0 5 = nI c) {p : Nat} (hp : p < c) {r : Nat} (hr : r ≤ 8) (hI24 : I 0 24 = nI r) (hw : ∀ k, k < r → vp_in (F 12 k) 6) : AM l D tc yX9_kinds cX9_kinds 5 (some .int) 3 65 0 0 [.ref 0, .int (nI p)] 15 (hM I F) (fun v n1 h1 => n1 = 15 ∧ (v = some (.int (bsN (fun v => rdAll (myM I (st_F F 4 (upd (F 4) p (nI v)))) (F 12) (F 13) (F 14) r) 3)) ∧ h1 = (hM I F))) := by
  refine am_of (L := [some (.ref 0), some (.int (nI p)), none, none, none]) (by decide +kernel) (Nat.le_of_ble_eq_true rfl) rfl ?_
  refine aw_aload_n dX9_kinds_0 rfl rfl ?_
  refine aw_iload_n dX9_kinds_1 rfl rfl ?_
  refine aw_callV cw_X9_isPerson ml_X9_120 im_X9_isPerson sl_X9_X9_isPerson rfl (by decide) rfl (c_X9_isPerson _ _ hc hI5 _) ⟨Nat.le_of_ble_eq_true rfl, Nat.le_of_ble_eq_true rfl⟩ ⟨Nat.zero_le _, Nat.zero_le _⟩ rfl rfl (Nat.le_of_ble_eq_true rfl) dX9_kinds_2 ?_
  rintro _ _ ⟨rfl, rfl⟩
  rw [show b2i (sP c (nI p)) = 1 from by rw [sP_nI hc hp]; rfl]
  refine aw_if_ne (tgt := 10) dX9_kinds_5 (by decide) (fun _ => ?_) (fun c9 => absurd c9 (by decide))
  refine aw_aload_n dX9_kinds_10 rfl rfl ?_
  refine aw_get fd_X9_19_9 dX9_kinds_11 (by decide) rfl rfl ?_
  refine aw_iload_n dX9_kinds_14 rfl rfl ?_
  refine aw_iald dX9_kinds_15 (by decide) rfl (vp_in_nI (by omega) (by decide)) ?_
  rw [nI_clamp (show p < 2 ^ 31 by omega)]
  refine aw_istore_n dX9_kinds_16 rfl (by decide) rfl ?_
  refine aw_iconst (v := 0) dX9_kinds_17 (by decide) ?_
  refine aw_istore_n dX9_kinds_18 rfl (by decide) rfl ?_
  refine aw_iconst (v := 0) dX9_kinds_19 (by decide) ?_
  refine aw_istore dX9_kinds_20 (by decide) rfl ?_
  have hl := lp_X9_kinds (l := l) (D := D) (tc := tc) I F hc hI5 hp hr hI24 hw 3 0 (F 4 p) 0 (by omega) rfl
  rw [upd_self, st_F0] at hl
  exact hl
