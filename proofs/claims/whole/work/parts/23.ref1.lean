theorem of_has {m k : Nat} (hm : m < 2 ^ 31) (hk : k < 31) : sOf2 (nI m) (nI k) = sHas (nI m) (nI k) := by
  unfold sOf2
  rw [of_tb hm hk, has_tb hm hk]
theorem ix6 (p q : Nat) : (6 : Int32) * nI p + nI q = nI (6 * p + q) := by
  rw [show (6 : Int32) = nI 6 from rfl, pk_mul, nI_add]
theorem ix60 (p q : Nat) : (60 : Int32) * nI p + nI q = nI (60 * p + q) := by
  rw [show (60 : Int32) = nI 60 from rfl, pk_mul, nI_add]
theorem ix3 (p : Nat) : (3 : Int32) * nI p = nI (3 * p) := by
  rw [show (3 : Int32) = nI 3 from rfl, pk_mul]
theorem sP4 (x : Int32) : sW x 0 3 = sP 4 x := by
  rcases shtC x with h | ⟨k, hk, rfl⟩
  · rw [h]
    cases q : sW x 0 3
    · rfl
    · obtain ⟨a, ha, rfl⟩ := sW_ex (m := 3) (by decide) q
      rw [sP_nI (c := 4) (by omega) (by omega)] at h
      cases h
  · rw [sP_nI (c := 4) (by omega) hk]
    exact sW_nI (m := 3) (by decide) (by omega)
def sWo (k h : Int32) : Int32 := if k = 0 then h else if k = 1 then 2 * h else h / 2
def sMayM (k h r g : Int32) : Int32 := if r + g ≤ sWo k h then r + g else sWo k h
def myM (I F : Nat → Nat → Int32) : Nat → Int32 := fun p => sMayM (F 4 p) (F 5 p) (F 6 p) (I 0 6)
def sAg (t z a i m : Int32) : Int32 := if t = -9 then 1 else if t = a then (if 0 ≤ m then (if i < 0 then 3 else if z < i then 3 else if m ≤ z - i then 0 else 3) else 4) else 2
def szN : Nat → Nat → Nat
  | 0, _ => 0
  | f + 1, m => m % 2 + szN f (m / 2)
def suN (F : Nat → Nat → Int32) (o : Bool) (p c : Nat) : Int32 := sumN (fun q => if o then F 7 (6 * p + q) else F 7 (6 * q + p)) c

set_option maxRecDepth 100000 in
set_option maxHeartbeats 4000000 in
theorem c_X9_fails {l : Launch} {D : va_G} {tc : Nat → ClassId} (I F : Nat → Nat → Int32) (x : Int32) : AM l D tc yX9_fails cX9_fails 2 (some .int) 0 0 0 0 [.ref 0, .int x] 15 (hM I F) (fun v n1 h1 => n1 = 15 ∧ (v = some (.int ((-10) - x)) ∧ h1 = hM (st_I I 0 0 x) F)) := by
  refine am_of (L := [some (.ref 0), some (.int x)]) (by decide +kernel) (Nat.le_of_ble_eq_true rfl) rfl ?_
  refine aw_aload_n dX9_fails_0 rfl rfl ?_
  refine aw_iload_n dX9_fails_1 rfl rfl ?_
  refine aw_puti fp_X9_52_9 dX9_fails_2 (by decide) rfl rfl rfl (Nat.le_of_ble_eq_true rfl) rfl ?_
  refine aw_bipush (v := (-10)) dX9_fails_5 (by decide) ?_
  refine aw_iload_n dX9_fails_7 rfl rfl ?_
  refine aw_isub dX9_fails_8 ?_
  refine aw_iret dX9_fails_9 (Nat.zero_le _) (Nat.zero_le _) ?_
  exact ⟨rfl, rfl, rfl⟩
set_option maxRecDepth 100000 in
set_option maxHeartbeats 4000000 in
theorem c_X9_lost {l : Launch} {D : va_G} {tc : Nat → ClassId} (I F : Nat → Nat → Int32) (x : Int32) : AM l D tc yX9_lost cX9_lost 2 (some .long) 0 0 0 0 [.ref 0, .int x] 15 (hM I F) (fun v n1 h1 => n1 = 15 ∧ (v = some (.long (-9223372036854775808)) ∧ h1 = hM (st_I I 0 0 x) F)) := by
  refine am_of (L := [some (.ref 0), some (.int x)]) (by decide +kernel) (Nat.le_of_ble_eq_true rfl) rfl ?_
  refine aw_aload_n dX9_lost_0 rfl rfl ?_
  refine aw_iload_n dX9_lost_1 rfl rfl ?_
  refine aw_puti fp_X9_52_9 dX9_lost_2 (by decide) rfl rfl rfl (Nat.le_of_ble_eq_true rfl) rfl ?_
  refine aw_ldc2 dX9_lost_5 ct_X9_56 ?_
  refine aw_lret dX9_lost_8 (Nat.zero_le _) (Nat.zero_le _) ?_
  exact ⟨rfl, rfl, rfl⟩
set_option maxRecDepth 100000 in
set_option maxHeartbeats 4000000 in
theorem c_X9_within {l : Launch} {D : va_G} {tc : Nat → ClassId} (x a b : Int32) (n : Nat) (h : aw_H) : AM l D tc yX9_within cX9_within 3 (some .boolean) 0 0 0 0 [.int x, .int a, .int b] n h (fun v n1 h1 => n1 = n ∧ (v = some (.int (b2i (sW x a b))) ∧ h1 = h)) := by
  refine am_of (L := [some (.int x), some (.int a), some (.int b)]) (by decide +kernel) (Nat.le_of_ble_eq_true rfl) rfl ?_
  refine aw_iload_n dX9_within_0 rfl rfl ?_
  refine aw_iload_n dX9_within_1 rfl rfl ?_
  refine aw_icmp_lt (tgt := 14) dX9_within_2 (by decide) (fun c_2 => ?_) (fun c_2 => ?_)
  · refine aw_iconst (v := 0) dX9_within_14 (by decide) ?_
    refine aw_zret dX9_within_15 (by first | rfl | exact aw_nb _) (Nat.zero_le _) (Nat.zero_le _) ?_
    refine ⟨rfl, ?_, rfl⟩
    simp [b2i, sW, *]
  · refine aw_iload_n dX9_within_5 rfl rfl ?_
    refine aw_iload_n dX9_within_6 rfl rfl ?_
    refine aw_icmp_gt (tgt := 14) dX9_within_7 (by decide) (fun c_7 => ?_) (fun c_7 => ?_)
    · refine aw_iconst (v := 0) dX9_within_14 (by decide) ?_
      refine aw_zret dX9_within_15 (by first | rfl | exact aw_nb _) (Nat.zero_le _) (Nat.zero_le _) ?_
      refine ⟨rfl, ?_, rfl⟩
      simp [b2i, sW, *]
    · refine aw_iconst (v := 1) dX9_within_10 (by decide) ?_
      refine aw_goto (tgt := 15) dX9_within_11 (by decide) ?_
      refine aw_zret dX9_within_15 (by first | rfl | exact aw_nb _) (Nat.zero_le _) (Nat.zero_le _) ?_
      refine ⟨rfl, ?_, rfl⟩
      simp [b2i, sW, *]
set_option maxRecDepth 100000 in
set_option maxHeartbeats 4000000 in
theorem c_X9_isSheet {l : Launch} {D : va_G} {tc : Nat → ClassId} (x : Int32) (n : Nat) (h : aw_H) : AM l D tc yX9_isSheet cX9_isSheet 1 (some .boolean) 1 22 0 0 [.int x] n h (fun v n1 h1 => n1 = n ∧ (v = some (.int (b2i (sW x 0 3))) ∧ h1 = h)) := by
  refine am_of (L := [some (.int x)]) (by decide +kernel) (Nat.le_of_ble_eq_true rfl) rfl ?_
  refine aw_iload_n dX9_isSheet_0 rfl rfl ?_
  refine aw_iconst (v := 0) dX9_isSheet_1 (by decide) ?_
  refine aw_iconst (v := 3) dX9_isSheet_2 (by decide) ?_
  refine aw_callS cw_X9_within ml_X9_58 sm_X9_within (c_X9_within _ _ _ _ _) ⟨Nat.le_of_ble_eq_true rfl, Nat.le_of_ble_eq_true rfl⟩ ⟨Nat.zero_le _, Nat.zero_le _⟩ rfl rfl (Nat.le_of_ble_eq_true rfl) dX9_isSheet_3 ?_
  rintro _ _ ⟨rfl, rfl⟩
  refine aw_zret dX9_isSheet_6 (by first | rfl | exact aw_nb _) (Nat.zero_le _) (Nat.zero_le _) ?_
  exact ⟨rfl, rfl, rfl⟩
set_option maxRecDepth 100000 in
set_option maxHeartbeats 4000000 in
theorem c_X9_isSort {l : Launch} {D : va_G} {tc : Nat → ClassId} (x : Int32) (n : Nat) (h : aw_H) : AM l D tc yX9_isSort cX9_isSort 1 (some .boolean) 1 22 0 0 [.int x] n h (fun v n1 h1 => n1 = n ∧ (v = some (.int (b2i (sW x 0 2))) ∧ h1 = h)) := by
  refine am_of (L := [some (.int x)]) (by decide +kernel) (Nat.le_of_ble_eq_true rfl) rfl ?_
  refine aw_iload_n dX9_isSort_0 rfl rfl ?_
  refine aw_iconst (v := 0) dX9_isSort_1 (by decide) ?_
  refine aw_iconst (v := 2) dX9_isSort_2 (by decide) ?_
  refine aw_callS cw_X9_within ml_X9_58 sm_X9_within (c_X9_within _ _ _ _ _) ⟨Nat.le_of_ble_eq_true rfl, Nat.le_of_ble_eq_true rfl⟩ ⟨Nat.zero_le _, Nat.zero_le _⟩ rfl rfl (Nat.le_of_ble_eq_true rfl) dX9_isSort_3 ?_
  rintro _ _ ⟨rfl, rfl⟩
  refine aw_zret dX9_isSort_6 (by first | rfl | exact aw_nb _) (Nat.zero_le _) (Nat.zero_le _) ?_
  exact ⟨rfl, rfl, rfl⟩
set_option maxRecDepth 100000 in
set_option maxHeartbeats 4000000 in
theorem c_X9_isPerson {l : Launch} {D : va_G} {tc : Nat → ClassId} (I F : Nat → Nat → Int32) {c : Nat} (hc : c ≤ 6) (hI5 : I 0 5 = nI c) (x : Int32) : AM l D tc yX9_isPerson cX9_isPerson 2 (some .boolean) 0 0 0 0 [.ref 0, .int x] 15 (hM I F) (fun v n1 h1 => n1 = 15 ∧ (v = some (.int (b2i (sP c x))) ∧ h1 = (hM I F))) := by
  refine am_of (L := [some (.ref 0), some (.int x)]) (by decide +kernel) (Nat.le_of_ble_eq_true rfl) rfl ?_
  refine aw_iload_n dX9_isPerson_0 rfl rfl ?_
  refine aw_if_lt (tgt := 16) dX9_isPerson_1 (by decide) (fun c_1 => ?_) (fun c_1 => ?_)
  · refine aw_iconst (v := 0) dX9_isPerson_16 (by decide) ?_
    refine aw_zret dX9_isPerson_17 (by first | rfl | exact aw_nb _) (Nat.zero_le _) (Nat.zero_le _) ?_
    refine ⟨rfl, ?_, rfl⟩
    unfold sP
    rw [← hI5]
    clear hI5
    simp [b2i, *]
  · refine aw_iload_n dX9_isPerson_4 rfl rfl ?_
    refine aw_aload_n dX9_isPerson_5 rfl rfl ?_
    refine aw_get fd_X9_62_9 dX9_isPerson_6 (by decide) rfl rfl ?_
    refine aw_icmp_ge (tgt := 16) dX9_isPerson_9 (by decide) (fun c_9 => ?_) (fun c_9 => ?_)
    · refine aw_iconst (v := 0) dX9_isPerson_16 (by decide) ?_
      refine aw_zret dX9_isPerson_17 (by first | rfl | exact aw_nb _) (Nat.zero_le _) (Nat.zero_le _) ?_
      refine ⟨rfl, ?_, rfl⟩
      unfold sP
      rw [← hI5]
      clear hI5
      simp [b2i, *]
    · refine aw_iconst (v := 1) dX9_isPerson_12 (by decide) ?_
      refine aw_goto (tgt := 17) dX9_isPerson_13 (by decide) ?_
      refine aw_zret dX9_isPerson_17 (by first | rfl | exact aw_nb _) (Nat.zero_le _) (Nat.zero_le _) ?_
      refine ⟨rfl, ?_, rfl⟩
      unfold sP
      rw [← hI5]
      clear hI5
      simp [b2i, *]
set_option maxRecDepth 100000 in
set_option maxHeartbeats 4000000 in
theorem c_X9_isOf {l : Launch} {D : va_G} {tc : Nat → ClassId} (x y : Int32) (n : Nat) (h : aw_H) : AM l D tc yX9_isOf cX9_isOf 2 (some .boolean) 0 0 0 0 [.int x, .int y] n h (fun v n1 h1 => n1 = n ∧ (v = some (.int (b2i (sOf2 x y))) ∧ h1 = h)) := by
  refine am_of (L := [some (.int x), some (.int y)]) (by decide +kernel) (Nat.le_of_ble_eq_true rfl) rfl ?_
  refine aw_iload_n dX9_isOf_0 rfl rfl ?_
  refine aw_iload_n dX9_isOf_1 rfl rfl ?_
  refine aw_ishr dX9_isOf_2 ?_
  refine aw_iconst (v := 1) dX9_isOf_3 (by decide) ?_
  refine aw_iand dX9_isOf_4 ?_
  refine aw_iconst (v := 1) dX9_isOf_5 (by decide) ?_
  refine aw_icmp_ne (tgt := 13) dX9_isOf_6 (by decide) (fun c_6 => ?_) (fun c_6 => ?_)
  · refine aw_iconst (v := 0) dX9_isOf_13 (by decide) ?_
    refine aw_zret dX9_isOf_14 (by first | rfl | exact aw_nb _) (Nat.zero_le _) (Nat.zero_le _) ?_
    refine ⟨rfl, ?_, rfl⟩
    simp [b2i, sOf2, *]
  · refine aw_iconst (v := 1) dX9_isOf_9 (by decide) ?_
    refine aw_goto (tgt := 14) dX9_isOf_10 (by decide) ?_
    refine aw_zret dX9_isOf_14 (by first | rfl | exact aw_nb _) (Nat.zero_le _) (Nat.zero_le _) ?_
    refine ⟨rfl, ?_, rfl⟩
    simp [b2i, sOf2, *]
set_option maxRecDepth 100000 in
set_option maxHeartbeats 4000000 in
theorem lp_X9_size {l : Launch} {D : va_G} {tc : Nat → ClassId} (x : Int32) (n : Nat) (h : aw_H) : ∀ (f m a : Nat), m < 2 ^ f → m < 2 ^ 31 → AW l D tc yX9_size.cls cX9_size 3 (some .int) { frames := 0, cells := 0, slots := 0, locals := 0 } n 0 0 (fun v n1 h1 => n1 = n ∧ (v = some (.int (nI (a + szN f m))) ∧ h1 = h)) 4 [some (.int x), some (.int (nI a)), some (.int (nI m))] [] n h 0 0 := by
  intro f
  induction f using Nat.strongRecOn with
  | _ f ih =>
    intro m a hm hm31
    refine aw_iload_n dX9_size_4 rfl rfl ?_
    refine aw_if_le (tgt := 21) dX9_size_5 (by decide) (fun c_5 => ?_) (fun c_5 => ?_)
    · refine aw_iload_n dX9_size_21 rfl rfl ?_
      refine aw_iret dX9_size_22 (Nat.zero_le _) (Nat.zero_le _) ?_
      have hm0 : m = 0 := by
        rcases Nat.eq_zero_or_pos m with q | q
        · exact q
        · exact absurd c_5 (nI_nle q (by omega))
      subst hm0
      have : ∀ f, szN f 0 = 0 := fun f => by
        induction f with
        | zero => rfl
        | succ f ih => rw [szN, Nat.zero_div, ih]
      rw [this]
      exact ⟨rfl, rfl, rfl⟩
    · have hm0 : 0 < m := by
        rcases Nat.eq_zero_or_pos m with q | q
        · subst q; exact absurd (show nI 0 ≤ 0 by decide) c_5
        · exact q
      obtain ⟨f, rfl⟩ : ∃ f2, f = f2 + 1 := by
        cases f with
        | zero => omega
        | succ f2 => exact ⟨f2, rfl⟩
      refine aw_iload_n dX9_size_8 rfl rfl ?_
      refine aw_iload_n dX9_size_9 rfl rfl ?_
      refine aw_iconst (v := 1) dX9_size_10 (by decide) ?_
      refine aw_iand dX9_size_11 ?_
      refine aw_iadd dX9_size_12 ?_
      refine aw_istore_n dX9_size_13 rfl (by decide) rfl ?_
      refine aw_iload_n dX9_size_14 rfl rfl ?_
      refine aw_iconst (v := 1) dX9_size_15 (by decide) ?_
      refine aw_ishr dX9_size_16 ?_
      refine aw_istore_n dX9_size_17 rfl (by decide) rfl ?_
      refine aw_goto (tgt := 4) dX9_size_18 (by decide) ?_
      have e1 : nI m &&& 1 = nI (m % 2) := by
        have := pk_andN (n := m) (by omega) (m := 1) 1 (by decide)
        rw [this]
      have e2 : nI m >>> (1 &&& 31) = nI (m / 2) := by
        have := pk_shrN (n := m) (by omega) (1 &&& 31) 1 (by decide)
        rw [this]
      rw [e1, e2, nI_add]
      have hp2 : 2 ^ (f + 1) = 2 * 2 ^ f := by rw [Nat.pow_succ]; omega
      have := ih f (by omega) (m / 2) (a + m % 2) (by omega) (by omega)
      rw [show a + m % 2 + szN f (m / 2) = a + szN (f + 1) m from by rw [szN]; omega] at this
      exact this
set_option maxRecDepth 100000 in
set_option maxHeartbeats 4000000 in
theorem c_X9_size {l : Launch} {D : va_G} {tc : Nat → ClassId} {m : Nat} (hm : m < 64) (n : Nat) (h : aw_H) : AM l D tc yX9_size cX9_size 3 (some .int) 0 0 0 0 [.int (nI m)] n h (fun v n1 h1 => n1 = n ∧ (v = some (.int (nI (szN 6 m))) ∧ h1 = h)) := by
  refine am_of (L := [some (.int (nI m)), none, none]) (by decide +kernel) (Nat.le_of_ble_eq_true rfl) rfl ?_
  refine aw_iconst (v := 0) dX9_size_0 (by decide) ?_
  refine aw_istore_n dX9_size_1 rfl (by decide) rfl ?_
  refine aw_iload_n dX9_size_2 rfl rfl ?_
  refine aw_istore_n dX9_size_3 rfl (by decide) rfl ?_
  have hl := lp_X9_size (l := l) (D := D) (tc := tc) (nI m) n h 6 m 0 (by omega) (by omega)
  rw [Nat.zero_add] at hl
  exact hl
set_option maxRecDepth 100000 in
set_option maxHeartbeats 4000000 in
theorem c_X9_against {l : Launch} {D : va_G} {tc : Nat → ClassId} (I F : Nat → Nat → Int32) {k : Nat} (hk : k < 4) (a i m : Int32) : AM l D tc yX9_against cX9_against 5 (some .int) 0 0 0 0 [.ref 0, .int (nI k), .int a, .int i, .int m] 15 (hM I F) (fun v n1 h1 => n1 = 15 ∧ (v = some (.int (sAg (F 1 k) (F 2 k) a i m)) ∧ h1 = (hM I F))) := by
  refine am_of (L := [some (.ref 0), some (.int (nI k)), some (.int a), some (.int i), some (.int m)]) (by decide +kernel) (Nat.le_of_ble_eq_true rfl) rfl ?_
  refine aw_aload_n dX9_against_0 rfl rfl ?_
  refine aw_get fd_X9_9_9 dX9_against_1 (by decide) rfl rfl ?_
  refine aw_iload_n dX9_against_4 rfl rfl ?_
  refine aw_iald dX9_against_5 (by decide) rfl (vp_in_nI hk (by decide)) ?_
  refine aw_bipush (v := (-9)) dX9_against_6 (by decide) ?_
  refine aw_icmp_eq (tgt := 23) dX9_against_8 (by decide) (fun c_8 => ?_) (fun c_8 => ?_)
  · refine aw_aload_n dX9_against_23 rfl rfl ?_
    refine aw_get fd_X9_9_9 dX9_against_24 (by decide) rfl rfl ?_
    refine aw_iload_n dX9_against_27 rfl rfl ?_
    refine aw_iald dX9_against_28 (by decide) rfl (vp_in_nI hk (by decide)) ?_
    refine aw_bipush (v := (-9)) dX9_against_29 (by decide) ?_
    refine aw_icmp_ne (tgt := 36) dX9_against_31 (by decide) (fun c_31 => ?_) (fun c_31 => ?_)
    · refine aw_iload dX9_against_36 rfl ?_
      refine aw_if_ge (tgt := 43) dX9_against_38 (by decide) (fun c_38 => ?_) (fun c_38 => ?_)
      · refine aw_iload_n dX9_against_43 rfl rfl ?_
        refine aw_if_lt (tgt := 70) dX9_against_44 (by decide) (fun c_44 => ?_) (fun c_44 => ?_)
        · refine aw_iconst (v := 3) dX9_against_70 (by decide) ?_
          refine aw_goto (tgt := 75) dX9_against_71 (by decide) ?_
          refine aw_iret dX9_against_75 (Nat.zero_le _) (Nat.zero_le _) ?_
          refine ⟨rfl, ?_, rfl⟩
          rw [nI_clamp (show k < 2 ^ 31 by omega)] at *
          unfold sAg
          repeat' split
          all_goals first | rfl | contradiction
        · refine aw_iload_n dX9_against_47 rfl rfl ?_
          refine aw_aload_n dX9_against_48 rfl rfl ?_
          refine aw_get fd_X9_13_9 dX9_against_49 (by decide) rfl rfl ?_
          refine aw_iload_n dX9_against_52 rfl rfl ?_
          refine aw_iald dX9_against_53 (by decide) rfl (vp_in_nI hk (by decide)) ?_
          refine aw_icmp_gt (tgt := 70) dX9_against_54 (by decide) (fun c_54 => ?_) (fun c_54 => ?_)
          · refine aw_iconst (v := 3) dX9_against_70 (by decide) ?_
            refine aw_goto (tgt := 75) dX9_against_71 (by decide) ?_
            refine aw_iret dX9_against_75 (Nat.zero_le _) (Nat.zero_le _) ?_
            refine ⟨rfl, ?_, rfl⟩
            rw [nI_clamp (show k < 2 ^ 31 by omega)] at *
            unfold sAg
            repeat' split
            all_goals first | rfl | contradiction
          · refine aw_iload dX9_against_57 rfl ?_
            refine aw_aload_n dX9_against_59 rfl rfl ?_
            refine aw_get fd_X9_13_9 dX9_against_60 (by decide) rfl rfl ?_
            refine aw_iload_n dX9_against_63 rfl rfl ?_
            refine aw_iald dX9_against_64 (by decide) rfl (vp_in_nI hk (by decide)) ?_
            refine aw_iload_n dX9_against_65 rfl rfl ?_
            refine aw_isub dX9_against_66 ?_
            refine aw_icmp_le (tgt := 74) dX9_against_67 (by decide) (fun c_67 => ?_) (fun c_67 => ?_)
            · refine aw_iconst (v := 0) dX9_against_74 (by decide) ?_
              refine aw_iret dX9_against_75 (Nat.zero_le _) (Nat.zero_le _) ?_
              refine ⟨rfl, ?_, rfl⟩
              rw [nI_clamp (show k < 2 ^ 31 by omega)] at *
              unfold sAg
              repeat' split
              all_goals first | rfl | contradiction
            · refine aw_iconst (v := 3) dX9_against_70 (by decide) ?_
              refine aw_goto (tgt := 75) dX9_against_71 (by decide) ?_
              refine aw_iret dX9_against_75 (Nat.zero_le _) (Nat.zero_le _) ?_
              refine ⟨rfl, ?_, rfl⟩
              rw [nI_clamp (show k < 2 ^ 31 by omega)] at *
              unfold sAg
              repeat' split
              all_goals first | rfl | contradiction
      · refine aw_iconst (v := 4) dX9_against_41 (by decide) ?_
        refine aw_iret dX9_against_42 (Nat.zero_le _) (Nat.zero_le _) ?_
        refine ⟨rfl, ?_, rfl⟩
        rw [nI_clamp (show k < 2 ^ 31 by omega)] at *
        unfold sAg
        repeat' split
        all_goals first | rfl | contradiction
    · refine aw_iconst (v := 1) dX9_against_34 (by decide) ?_
      refine aw_iret dX9_against_35 (Nat.zero_le _) (Nat.zero_le _) ?_
      refine ⟨rfl, ?_, rfl⟩
      rw [nI_clamp (show k < 2 ^ 31 by omega)] at *
      unfold sAg
      repeat' split
      all_goals first | rfl | contradiction
  · refine aw_aload_n dX9_against_11 rfl rfl ?_
    refine aw_get fd_X9_9_9 dX9_against_12 (by decide) rfl rfl ?_
    refine aw_iload_n dX9_against_15 rfl rfl ?_
    refine aw_iald dX9_against_16 (by decide) rfl (vp_in_nI hk (by decide)) ?_
    refine aw_iload_n dX9_against_17 rfl rfl ?_
    refine aw_icmp_eq (tgt := 23) dX9_against_18 (by decide) (fun c_18 => ?_) (fun c_18 => ?_)
    · refine aw_aload_n dX9_against_23 rfl rfl ?_
      refine aw_get fd_X9_9_9 dX9_against_24 (by decide) rfl rfl ?_
      refine aw_iload_n dX9_against_27 rfl rfl ?_
      refine aw_iald dX9_against_28 (by decide) rfl (vp_in_nI hk (by decide)) ?_
      refine aw_bipush (v := (-9)) dX9_against_29 (by decide) ?_
      refine aw_icmp_ne (tgt := 36) dX9_against_31 (by decide) (fun c_31 => ?_) (fun c_31 => ?_)
      · refine aw_iload dX9_against_36 rfl ?_
        refine aw_if_ge (tgt := 43) dX9_against_38 (by decide) (fun c_38 => ?_) (fun c_38 => ?_)
        · refine aw_iload_n dX9_against_43 rfl rfl ?_
          refine aw_if_lt (tgt := 70) dX9_against_44 (by decide) (fun c_44 => ?_) (fun c_44 => ?_)
          · refine aw_iconst (v := 3) dX9_against_70 (by decide) ?_
            refine aw_goto (tgt := 75) dX9_against_71 (by decide) ?_
            refine aw_iret dX9_against_75 (Nat.zero_le _) (Nat.zero_le _) ?_
            refine ⟨rfl, ?_, rfl⟩
            rw [nI_clamp (show k < 2 ^ 31 by omega)] at *
            unfold sAg
            repeat' split
            all_goals first | rfl | contradiction
          · refine aw_iload_n dX9_against_47 rfl rfl ?_
            refine aw_aload_n dX9_against_48 rfl rfl ?_
            refine aw_get fd_X9_13_9 dX9_against_49 (by decide) rfl rfl ?_
            refine aw_iload_n dX9_against_52 rfl rfl ?_
            refine aw_iald dX9_against_53 (by decide) rfl (vp_in_nI hk (by decide)) ?_
            refine aw_icmp_gt (tgt := 70) dX9_against_54 (by decide) (fun c_54 => ?_) (fun c_54 => ?_)
            · refine aw_iconst (v := 3) dX9_against_70 (by decide) ?_
              refine aw_goto (tgt := 75) dX9_against_71 (by decide) ?_
              refine aw_iret dX9_against_75 (Nat.zero_le _) (Nat.zero_le _) ?_
              refine ⟨rfl, ?_, rfl⟩
              rw [nI_clamp (show k < 2 ^ 31 by omega)] at *
              unfold sAg
              repeat' split
              all_goals first | rfl | contradiction
            · refine aw_iload dX9_against_57 rfl ?_
              refine aw_aload_n dX9_against_59 rfl rfl ?_
              refine aw_get fd_X9_13_9 dX9_against_60 (by decide) rfl rfl ?_
              refine aw_iload_n dX9_against_63 rfl rfl ?_
              refine aw_iald dX9_against_64 (by decide) rfl (vp_in_nI hk (by decide)) ?_
              refine aw_iload_n dX9_against_65 rfl rfl ?_
              refine aw_isub dX9_against_66 ?_
              refine aw_icmp_le (tgt := 74) dX9_against_67 (by decide) (fun c_67 => ?_) (fun c_67 => ?_)
              · refine aw_iconst (v := 0) dX9_against_74 (by decide) ?_
                refine aw_iret dX9_against_75 (Nat.zero_le _) (Nat.zero_le _) ?_
                refine ⟨rfl, ?_, rfl⟩
                rw [nI_clamp (show k < 2 ^ 31 by omega)] at *
                unfold sAg
                repeat' split
                all_goals first | rfl | contradiction
              · refine aw_iconst (v := 3) dX9_against_70 (by decide) ?_
                refine aw_goto (tgt := 75) dX9_against_71 (by decide) ?_
                refine aw_iret dX9_against_75 (Nat.zero_le _) (Nat.zero_le _) ?_
                refine ⟨rfl, ?_, rfl⟩
                rw [nI_clamp (show k < 2 ^ 31 by omega)] at *
                unfold sAg
                repeat' split
                all_goals first | rfl | contradiction
        · refine aw_iconst (v := 4) dX9_against_41 (by decide) ?_
          refine aw_iret dX9_against_42 (Nat.zero_le _) (Nat.zero_le _) ?_
          refine ⟨rfl, ?_, rfl⟩
          rw [nI_clamp (show k < 2 ^ 31 by omega)] at *
          unfold sAg
          repeat' split
          all_goals first | rfl | contradiction
      · refine aw_iconst (v := 1) dX9_against_34 (by decide) ?_
        refine aw_iret dX9_against_35 (Nat.zero_le _) (Nat.zero_le _) ?_
        refine ⟨rfl, ?_, rfl⟩
        rw [nI_clamp (show k < 2 ^ 31 by omega)] at *
        unfold sAg
        repeat' split
        all_goals first | rfl | contradiction
    · refine aw_iconst (v := 2) dX9_against_21 (by decide) ?_
      refine aw_iret dX9_against_22 (Nat.zero_le _) (Nat.zero_le _) ?_
      refine ⟨rfl, ?_, rfl⟩
      rw [nI_clamp (show k < 2 ^ 31 by omega)] at *
      unfold sAg
      repeat' split
      all_goals first | rfl | contradiction
set_option maxRecDepth 100000 in
set_option maxHeartbeats 4000000 in
theorem c_X9_wouldOf {l : Launch} {D : va_G} {tc : Nat → ClassId} (I F : Nat → Nat → Int32) {p : Nat} (hp6 : p < 6) : AM l D tc yX9_wouldOf cX9_wouldOf 2 (some .int) 0 0 0 0 [.ref 0, .int (nI p)] 15 (hM I F) (fun v n1 h1 => n1 = 15 ∧ (v = some (.int (sWo (F 4 p) (F 5 p))) ∧ h1 = (hM I F))) := by
  refine am_of (L := [some (.ref 0), some (.int (nI p))]) (by decide +kernel) (Nat.le_of_ble_eq_true rfl) rfl ?_
  refine aw_aload_n dX9_wouldOf_0 rfl rfl ?_
  refine aw_get fd_X9_19_9 dX9_wouldOf_1 (by decide) rfl rfl ?_
  refine aw_iload_n dX9_wouldOf_4 rfl rfl ?_
  refine aw_iald dX9_wouldOf_5 (by decide) rfl (vp_in_nI hp6 (by decide)) ?_
  refine aw_if_ne (tgt := 18) dX9_wouldOf_6 (by decide) (fun c_6 => ?_) (fun c_6 => ?_)
  · refine aw_aload_n dX9_wouldOf_18 rfl rfl ?_
    refine aw_get fd_X9_19_9 dX9_wouldOf_19 (by decide) rfl rfl ?_
    refine aw_iload_n dX9_wouldOf_22 rfl rfl ?_
    refine aw_iald dX9_wouldOf_23 (by decide) rfl (vp_in_nI hp6 (by decide)) ?_
    refine aw_iconst (v := 1) dX9_wouldOf_24 (by decide) ?_
    refine aw_icmp_ne (tgt := 39) dX9_wouldOf_25 (by decide) (fun c_25 => ?_) (fun c_25 => ?_)
    · refine aw_aload_n dX9_wouldOf_39 rfl rfl ?_
      refine aw_get fd_X9_22_9 dX9_wouldOf_40 (by decide) rfl rfl ?_
      refine aw_iload_n dX9_wouldOf_43 rfl rfl ?_
      refine aw_iald dX9_wouldOf_44 (by decide) rfl (vp_in_nI hp6 (by decide)) ?_
      refine aw_iconst (v := 2) dX9_wouldOf_45 (by decide) ?_
      refine aw_idiv dX9_wouldOf_46 (by decide) ?_
      refine aw_iret dX9_wouldOf_47 (Nat.zero_le _) (Nat.zero_le _) ?_
      refine ⟨rfl, ?_, rfl⟩
      rw [nI_clamp (show p < 2 ^ 31 by omega)] at *
      simp [sWo, *]
    · refine aw_iconst (v := 2) dX9_wouldOf_28 (by decide) ?_
      refine aw_aload_n dX9_wouldOf_29 rfl rfl ?_
      refine aw_get fd_X9_22_9 dX9_wouldOf_30 (by decide) rfl rfl ?_
      refine aw_iload_n dX9_wouldOf_33 rfl rfl ?_
      refine aw_iald dX9_wouldOf_34 (by decide) rfl (vp_in_nI hp6 (by decide)) ?_
      refine aw_imul dX9_wouldOf_35 ?_
      refine aw_goto (tgt := 47) dX9_wouldOf_36 (by decide) ?_
      refine aw_iret dX9_wouldOf_47 (Nat.zero_le _) (Nat.zero_le _) ?_
      refine ⟨rfl, ?_, rfl⟩
      rw [nI_clamp (show p < 2 ^ 31 by omega)] at *
      simp [sWo, *]
  · refine aw_aload_n dX9_wouldOf_9 rfl rfl ?_
    refine aw_get fd_X9_22_9 dX9_wouldOf_10 (by decide) rfl rfl ?_
    refine aw_iload_n dX9_wouldOf_13 rfl rfl ?_
    refine aw_iald dX9_wouldOf_14 (by decide) rfl (vp_in_nI hp6 (by decide)) ?_
    refine aw_goto (tgt := 47) dX9_wouldOf_15 (by decide) ?_
    refine aw_iret dX9_wouldOf_47 (Nat.zero_le _) (Nat.zero_le _) ?_
    refine ⟨rfl, ?_, rfl⟩
    rw [nI_clamp (show p < 2 ^ 31 by omega)] at *
    simp [sWo, *]
set_option maxRecDepth 100000 in
set_option maxHeartbeats 4000000 in
theorem c_X9_mayOf {l : Launch} {D : va_G} {tc : Nat → ClassId} (I F : Nat → Nat → Int32) {p : Nat} (hp6 : p < 6) : AM l D tc yX9_mayOf cX9_mayOf 3 (some .int) 1 21 0 0 [.ref 0, .int (nI p)] 15 (hM I F) (fun v n1 h1 => n1 = 15 ∧ (v = some (.int (myM I F p)) ∧ h1 = (hM I F))) := by
  refine am_of (L := [some (.ref 0), some (.int (nI p)), none]) (by decide +kernel) (Nat.le_of_ble_eq_true rfl) rfl ?_
  refine aw_aload_n dX9_mayOf_0 rfl rfl ?_
  refine aw_get fd_X9_25_9 dX9_mayOf_1 (by decide) rfl rfl ?_
  refine aw_iload_n dX9_mayOf_4 rfl rfl ?_
  refine aw_iald dX9_mayOf_5 (by decide) rfl (vp_in_nI hp6 (by decide)) ?_
  rw [nI_clamp (show p < 2 ^ 31 by omega)]
  refine aw_aload_n dX9_mayOf_6 rfl rfl ?_
  refine aw_get fd_X9_92_9 dX9_mayOf_7 (by decide) rfl rfl ?_
  refine aw_iadd dX9_mayOf_10 ?_
  refine aw_istore_n dX9_mayOf_11 rfl (by decide) rfl ?_
  refine aw_aload_n dX9_mayOf_12 rfl rfl ?_
  refine aw_iload_n dX9_mayOf_13 rfl rfl ?_
  refine aw_callV cw_X9_wouldOf ml_X9_117 im_X9_wouldOf sl_X9_X9_wouldOf rfl (by decide) rfl (c_X9_wouldOf _ _ hp6) ⟨Nat.le_of_ble_eq_true rfl, Nat.le_of_ble_eq_true rfl⟩ ⟨Nat.zero_le _, Nat.zero_le _⟩ rfl rfl (Nat.le_of_ble_eq_true rfl) dX9_mayOf_14 ?_
  rintro _ _ ⟨rfl, rfl⟩
  refine aw_iload_n dX9_mayOf_17 rfl rfl ?_
  refine aw_icmp_ge (tgt := 29) dX9_mayOf_18 (by decide) (fun c_18 => ?_) (fun c_18 => ?_)
  · refine aw_iload_n dX9_mayOf_29 rfl rfl ?_
    refine aw_iret dX9_mayOf_30 (Nat.zero_le _) (Nat.zero_le _) ?_
    refine ⟨rfl, ?_, rfl⟩
    simp [myM, sMayM, *]
  · refine aw_aload_n dX9_mayOf_21 rfl rfl ?_
    refine aw_iload_n dX9_mayOf_22 rfl rfl ?_
    refine aw_callV cw_X9_wouldOf ml_X9_117 im_X9_wouldOf sl_X9_X9_wouldOf rfl (by decide) rfl (c_X9_wouldOf _ _ hp6) ⟨Nat.le_of_ble_eq_true rfl, Nat.le_of_ble_eq_true rfl⟩ ⟨Nat.zero_le _, Nat.zero_le _⟩ rfl rfl (Nat.le_of_ble_eq_true rfl) dX9_mayOf_23 ?_
    rintro _ _ ⟨rfl, rfl⟩
    refine aw_goto (tgt := 30) dX9_mayOf_26 (by decide) ?_
    refine aw_iret dX9_mayOf_30 (Nat.zero_le _) (Nat.zero_le _) ?_
    refine ⟨rfl, ?_, rfl⟩
    simp [myM, sMayM, *]
set_option maxRecDepth 100000 in
set_option maxHeartbeats 4000000 in
theorem lp_X9_sumOf {l : Launch} {D : va_G} {tc : Nat → ClassId} (I F : Nat → Nat → Int32) {c : Nat} (hc : c ≤ 6) (hI5 : I 0 5 = nI c) {p : Nat} (hp6 : p < 6) (o : Bool) : ∀ (m i : Nat) (a : Int32), i + m = c → sumN (fun q => if o then F 7 (6 * p + q) else F 7 (6 * q + p)) i = a → AW l D tc yX9_sumOf.cls cX9_sumOf 5 (some .int) { frames := 0, cells := 0, slots := 0, locals := 0 } 15 0 0 (fun v n1 h1 => n1 = 15 ∧ (v = some (.int (suN F o p c)) ∧ h1 = (hM I F))) 5 [some (.ref 0), some (.int (nI p)), some (.int (b2i o)), some (.int a), some (.int (nI i))] [] 15 (hM I F) 0 0 := by
  intro m
  induction m using Nat.strongRecOn with
  | _ m ih =>
    intro i a hi hq
    refine aw_iload dX9_sumOf_5 rfl ?_
    refine aw_aload_n dX9_sumOf_7 rfl rfl ?_
    refine aw_get fd_X9_62_9 dX9_sumOf_8 (by decide) rfl rfl ?_
    refine aw_icmp_ge (tgt := 54) dX9_sumOf_11 (by decide) (fun c_11 => ?_) (fun c_11 => ?_)
    · have hi6 : i = c := lp_ge (by omega) (by omega) (by rw [← hI5]; exact c_11)
      subst hi6
      refine aw_iload_n dX9_sumOf_54 rfl rfl ?_
      refine aw_iret dX9_sumOf_55 (Nat.zero_le _) (Nat.zero_le _) ?_
      refine ⟨rfl, ?_, rfl⟩
      rw [suN, hq]
    · have hi6 : i < c := lp_lt (N := c) (by omega) (by rw [← hI5]; exact c_11)
      refine aw_iload_n dX9_sumOf_14 rfl rfl ?_
      refine aw_iload_n dX9_sumOf_15 rfl rfl ?_
      refine aw_ifB_eq (tgt := 34) dX9_sumOf_16 (by decide) (fun c_16 => ?_) (fun c_16 => ?_)
      · refine aw_aload_n dX9_sumOf_34 rfl rfl ?_
        refine aw_get fd_X9_28_9 dX9_sumOf_35 (by decide) rfl rfl ?_
        refine aw_bipush (v := (6)) dX9_sumOf_38 (by decide) ?_
        refine aw_iload dX9_sumOf_40 rfl ?_
        refine aw_imul dX9_sumOf_42 ?_
        refine aw_iload_n dX9_sumOf_43 rfl rfl ?_
        refine aw_iadd dX9_sumOf_44 ?_
        rw [ix6]
        refine aw_iald dX9_sumOf_45 (by decide) rfl (vp_in_nI (by omega) (by decide)) ?_
        rw [nI_clamp (by omega)]
        refine aw_iadd dX9_sumOf_46 ?_
        refine aw_istore_n dX9_sumOf_47 rfl (by decide) rfl ?_
        refine aw_iinc (v := 1) dX9_sumOf_48 rfl (by decide) (by decide) rfl ?_
        refine aw_goto (tgt := 5) dX9_sumOf_51 (by decide) ?_
        rw [nI_1]
        exact ih (m - 1) (by omega) (i + 1) _ (by omega) (by rw [sumN, hq]; simp [*])
      · refine aw_aload_n dX9_sumOf_19 rfl rfl ?_
        refine aw_get fd_X9_28_9 dX9_sumOf_20 (by decide) rfl rfl ?_
        refine aw_bipush (v := (6)) dX9_sumOf_23 (by decide) ?_
        refine aw_iload_n dX9_sumOf_25 rfl rfl ?_
        refine aw_imul dX9_sumOf_26 ?_
        refine aw_iload dX9_sumOf_27 rfl ?_
        refine aw_iadd dX9_sumOf_29 ?_
        rw [ix6]
        refine aw_iald dX9_sumOf_30 (by decide) rfl (vp_in_nI (by omega) (by decide)) ?_
        refine aw_goto (tgt := 46) dX9_sumOf_31 (by decide) ?_
        rw [nI_clamp (by omega)]
        refine aw_iadd dX9_sumOf_46 ?_
        refine aw_istore_n dX9_sumOf_47 rfl (by decide) rfl ?_
        refine aw_iinc (v := 1) dX9_sumOf_48 rfl (by decide) (by decide) rfl ?_
        refine aw_goto (tgt := 5) dX9_sumOf_51 (by decide) ?_
        rw [nI_1]
        exact ih (m - 1) (by omega) (i + 1) _ (by omega) (by rw [sumN, hq]; simp [*])
set_option maxRecDepth 100000 in
set_option maxHeartbeats 4000000 in
theorem c_X9_sumOf {l : Launch} {D : va_G} {tc : Nat → ClassId} (I F : Nat → Nat → Int32) {c : Nat} (hc : c ≤ 6) (hI5 : I 0 5 = nI c) {p : Nat} (hp6 : p < 6) (o : Bool) : AM l D tc yX9_sumOf cX9_sumOf 5 (some .int) 0 0 0 0 [.ref 0, .int (nI p), .int (b2i o)] 15 (hM I F) (fun v n1 h1 => n1 = 15 ∧ (v = some (.int (suN F o p c)) ∧ h1 = (hM I F))) := by
  refine am_of (L := [some (.ref 0), some (.int (nI p)), some (.int (b2i o)), none, none]) (by decide +kernel) (Nat.le_of_ble_eq_true rfl) rfl ?_
  refine aw_iconst (v := 0) dX9_sumOf_0 (by decide) ?_
  refine aw_istore_n dX9_sumOf_1 rfl (by decide) rfl ?_
  refine aw_iconst (v := 0) dX9_sumOf_2 (by decide) ?_
  refine aw_istore dX9_sumOf_3 (by decide) rfl ?_
  exact lp_X9_sumOf I F hc hI5 hp6 o c 0 0 (by omega) rfl
def blM (F : Nat → Nat → Int32) (c p : Nat) : Int32 := suN F false p c - suN F true p c
set_option maxRecDepth 100000 in
set_option maxHeartbeats 4000000 in
theorem c_X9_balanceOf {l : Launch} {D : va_G} {tc : Nat → ClassId} (I F : Nat → Nat → Int32) {c : Nat} (hc : c ≤ 6) (hI5 : I 0 5 = nI c) {p : Nat} (hp6 : p < 6) : AM l D tc yX9_balanceOf cX9_balanceOf 2 (some .int) 1 24 0 0 [.ref 0, .int (nI p)] 15 (hM I F) (fun v n1 h1 => n1 = 15 ∧ (v = some (.int (blM F c p)) ∧ h1 = (hM I F))) := by
  refine am_of (L := [some (.ref 0), some (.int (nI p))]) (by decide +kernel) (Nat.le_of_ble_eq_true rfl) rfl ?_
  refine aw_aload_n dX9_balanceOf_0 rfl rfl ?_
  refine aw_iload_n dX9_balanceOf_1 rfl rfl ?_
  refine aw_iconst (v := 0) dX9_balanceOf_2 (by decide) ?_
  refine aw_callV cw_X9_sumOf ml_X9_126 im_X9_sumOf sl_X9_X9_sumOf rfl (by decide) rfl (c_X9_sumOf _ _ hc hI5 (p := p) (by omega) false) ⟨Nat.le_of_ble_eq_true rfl, Nat.le_of_ble_eq_true rfl⟩ ⟨Nat.zero_le _, Nat.zero_le _⟩ rfl rfl (Nat.le_of_ble_eq_true rfl) dX9_balanceOf_3 ?_
  rintro _ _ ⟨rfl, rfl⟩
  refine aw_aload_n dX9_balanceOf_6 rfl rfl ?_
  refine aw_iload_n dX9_balanceOf_7 rfl rfl ?_
  refine aw_iconst (v := 1) dX9_balanceOf_8 (by decide) ?_
  refine aw_callV cw_X9_sumOf ml_X9_126 im_X9_sumOf sl_X9_X9_sumOf rfl (by decide) rfl (c_X9_sumOf _ _ hc hI5 (p := p) (by omega) true) ⟨Nat.le_of_ble_eq_true rfl, Nat.le_of_ble_eq_true rfl⟩ ⟨Nat.zero_le _, Nat.zero_le _⟩ rfl rfl (Nat.le_of_ble_eq_true rfl) dX9_balanceOf_9 ?_
  rintro _ _ ⟨rfl, rfl⟩
  refine aw_isub dX9_balanceOf_12 ?_
  refine aw_iret dX9_balanceOf_13 (Nat.zero_le _) (Nat.zero_le _) ?_
  exact ⟨rfl, rfl, rfl⟩
def trM (I : Nat → Nat → Int32) (x : Int32) : Nat → Nat → Int32 := st_I I 0 1 (31 * I 0 1 + x)
set_option maxRecDepth 100000 in
set_option maxHeartbeats 4000000 in
theorem c_X9_begins {l : Launch} {D : va_G} {tc : Nat → ClassId} (I F : Nat → Nat → Int32) (x : Int32) : AM l D tc yX9_begins cX9_begins 2 none 0 0 0 0 [.ref 0, .int x] 15 (hM I F) (fun v n1 h1 => n1 = 15 ∧ (v = none ∧ h1 = hM (trM I x) F)) := by
  refine am_of (L := [some (.ref 0), some (.int x)]) (by decide +kernel) (Nat.le_of_ble_eq_true rfl) rfl ?_
  refine aw_aload_n dX9_begins_0 rfl rfl ?_
  refine aw_bipush (v := (31)) dX9_begins_1 (by decide) ?_
  refine aw_aload_n dX9_begins_3 rfl rfl ?_
  refine aw_get fd_X9_192_9 dX9_begins_4 (by decide) rfl rfl ?_
  refine aw_imul dX9_begins_7 ?_
  refine aw_iload_n dX9_begins_8 rfl rfl ?_
  refine aw_iadd dX9_begins_9 ?_
  refine aw_puti fp_X9_192_9 dX9_begins_10 (by decide) rfl rfl rfl (Nat.le_of_ble_eq_true rfl) rfl ?_
  refine aw_vret dX9_begins_13 (Nat.zero_le _) (Nat.zero_le _) ?_
  exact ⟨rfl, rfl, rfl⟩
set_option maxRecDepth 100000 in
set_option maxHeartbeats 4000000 in
theorem c_X9_ofPerson_no {l : Launch} {D : va_G} {tc : Nat → ClassId} (I F : Nat → Nat → Int32) {c : Nat} (hc : c ≤ 6) (hI5 : I 0 5 = nI c) {x : Int32} (hx : sP c x = false) (w : Int32) : AM l D tc yX9_ofPerson cX9_ofPerson 3 (some .int) 2 43 0 0 [.ref 0, .int x, .int w] 15 (hM I F) (fun v n1 h1 => n1 = 15 ∧ (v = some (.int (-1)) ∧ h1 = hM I F)) := by
  refine am_of (L := [some (.ref 0), some (.int x), some (.int w)]) (by decide +kernel) (Nat.le_of_ble_eq_true rfl) rfl ?_
  refine aw_aload_n dX9_ofPerson_0 rfl rfl ?_
  refine aw_iload_n dX9_ofPerson_1 rfl rfl ?_
  refine aw_callV cw_X9_isPerson ml_X9_120 im_X9_isPerson sl_X9_X9_isPerson rfl (by decide) rfl (c_X9_isPerson _ _ hc hI5 _) ⟨Nat.le_of_ble_eq_true rfl, Nat.le_of_ble_eq_true rfl⟩ ⟨Nat.zero_le _, Nat.zero_le _⟩ rfl rfl (Nat.le_of_ble_eq_true rfl) dX9_ofPerson_2 ?_
  rintro _ _ ⟨rfl, rfl⟩
  rw [show b2i (sP c x) = 0 from by rw [hx]; rfl]
  refine aw_if_ne (tgt := 10) dX9_ofPerson_5 (by decide) (fun c9 => absurd rfl c9) (fun _ => ?_)
  refine aw_iconst (v := (-1)) dX9_ofPerson_8 (by decide) ?_
  refine aw_iret dX9_ofPerson_9 (Nat.zero_le _) (Nat.zero_le _) ?_
  exact ⟨rfl, rfl, rfl⟩
set_option maxRecDepth 100000 in
set_option maxHeartbeats 4000000 in
theorem c_X9_ofPerson {l : Launch} {D : va_G} {tc : Nat → ClassId} (I F : Nat → Nat → Int32) {c : Nat} (hc : c ≤ 6) (hI5 : I 0 5 = nI c) {p : Nat} (hp : p < c) (w : Int32) : AM l D tc yX9_ofPerson cX9_ofPerson 3 (some .int) 2 43 0 0 [.ref 0, .int (nI p), .int w] 15 (hM I F) (fun v n1 h1 => n1 = 15 ∧ (v = some (.int (sel8 w (F 4 p) (F 5 p) (F 6 p) (sWo (F 4 p) (F 5 p)) (myM I F p) ((I 0 7 >>> (nI p &&& 31)) &&& 1) (suN F true p c) (suN F false p c))) ∧ h1 = (hM I F))) := by
  refine am_of (L := [some (.ref 0), some (.int (nI p)), some (.int w)]) (by decide +kernel) (Nat.le_of_ble_eq_true rfl) rfl ?_
  refine aw_aload_n dX9_ofPerson_0 rfl rfl ?_
  refine aw_iload_n dX9_ofPerson_1 rfl rfl ?_
  refine aw_callV cw_X9_isPerson ml_X9_120 im_X9_isPerson sl_X9_X9_isPerson rfl (by decide) rfl (c_X9_isPerson _ _ hc hI5 _) ⟨Nat.le_of_ble_eq_true rfl, Nat.le_of_ble_eq_true rfl⟩ ⟨Nat.zero_le _, Nat.zero_le _⟩ rfl rfl (Nat.le_of_ble_eq_true rfl) dX9_ofPerson_2 ?_
  rintro _ _ ⟨rfl, rfl⟩
  rw [show b2i (sP c (nI p)) = 1 from by rw [sP_nI hc hp]; rfl]
  refine aw_if_ne (tgt := 10) dX9_ofPerson_5 (by decide) (fun _ => ?_) (fun c9 => absurd c9 (by decide))
  refine aw_iload_n dX9_ofPerson_10 rfl rfl ?_
  by_cases e_11_0 : w = 0
  · refine aw_tableC (off := 45) (tgt := 56) e_11_0 dX9_ofPerson_11 (by decide) (by decide) (by decide) (by decide) ?_
    refine aw_aload_n dX9_ofPerson_56 rfl rfl ?_
    refine aw_get fd_X9_19_9 dX9_ofPerson_57 (by decide) rfl rfl ?_
    refine aw_iload_n dX9_ofPerson_60 rfl rfl ?_
    refine aw_iald dX9_ofPerson_61 (by decide) rfl (vp_in_nI (by omega) (by decide)) ?_
    refine aw_iret dX9_ofPerson_62 (Nat.zero_le _) (Nat.zero_le _) ?_
    refine ⟨rfl, ?_, rfl⟩
    (try rw [nI_clamp (show p < 2 ^ 31 by omega)])
    first | (simp [sel8, *]; done) | (simp_all [sel8]; done)
  by_cases e_11_1 : w = 1
  · refine aw_tableC (off := 52) (tgt := 63) e_11_1 dX9_ofPerson_11 (by decide) (by decide) (by decide) (by decide) ?_
    refine aw_aload_n dX9_ofPerson_63 rfl rfl ?_
    refine aw_get fd_X9_22_9 dX9_ofPerson_64 (by decide) rfl rfl ?_
    refine aw_iload_n dX9_ofPerson_67 rfl rfl ?_
    refine aw_iald dX9_ofPerson_68 (by decide) rfl (vp_in_nI (by omega) (by decide)) ?_
    refine aw_iret dX9_ofPerson_69 (Nat.zero_le _) (Nat.zero_le _) ?_
    refine ⟨rfl, ?_, rfl⟩
    (try rw [nI_clamp (show p < 2 ^ 31 by omega)])
    first | (simp [sel8, *]; done) | (simp_all [sel8]; done)
  by_cases e_11_2 : w = 2
  · refine aw_tableC (off := 59) (tgt := 70) e_11_2 dX9_ofPerson_11 (by decide) (by decide) (by decide) (by decide) ?_
    refine aw_aload_n dX9_ofPerson_70 rfl rfl ?_
    refine aw_get fd_X9_25_9 dX9_ofPerson_71 (by decide) rfl rfl ?_
    refine aw_iload_n dX9_ofPerson_74 rfl rfl ?_
    refine aw_iald dX9_ofPerson_75 (by decide) rfl (vp_in_nI (by omega) (by decide)) ?_
    refine aw_iret dX9_ofPerson_76 (Nat.zero_le _) (Nat.zero_le _) ?_
    refine ⟨rfl, ?_, rfl⟩
    (try rw [nI_clamp (show p < 2 ^ 31 by omega)])
    first | (simp [sel8, *]; done) | (simp_all [sel8]; done)
  by_cases e_11_3 : w = 3
  · refine aw_tableC (off := 66) (tgt := 77) e_11_3 dX9_ofPerson_11 (by decide) (by decide) (by decide) (by decide) ?_
    refine aw_aload_n dX9_ofPerson_77 rfl rfl ?_
    refine aw_iload_n dX9_ofPerson_78 rfl rfl ?_
    refine aw_callV cw_X9_wouldOf ml_X9_117 im_X9_wouldOf sl_X9_X9_wouldOf rfl (by decide) rfl (c_X9_wouldOf _ _ (by omega)) ⟨Nat.le_of_ble_eq_true rfl, Nat.le_of_ble_eq_true rfl⟩ ⟨Nat.zero_le _, Nat.zero_le _⟩ rfl rfl (Nat.le_of_ble_eq_true rfl) dX9_ofPerson_79 ?_
    rintro _ _ ⟨rfl, rfl⟩
    refine aw_iret dX9_ofPerson_82 (Nat.zero_le _) (Nat.zero_le _) ?_
    refine ⟨rfl, ?_, rfl⟩
    (try rw [nI_clamp (show p < 2 ^ 31 by omega)])
    first | (simp [sel8, *]; done) | (simp_all [sel8]; done)
  by_cases e_11_4 : w = 4
  · refine aw_tableC (off := 72) (tgt := 83) e_11_4 dX9_ofPerson_11 (by decide) (by decide) (by decide) (by decide) ?_
    refine aw_aload_n dX9_ofPerson_83 rfl rfl ?_
    refine aw_iload_n dX9_ofPerson_84 rfl rfl ?_
    refine aw_callV cw_X9_mayOf ml_X9_123 im_X9_mayOf sl_X9_X9_mayOf rfl (by decide) rfl (c_X9_mayOf _ _ (by omega)) ⟨Nat.le_of_ble_eq_true rfl, Nat.le_of_ble_eq_true rfl⟩ ⟨Nat.zero_le _, Nat.zero_le _⟩ rfl rfl (Nat.le_of_ble_eq_true rfl) dX9_ofPerson_85 ?_
    rintro _ _ ⟨rfl, rfl⟩
    refine aw_iret dX9_ofPerson_88 (Nat.zero_le _) (Nat.zero_le _) ?_
    refine ⟨rfl, ?_, rfl⟩
    (try rw [nI_clamp (show p < 2 ^ 31 by omega)])
    first | (simp [sel8, *]; done) | (simp_all [sel8]; done)
  by_cases e_11_5 : w = 5
  · refine aw_tableC (off := 78) (tgt := 89) e_11_5 dX9_ofPerson_11 (by decide) (by decide) (by decide) (by decide) ?_
    refine aw_aload_n dX9_ofPerson_89 rfl rfl ?_
    refine aw_get fd_X9_98_9 dX9_ofPerson_90 (by decide) rfl rfl ?_
    refine aw_iload_n dX9_ofPerson_93 rfl rfl ?_
    refine aw_ishr dX9_ofPerson_94 ?_
    refine aw_iconst (v := 1) dX9_ofPerson_95 (by decide) ?_
    refine aw_iand dX9_ofPerson_96 ?_
    refine aw_iret dX9_ofPerson_97 (Nat.zero_le _) (Nat.zero_le _) ?_
    refine ⟨rfl, ?_, rfl⟩
    (try rw [nI_clamp (show p < 2 ^ 31 by omega)])
    first | (simp [sel8, *]; done) | (simp_all [sel8]; done)
  by_cases e_11_6 : w = 6
  · refine aw_tableC (off := 87) (tgt := 98) e_11_6 dX9_ofPerson_11 (by decide) (by decide) (by decide) (by decide) ?_
    refine aw_aload_n dX9_ofPerson_98 rfl rfl ?_
    refine aw_iload_n dX9_ofPerson_99 rfl rfl ?_
    refine aw_iconst (v := 1) dX9_ofPerson_100 (by decide) ?_
    refine aw_callV cw_X9_sumOf ml_X9_126 im_X9_sumOf sl_X9_X9_sumOf rfl (by decide) rfl (c_X9_sumOf _ _ hc hI5 (p := p) (by omega) true) ⟨Nat.le_of_ble_eq_true rfl, Nat.le_of_ble_eq_true rfl⟩ ⟨Nat.zero_le _, Nat.zero_le _⟩ rfl rfl (Nat.le_of_ble_eq_true rfl) dX9_ofPerson_101 ?_
    rintro _ _ ⟨rfl, rfl⟩
    refine aw_iret dX9_ofPerson_104 (Nat.zero_le _) (Nat.zero_le _) ?_
    refine ⟨rfl, ?_, rfl⟩
    (try rw [nI_clamp (show p < 2 ^ 31 by omega)])
    first | (simp [sel8, *]; done) | (simp_all [sel8]; done)
  by_cases e_11_7 : w = 7
  · refine aw_tableC (off := 94) (tgt := 105) e_11_7 dX9_ofPerson_11 (by decide) (by decide) (by decide) (by decide) ?_
    refine aw_aload_n dX9_ofPerson_105 rfl rfl ?_
    refine aw_iload_n dX9_ofPerson_106 rfl rfl ?_
    refine aw_iconst (v := 0) dX9_ofPerson_107 (by decide) ?_
    refine aw_callV cw_X9_sumOf ml_X9_126 im_X9_sumOf sl_X9_X9_sumOf rfl (by decide) rfl (c_X9_sumOf _ _ hc hI5 (p := p) (by omega) false) ⟨Nat.le_of_ble_eq_true rfl, Nat.le_of_ble_eq_true rfl⟩ ⟨Nat.zero_le _, Nat.zero_le _⟩ rfl rfl (Nat.le_of_ble_eq_true rfl) dX9_ofPerson_108 ?_
    rintro _ _ ⟨rfl, rfl⟩
    refine aw_iret dX9_ofPerson_111 (Nat.zero_le _) (Nat.zero_le _) ?_
    refine ⟨rfl, ?_, rfl⟩
    (try rw [nI_clamp (show p < 2 ^ 31 by omega)])
    first | (simp [sel8, *]; done) | (simp_all [sel8]; done)
  refine aw_tableOut (tgt := 112) dX9_ofPerson_11 (aw_out8 e_11_0 e_11_1 e_11_2 e_11_3 e_11_4 e_11_5 e_11_6 e_11_7) (by decide) ?_
  refine aw_bipush (v := (-2)) dX9_ofPerson_112 (by decide) ?_
  refine aw_iret dX9_ofPerson_114 (Nat.zero_le _) (Nat.zero_le _) ?_
  refine ⟨rfl, ?_, rfl⟩
  (try rw [nI_clamp (show p < 2 ^ 31 by omega)])
  first | (simp [sel8, *]; done) | (simp_all [sel8]; done)
set_option maxRecDepth 100000 in
set_option maxHeartbeats 4000000 in
theorem c_X9_hurry_no {l : Launch} {D : va_G} {tc : Nat → ClassId} (I F : Nat → Nat → Int32) {c : Nat} (hc : c ≤ 6) (hI5 : I 0 5 = nI c) {x : Int32} (hx : sP c x = false) (w : Int32) : AM l D tc yX9_hurry cX9_hurry 4 (some .int) 1 22 0 0 [.ref 0, .int x, .int w] 15 (hM I F) (fun v n1 h1 => n1 = 15 ∧ (v = some (.int (-1)) ∧ h1 = hM I F)) := by
  refine am_of (L := [some (.ref 0), some (.int x), some (.int w), none]) (by decide +kernel) (Nat.le_of_ble_eq_true rfl) rfl ?_
  refine aw_aload_n dX9_hurry_0 rfl rfl ?_
  refine aw_iload_n dX9_hurry_1 rfl rfl ?_
  refine aw_callV cw_X9_isPerson ml_X9_120 im_X9_isPerson sl_X9_X9_isPerson rfl (by decide) rfl (c_X9_isPerson _ _ hc hI5 _) ⟨Nat.le_of_ble_eq_true rfl, Nat.le_of_ble_eq_true rfl⟩ ⟨Nat.zero_le _, Nat.zero_le _⟩ rfl rfl (Nat.le_of_ble_eq_true rfl) dX9_hurry_2 ?_
  rintro _ _ ⟨rfl, rfl⟩
  rw [show b2i (sP c x) = 0 from by rw [hx]; rfl]
  refine aw_if_ne (tgt := 10) dX9_hurry_5 (by decide) (fun c9 => absurd rfl c9) (fun _ => ?_)
  refine aw_iconst (v := (-1)) dX9_hurry_8 (by decide) ?_
  refine aw_iret dX9_hurry_9 (Nat.zero_le _) (Nat.zero_le _) ?_
  exact ⟨rfl, rfl, rfl⟩
set_option maxRecDepth 100000 in
set_option maxHeartbeats 4000000 in
theorem c_X9_hurry {l : Launch} {D : va_G} {tc : Nat → ClassId} (I F : Nat → Nat → Int32) {c : Nat} (hc : c ≤ 6) (hI5 : I 0 5 = nI c) {p : Nat} (hp : p < c) (w : Int32) : AM l D tc yX9_hurry cX9_hurry 4 (some .int) 1 22 0 0 [.ref 0, .int (nI p), .int w] 15 (hM I F) (fun v n1 h1 => n1 = 15 ∧ (v = some (.int (if sW w 0 9 then F 5 p else -2)) ∧ h1 = hM I (if sW w 0 9 then st_F F 5 (upd (F 5) p w) else F))) := by
  refine am_of (L := [some (.ref 0), some (.int (nI p)), some (.int w), none]) (by decide +kernel) (Nat.le_of_ble_eq_true rfl) rfl ?_
  refine aw_aload_n dX9_hurry_0 rfl rfl ?_
  refine aw_iload_n dX9_hurry_1 rfl rfl ?_
  refine aw_callV cw_X9_isPerson ml_X9_120 im_X9_isPerson sl_X9_X9_isPerson rfl (by decide) rfl (c_X9_isPerson _ _ hc hI5 _) ⟨Nat.le_of_ble_eq_true rfl, Nat.le_of_ble_eq_true rfl⟩ ⟨Nat.zero_le _, Nat.zero_le _⟩ rfl rfl (Nat.le_of_ble_eq_true rfl) dX9_hurry_2 ?_
  rintro _ _ ⟨rfl, rfl⟩
  rw [show b2i (sP c (nI p)) = 1 from by rw [sP_nI hc hp]; rfl]
  refine aw_if_ne (tgt := 10) dX9_hurry_5 (by decide) (fun _ => ?_) (fun c9 => absurd c9 (by decide))
  refine aw_iload_n dX9_hurry_10 rfl rfl ?_
  refine aw_iconst (v := 0) dX9_hurry_11 (by decide) ?_
  refine aw_bipush (v := (9)) dX9_hurry_12 (by decide) ?_
  refine aw_callS cw_X9_within ml_X9_58 sm_X9_within (c_X9_within _ _ _ _ _) ⟨Nat.le_of_ble_eq_true rfl, Nat.le_of_ble_eq_true rfl⟩ ⟨Nat.zero_le _, Nat.zero_le _⟩ rfl rfl (Nat.le_of_ble_eq_true rfl) dX9_hurry_14 ?_
  rintro _ _ ⟨rfl, rfl⟩
  refine aw_ifB_ne (tgt := 23) dX9_hurry_17 (by decide) (fun c_17 => ?_) (fun c_17 => ?_)
  · refine aw_aload_n dX9_hurry_23 rfl rfl ?_
    refine aw_get fd_X9_22_9 dX9_hurry_24 (by decide) rfl rfl ?_
    refine aw_iload_n dX9_hurry_27 rfl rfl ?_
    refine aw_iald dX9_hurry_28 (by decide) rfl (vp_in_nI (by omega) (by decide)) ?_
    refine aw_istore_n dX9_hurry_29 rfl (by decide) rfl ?_
    refine aw_aload_n dX9_hurry_30 rfl rfl ?_
    refine aw_get fd_X9_22_9 dX9_hurry_31 (by decide) rfl rfl ?_
    refine aw_iload_n dX9_hurry_34 rfl rfl ?_
    refine aw_iload_n dX9_hurry_35 rfl rfl ?_
    refine aw_iasti dX9_hurry_36 (by decide) rfl (fun _ => rfl) (vp_in_nI (by omega) (by decide)) ?_
    refine aw_iload_n dX9_hurry_37 rfl rfl ?_
    refine aw_iret dX9_hurry_38 (Nat.zero_le _) (Nat.zero_le _) ?_
    refine ⟨rfl, ?_, ?_⟩ <;> (try rw [nI_clamp (show p < 2 ^ 31 by omega)]) <;> first | (simp [*]; done) | (simp_all; done)
  · refine aw_bipush (v := (-2)) dX9_hurry_20 (by decide) ?_
    refine aw_iret dX9_hurry_22 (Nat.zero_le _) (Nat.zero_le _) ?_
    refine ⟨rfl, ?_, ?_⟩ <;> (try rw [nI_clamp (show p < 2 ^ 31 by omega)]) <;> first | (simp [*]; done) | (simp_all; done)
set_option maxRecDepth 100000 in
set_option maxHeartbeats 4000000 in
theorem c_X9_wall_no {l : Launch} {D : va_G} {tc : Nat → ClassId} (I F : Nat → Nat → Int32) {c : Nat} (hc : c ≤ 6) (hI5 : I 0 5 = nI c) {x : Int32} (hx : sP c x = false) (w : Int32) : AM l D tc yX9_wall cX9_wall 4 (some .int) 1 22 0 0 [.ref 0, .int x, .int w] 15 (hM I F) (fun v n1 h1 => n1 = 15 ∧ (v = some (.int (-1)) ∧ h1 = hM I F)) := by
  refine am_of (L := [some (.ref 0), some (.int x), some (.int w), none]) (by decide +kernel) (Nat.le_of_ble_eq_true rfl) rfl ?_
  refine aw_aload_n dX9_wall_0 rfl rfl ?_
  refine aw_iload_n dX9_wall_1 rfl rfl ?_
  refine aw_callV cw_X9_isPerson ml_X9_120 im_X9_isPerson sl_X9_X9_isPerson rfl (by decide) rfl (c_X9_isPerson _ _ hc hI5 _) ⟨Nat.le_of_ble_eq_true rfl, Nat.le_of_ble_eq_true rfl⟩ ⟨Nat.zero_le _, Nat.zero_le _⟩ rfl rfl (Nat.le_of_ble_eq_true rfl) dX9_wall_2 ?_
  rintro _ _ ⟨rfl, rfl⟩
  rw [show b2i (sP c x) = 0 from by rw [hx]; rfl]
  refine aw_if_ne (tgt := 10) dX9_wall_5 (by decide) (fun c9 => absurd rfl c9) (fun _ => ?_)
  refine aw_iconst (v := (-1)) dX9_wall_8 (by decide) ?_
  refine aw_iret dX9_wall_9 (Nat.zero_le _) (Nat.zero_le _) ?_
  exact ⟨rfl, rfl, rfl⟩
set_option maxRecDepth 100000 in
set_option maxHeartbeats 4000000 in
theorem c_X9_wall {l : Launch} {D : va_G} {tc : Nat → ClassId} (I F : Nat → Nat → Int32) {c : Nat} (hc : c ≤ 6) (hI5 : I 0 5 = nI c) {p : Nat} (hp : p < c) (w : Int32) : AM l D tc yX9_wall cX9_wall 4 (some .int) 1 22 0 0 [.ref 0, .int (nI p), .int w] 15 (hM I F) (fun v n1 h1 => n1 = 15 ∧ (v = some (.int (if sW w 0 9 then F 6 p else -2)) ∧ h1 = hM I (if sW w 0 9 then st_F F 6 (upd (F 6) p w) else F))) := by
  refine am_of (L := [some (.ref 0), some (.int (nI p)), some (.int w), none]) (by decide +kernel) (Nat.le_of_ble_eq_true rfl) rfl ?_
  refine aw_aload_n dX9_wall_0 rfl rfl ?_
  refine aw_iload_n dX9_wall_1 rfl rfl ?_
  refine aw_callV cw_X9_isPerson ml_X9_120 im_X9_isPerson sl_X9_X9_isPerson rfl (by decide) rfl (c_X9_isPerson _ _ hc hI5 _) ⟨Nat.le_of_ble_eq_true rfl, Nat.le_of_ble_eq_true rfl⟩ ⟨Nat.zero_le _, Nat.zero_le _⟩ rfl rfl (Nat.le_of_ble_eq_true rfl) dX9_wall_2 ?_
  rintro _ _ ⟨rfl, rfl⟩
  rw [show b2i (sP c (nI p)) = 1 from by rw [sP_nI hc hp]; rfl]
  refine aw_if_ne (tgt := 10) dX9_wall_5 (by decide) (fun _ => ?_) (fun c9 => absurd c9 (by decide))
  refine aw_iload_n dX9_wall_10 rfl rfl ?_
  refine aw_iconst (v := 0) dX9_wall_11 (by decide) ?_
  refine aw_bipush (v := (9)) dX9_wall_12 (by decide) ?_
  refine aw_callS cw_X9_within ml_X9_58 sm_X9_within (c_X9_within _ _ _ _ _) ⟨Nat.le_of_ble_eq_true rfl, Nat.le_of_ble_eq_true rfl⟩ ⟨Nat.zero_le _, Nat.zero_le _⟩ rfl rfl (Nat.le_of_ble_eq_true rfl) dX9_wall_14 ?_
  rintro _ _ ⟨rfl, rfl⟩
  refine aw_ifB_ne (tgt := 23) dX9_wall_17 (by decide) (fun c_17 => ?_) (fun c_17 => ?_)
  · refine aw_aload_n dX9_wall_23 rfl rfl ?_
    refine aw_get fd_X9_25_9 dX9_wall_24 (by decide) rfl rfl ?_
    refine aw_iload_n dX9_wall_27 rfl rfl ?_
    refine aw_iald dX9_wall_28 (by decide) rfl (vp_in_nI (by omega) (by decide)) ?_
    refine aw_istore_n dX9_wall_29 rfl (by decide) rfl ?_
    refine aw_aload_n dX9_wall_30 rfl rfl ?_
    refine aw_get fd_X9_25_9 dX9_wall_31 (by decide) rfl rfl ?_
    refine aw_iload_n dX9_wall_34 rfl rfl ?_
    refine aw_iload_n dX9_wall_35 rfl rfl ?_
    refine aw_iasti dX9_wall_36 (by decide) rfl (fun _ => rfl) (vp_in_nI (by omega) (by decide)) ?_
    refine aw_iload_n dX9_wall_37 rfl rfl ?_
    refine aw_iret dX9_wall_38 (Nat.zero_le _) (Nat.zero_le _) ?_
    refine ⟨rfl, ?_, ?_⟩ <;> (try rw [nI_clamp (show p < 2 ^ 31 by omega)]) <;> first | (simp [*]; done) | (simp_all; done)
  · refine aw_bipush (v := (-2)) dX9_wall_20 (by decide) ?_
    refine aw_iret dX9_wall_22 (Nat.zero_le _) (Nat.zero_le _) ?_
    refine ⟨rfl, ?_, ?_⟩ <;> (try rw [nI_clamp (show p < 2 ^ 31 by omega)]) <;> first | (simp [*]; done) | (simp_all; done)
set_option maxRecDepth 100000 in
set_option maxHeartbeats 4000000 in
theorem c_X9_lease {l : Launch} {D : va_G} {tc : Nat → ClassId} (I F : Nat → Nat → Int32) (w : Int32) : AM l D tc yX9_lease cX9_lease 3 (some .int) 1 22 0 0 [.ref 0, .int w] 15 (hM I F) (fun v n1 h1 => n1 = 15 ∧ (v = some (.int (if sW w 0 9 then (if I 0 5 = 0 then -3 else I 0 6) else -2)) ∧ h1 = hM (if sW w 0 9 then (if I 0 5 = 0 then I else st_I I 0 6 w) else I) F)) := by
  refine am_of (L := [some (.ref 0), some (.int w), none]) (by decide +kernel) (Nat.le_of_ble_eq_true rfl) rfl ?_
  refine aw_iload_n dX9_lease_0 rfl rfl ?_
  refine aw_iconst (v := 0) dX9_lease_1 (by decide) ?_
  refine aw_bipush (v := (9)) dX9_lease_2 (by decide) ?_
  refine aw_callS cw_X9_within ml_X9_58 sm_X9_within (c_X9_within _ _ _ _ _) ⟨Nat.le_of_ble_eq_true rfl, Nat.le_of_ble_eq_true rfl⟩ ⟨Nat.zero_le _, Nat.zero_le _⟩ rfl rfl (Nat.le_of_ble_eq_true rfl) dX9_lease_4 ?_
  rintro _ _ ⟨rfl, rfl⟩
  refine aw_ifB_ne (tgt := 13) dX9_lease_7 (by decide) (fun c_7 => ?_) (fun c_7 => ?_)
  · refine aw_aload_n dX9_lease_13 rfl rfl ?_
    refine aw_get fd_X9_62_9 dX9_lease_14 (by decide) rfl rfl ?_
    refine aw_if_ne (tgt := 23) dX9_lease_17 (by decide) (fun c_17 => ?_) (fun c_17 => ?_)
    · refine aw_aload_n dX9_lease_23 rfl rfl ?_
      refine aw_get fd_X9_92_9 dX9_lease_24 (by decide) rfl rfl ?_
      refine aw_istore_n dX9_lease_27 rfl (by decide) rfl ?_
      refine aw_aload_n dX9_lease_28 rfl rfl ?_
      refine aw_iload_n dX9_lease_29 rfl rfl ?_
      refine aw_puti fp_X9_92_9 dX9_lease_30 (by decide) rfl rfl rfl (Nat.le_of_ble_eq_true rfl) rfl ?_
      refine aw_iload_n dX9_lease_33 rfl rfl ?_
      refine aw_iret dX9_lease_34 (Nat.zero_le _) (Nat.zero_le _) ?_
      refine ⟨rfl, ?_, ?_⟩ <;> first | (simp [*]; done) | (simp_all; done)
    · refine aw_bipush (v := (-3)) dX9_lease_20 (by decide) ?_
      refine aw_iret dX9_lease_22 (Nat.zero_le _) (Nat.zero_le _) ?_
      refine ⟨rfl, ?_, ?_⟩ <;> first | (simp [*]; done) | (simp_all; done)
  · refine aw_bipush (v := (-2)) dX9_lease_10 (by decide) ?_
    refine aw_iret dX9_lease_12 (Nat.zero_le _) (Nat.zero_le _) ?_
    refine ⟨rfl, ?_, ?_⟩ <;> first | (simp [*]; done) | (simp_all; done)
set_option maxRecDepth 100000 in
set_option maxHeartbeats 4000000 in
theorem c_X9_morning {l : Launch} {D : va_G} {tc : Nat → ClassId} (I F : Nat → Nat → Int32) {th : Nat} (hth : th < 64) (hI7 : I 0 7 = nI th) : AM l D tc yX9_morning cX9_morning 3 (some .int) 1 22 0 0 [.ref 0] 15 (hM I F) (fun v n1 h1 => n1 = 15 ∧ (v = some (.int (if I 0 5 = 0 then -3 else I 0 5 - nI (szN 6 th))) ∧ h1 = hM (if I 0 5 = 0 then I else st_I (st_I I 0 7 (sBit (I 0 5) - 1)) 0 8 (I 0 8 + 1)) F)) := by
  refine am_of (L := [some (.ref 0), none, none]) (by decide +kernel) (Nat.le_of_ble_eq_true rfl) rfl ?_
  refine aw_aload_n dX9_morning_0 rfl rfl ?_
  refine aw_get fd_X9_62_9 dX9_morning_1 (by decide) rfl rfl ?_
  refine aw_if_ne (tgt := 10) dX9_morning_4 (by decide) (fun c_4 => ?_) (fun c_4 => ?_)
  · refine aw_iconst (v := 1) dX9_morning_10 (by decide) ?_
    refine aw_aload_n dX9_morning_11 rfl rfl ?_
    refine aw_get fd_X9_62_9 dX9_morning_12 (by decide) rfl rfl ?_
    refine aw_ishl dX9_morning_15 ?_
    refine aw_iconst (v := 1) dX9_morning_16 (by decide) ?_
    refine aw_isub dX9_morning_17 ?_
    refine aw_istore_n dX9_morning_18 rfl (by decide) rfl ?_
    refine aw_aload_n dX9_morning_19 rfl rfl ?_
    refine aw_get fd_X9_62_9 dX9_morning_20 (by decide) rfl rfl ?_
    refine aw_aload_n dX9_morning_23 rfl rfl ?_
    refine aw_get fd_X9_98_9 dX9_morning_24 (by decide) rfl rfl ?_
    rw [hI7]
    refine aw_callS cw_X9_size ml_X9_148 sm_X9_size (c_X9_size (m := th) hth _ _) ⟨Nat.le_of_ble_eq_true rfl, Nat.le_of_ble_eq_true rfl⟩ ⟨Nat.zero_le _, Nat.zero_le _⟩ rfl rfl (Nat.le_of_ble_eq_true rfl) dX9_morning_27 ?_
    rintro _ _ ⟨rfl, rfl⟩
    refine aw_isub dX9_morning_30 ?_
    refine aw_istore_n dX9_morning_31 rfl (by decide) rfl ?_
    refine aw_aload_n dX9_morning_32 rfl rfl ?_
    refine aw_iload_n dX9_morning_33 rfl rfl ?_
    refine aw_puti fp_X9_98_9 dX9_morning_34 (by decide) rfl rfl rfl (Nat.le_of_ble_eq_true rfl) rfl ?_
    refine aw_aload_n dX9_morning_37 rfl rfl ?_
    refine aw_dup dX9_morning_38 rfl ?_
    refine aw_get fd_X9_101_9 dX9_morning_39 (by decide) rfl rfl ?_
    refine aw_iconst (v := 1) dX9_morning_42 (by decide) ?_
    refine aw_iadd dX9_morning_43 ?_
    refine aw_puti fp_X9_101_9 dX9_morning_44 (by decide) rfl rfl rfl (Nat.le_of_ble_eq_true rfl) rfl ?_
    refine aw_iload_n dX9_morning_47 rfl rfl ?_
    refine aw_iret dX9_morning_48 (Nat.zero_le _) (Nat.zero_le _) ?_
    refine ⟨rfl, ?_, ?_⟩
    · simp [*]
    · first | (rw [if_pos (by assumption)]) | (rw [if_neg (by assumption)]; rfl)
  · refine aw_bipush (v := (-3)) dX9_morning_7 (by decide) ?_
    refine aw_iret dX9_morning_9 (Nat.zero_le _) (Nat.zero_le _) ?_
    refine ⟨rfl, ?_, ?_⟩
    · simp [*]
    · first | (rw [if_pos (by assumption)]) | (rw [if_neg (by assumption)]; rfl)
set_option maxRecDepth 100000 in
set_option maxHeartbeats 4000000 in
theorem c_X9_areTwo {l : Launch} {D : va_G} {tc : Nat → ClassId} (I F : Nat → Nat → Int32) {c : Nat} (hc : c ≤ 6) (hI5 : I 0 5 = nI c) (x y : Int32) : AM l D tc yX9_areTwo cX9_areTwo 3 (some .boolean) 1 21 0 0 [.ref 0, .int x, .int y] 15 (hM I F) (fun v n1 h1 => n1 = 15 ∧ (v = some (.int (b2i (sP c x && sP c y && !decide (x = y)))) ∧ h1 = (hM I F))) := by
  refine am_of (L := [some (.ref 0), some (.int x), some (.int y)]) (by decide +kernel) (Nat.le_of_ble_eq_true rfl) rfl ?_
  refine aw_aload_n dX9_areTwo_0 rfl rfl ?_
  refine aw_iload_n dX9_areTwo_1 rfl rfl ?_
  refine aw_callV cw_X9_isPerson ml_X9_120 im_X9_isPerson sl_X9_X9_isPerson rfl (by decide) rfl (c_X9_isPerson _ _ hc hI5 _) ⟨Nat.le_of_ble_eq_true rfl, Nat.le_of_ble_eq_true rfl⟩ ⟨Nat.zero_le _, Nat.zero_le _⟩ rfl rfl (Nat.le_of_ble_eq_true rfl) dX9_areTwo_2 ?_
  rintro _ _ ⟨rfl, rfl⟩
  refine aw_ifB_eq (tgt := 25) dX9_areTwo_5 (by decide) (fun c_5 => ?_) (fun c_5 => ?_)
  · refine aw_iconst (v := 0) dX9_areTwo_25 (by decide) ?_
    refine aw_zret dX9_areTwo_26 (by first | rfl | exact aw_nb _) (Nat.zero_le _) (Nat.zero_le _) ?_
    refine ⟨rfl, ?_, rfl⟩
    simp [b2i, *]
  · refine aw_aload_n dX9_areTwo_8 rfl rfl ?_
    refine aw_iload_n dX9_areTwo_9 rfl rfl ?_
    refine aw_callV cw_X9_isPerson ml_X9_120 im_X9_isPerson sl_X9_X9_isPerson rfl (by decide) rfl (c_X9_isPerson _ _ hc hI5 _) ⟨Nat.le_of_ble_eq_true rfl, Nat.le_of_ble_eq_true rfl⟩ ⟨Nat.zero_le _, Nat.zero_le _⟩ rfl rfl (Nat.le_of_ble_eq_true rfl) dX9_areTwo_10 ?_
    rintro _ _ ⟨rfl, rfl⟩
    refine aw_ifB_eq (tgt := 25) dX9_areTwo_13 (by decide) (fun c_13 => ?_) (fun c_13 => ?_)
    · refine aw_iconst (v := 0) dX9_areTwo_25 (by decide) ?_
      refine aw_zret dX9_areTwo_26 (by first | rfl | exact aw_nb _) (Nat.zero_le _) (Nat.zero_le _) ?_
      refine ⟨rfl, ?_, rfl⟩
      simp [b2i, *]
    · refine aw_iload_n dX9_areTwo_16 rfl rfl ?_
      refine aw_iload_n dX9_areTwo_17 rfl rfl ?_
      refine aw_icmp_eq (tgt := 25) dX9_areTwo_18 (by decide) (fun c_18 => ?_) (fun c_18 => ?_)
      · refine aw_iconst (v := 0) dX9_areTwo_25 (by decide) ?_
        refine aw_zret dX9_areTwo_26 (by first | rfl | exact aw_nb _) (Nat.zero_le _) (Nat.zero_le _) ?_
        refine ⟨rfl, ?_, rfl⟩
        simp [b2i, *]
      · refine aw_iconst (v := 1) dX9_areTwo_21 (by decide) ?_
        refine aw_goto (tgt := 26) dX9_areTwo_22 (by decide) ?_
        refine aw_zret dX9_areTwo_26 (by first | rfl | exact aw_nb _) (Nat.zero_le _) (Nat.zero_le _) ?_
        refine ⟨rfl, ?_, rfl⟩
        simp [b2i, *]
theorem two_ex {c : Nat} (hc : c ≤ 6) {x y : Int32} (h : (sP c x && sP c y && !decide (x = y)) = true) : ∃ p q : Nat, p < c ∧ q < c ∧ p ≠ q ∧ x = nI p ∧ y = nI q := by
  simp only [Bool.and_eq_true, Bool.not_eq_true', decide_eq_false_iff_not] at h
  obtain ⟨p, hp, rfl⟩ := (perC hc x).resolve_left (by rw [h.1.1]; decide)
  obtain ⟨q, hq, rfl⟩ := (perC hc y).resolve_left (by rw [h.1.2]; decide)
  exact ⟨p, q, hp, hq, fun e => h.2 (by rw [e]), rfl, rfl⟩
def owM (F : Nat → Nat → Int32) (x y : Int32) : Int32 := F 7 (6 * x.toNatClampNeg + y.toNatClampNeg)
set_option maxRecDepth 100000 in
set_option maxHeartbeats 4000000 in
theorem c_X9_owes {l : Launch} {D : va_G} {tc : Nat → ClassId} (I F : Nat → Nat → Int32) {c : Nat} (hc : c ≤ 6) (hI5 : I 0 5 = nI c) (x y : Int32) : AM l D tc yX9_owes cX9_owes 3 (some .int) 2 43 0 0 [.ref 0, .int x, .int y] 15 (hM I F) (fun v n1 h1 => n1 = 15 ∧ (v = some (.int (if sP c x && sP c y && !decide (x = y) then owM F x y else -1)) ∧ h1 = (hM I F))) := by
  refine am_of (L := [some (.ref 0), some (.int x), some (.int y)]) (by decide +kernel) (Nat.le_of_ble_eq_true rfl) rfl ?_
  refine aw_aload_n dX9_owes_0 rfl rfl ?_
  refine aw_iload_n dX9_owes_1 rfl rfl ?_
  refine aw_iload_n dX9_owes_2 rfl rfl ?_
  refine aw_callV cw_X9_areTwo ml_X9_151 im_X9_areTwo sl_X9_X9_areTwo rfl (by decide) rfl (c_X9_areTwo _ _ hc hI5 _ _) ⟨Nat.le_of_ble_eq_true rfl, Nat.le_of_ble_eq_true rfl⟩ ⟨Nat.zero_le _, Nat.zero_le _⟩ rfl rfl (Nat.le_of_ble_eq_true rfl) dX9_owes_3 ?_
  rintro _ _ ⟨rfl, rfl⟩
  refine aw_ifB_eq (tgt := 23) dX9_owes_6 (by decide) (fun c_6 => ?_) (fun c_6 => ?_)
  · refine aw_iconst (v := (-1)) dX9_owes_23 (by decide) ?_
    refine aw_iret dX9_owes_24 (Nat.zero_le _) (Nat.zero_le _) ?_
    refine ⟨rfl, ?_, rfl⟩
    first | (rw [if_pos c_6, owM, nI_clamp (n := p) (by omega), nI_clamp (n := q) (by omega), nI_clamp (by omega)]) | (rw [if_neg (by rw [c_6]; decide)])
  · refine aw_aload_n dX9_owes_9 rfl rfl ?_
    refine aw_get fd_X9_28_9 dX9_owes_10 (by decide) rfl rfl ?_
    refine aw_bipush (v := (6)) dX9_owes_13 (by decide) ?_
    refine aw_iload_n dX9_owes_15 rfl rfl ?_
    refine aw_imul dX9_owes_16 ?_
    refine aw_iload_n dX9_owes_17 rfl rfl ?_
    refine aw_iadd dX9_owes_18 ?_
    obtain ⟨p, q, hp, hq, hpq, rfl, rfl⟩ := two_ex hc c_6
    rw [ix6]
    refine aw_iald dX9_owes_19 (by decide) rfl (vp_in_nI (by omega) (by decide)) ?_
    refine aw_goto (tgt := 24) dX9_owes_20 (by decide) ?_
    refine aw_iret dX9_owes_24 (Nat.zero_le _) (Nat.zero_le _) ?_
    refine ⟨rfl, ?_, rfl⟩
    first | (rw [if_pos c_6, owM, nI_clamp (n := p) (by omega), nI_clamp (n := q) (by omega), nI_clamp (by omega)]) | (rw [if_neg (by rw [c_6]; decide)])
set_option maxRecDepth 100000 in
set_option maxHeartbeats 4000000 in
theorem c_X9_pays {l : Launch} {D : va_G} {tc : Nat → ClassId} (I F : Nat → Nat → Int32) {c : Nat} (hc : c ≤ 6) (hI5 : I 0 5 = nI c) (x y w : Int32) : AM l D tc yX9_pays cX9_pays 4 (some .int) 2 43 0 0 [.ref 0, .int x, .int y, .int w] 15 (hM I F) (fun v n1 h1 => n1 = 15 ∧ (v = some (.int (if (sP c x && sP c y && !decide (x = y)) then (if sW w 1 99 then (if w ≤ owM F x y then owM F x y - w else -3) else -2) else -1)) ∧ h1 = hM I (if (sP c x && sP c y && !decide (x = y)) then (if sW w 1 99 then (if w ≤ owM F x y then st_F F 7 (upd (F 7) (6 * x.toNatClampNeg + y.toNatClampNeg) (owM F x y - w)) else F) else F) else F))) := by
  refine am_of (L := [some (.ref 0), some (.int x), some (.int y), some (.int w)]) (by decide +kernel) (Nat.le_of_ble_eq_true rfl) rfl ?_
  refine aw_aload_n dX9_pays_0 rfl rfl ?_
  refine aw_iload_n dX9_pays_1 rfl rfl ?_
  refine aw_iload_n dX9_pays_2 rfl rfl ?_
  refine aw_callV cw_X9_areTwo ml_X9_151 im_X9_areTwo sl_X9_X9_areTwo rfl (by decide) rfl (c_X9_areTwo _ _ hc hI5 _ _) ⟨Nat.le_of_ble_eq_true rfl, Nat.le_of_ble_eq_true rfl⟩ ⟨Nat.zero_le _, Nat.zero_le _⟩ rfl rfl (Nat.le_of_ble_eq_true rfl) dX9_pays_3 ?_
  rintro _ _ ⟨rfl, rfl⟩
  refine aw_ifB_ne (tgt := 11) dX9_pays_6 (by decide) (fun c_6 => ?_) (fun c_6 => ?_)
  · refine aw_iload_n dX9_pays_11 rfl rfl ?_
    refine aw_iconst (v := 1) dX9_pays_12 (by decide) ?_
    refine aw_bipush (v := (99)) dX9_pays_13 (by decide) ?_
    refine aw_callS cw_X9_within ml_X9_58 sm_X9_within (c_X9_within _ _ _ _ _) ⟨Nat.le_of_ble_eq_true rfl, Nat.le_of_ble_eq_true rfl⟩ ⟨Nat.zero_le _, Nat.zero_le _⟩ rfl rfl (Nat.le_of_ble_eq_true rfl) dX9_pays_15 ?_
    rintro _ _ ⟨rfl, rfl⟩
    refine aw_ifB_ne (tgt := 24) dX9_pays_18 (by decide) (fun c_18 => ?_) (fun c_18 => ?_)
    · refine aw_aload_n dX9_pays_24 rfl rfl ?_
      refine aw_get fd_X9_28_9 dX9_pays_25 (by decide) rfl rfl ?_
      refine aw_bipush (v := (6)) dX9_pays_28 (by decide) ?_
      refine aw_iload_n dX9_pays_30 rfl rfl ?_
      refine aw_imul dX9_pays_31 ?_
      refine aw_iload_n dX9_pays_32 rfl rfl ?_
      refine aw_iadd dX9_pays_33 ?_
      obtain ⟨p, q, hp, hq, hpq, rfl, rfl⟩ := two_ex hc c_6
      rw [ix6]
      have e3 : owM F (nI p) (nI q) = F 7 (nI (6 * p + q)).toNatClampNeg := by rw [owM, nI_clamp (n := p) (by omega), nI_clamp (n := q) (by omega), nI_clamp (by omega)]
      refine aw_iald dX9_pays_34 (by decide) rfl (vp_in_nI (by omega) (by decide)) ?_
      refine aw_iload_n dX9_pays_35 rfl rfl ?_
      refine aw_icmp_ge (tgt := 42) dX9_pays_36 (by decide) (fun c_36 => ?_) (fun c_36 => ?_)
      · refine aw_aload_n dX9_pays_42 rfl rfl ?_
        refine aw_get fd_X9_28_9 dX9_pays_43 (by decide) rfl rfl ?_
        refine aw_bipush (v := (6)) dX9_pays_46 (by decide) ?_
        refine aw_iload_n dX9_pays_48 rfl rfl ?_
        refine aw_imul dX9_pays_49 ?_
        refine aw_iload_n dX9_pays_50 rfl rfl ?_
        refine aw_iadd dX9_pays_51 ?_
        rw [ix6]
        refine aw_dup2 dX9_pays_52 rfl rfl ?_
        refine aw_iald dX9_pays_53 (by decide) rfl (vp_in_nI (by omega) (by decide)) ?_
        refine aw_iload_n dX9_pays_54 rfl rfl ?_
        refine aw_isub dX9_pays_55 ?_
        refine aw_iasti dX9_pays_56 (by decide) rfl (fun _ => rfl) (vp_in_nI (by omega) (by decide)) ?_
        refine aw_aload_n dX9_pays_57 rfl rfl ?_
        refine aw_get fd_X9_28_9 dX9_pays_58 (by decide) rfl rfl ?_
        refine aw_bipush (v := (6)) dX9_pays_61 (by decide) ?_
        refine aw_iload_n dX9_pays_63 rfl rfl ?_
        refine aw_imul dX9_pays_64 ?_
        refine aw_iload_n dX9_pays_65 rfl rfl ?_
        refine aw_iadd dX9_pays_66 ?_
        rw [ix6]
        refine aw_iald dX9_pays_67 (by decide) rfl (vp_in_nI (by omega) (by decide)) ?_
        refine aw_iret dX9_pays_68 (Nat.zero_le _) (Nat.zero_le _) ?_
        rw [if_pos c_6, if_pos c_6, if_pos c_18, if_pos c_18, if_pos (by rw [e3]; exact c_36), if_pos (by rw [e3]; exact c_36), e3]
        refine ⟨rfl, ?_, ?_⟩
        · show some (Value.int (st_F F 7 (upd (F 7) (nI (6 * p + q)).toNatClampNeg _) 7 (nI (6 * p + q)).toNatClampNeg)) = _
          rw [st_Fs]
          simp [upd]
        · rw [nI_clamp (n := p) (by omega), nI_clamp (n := q) (by omega), nI_clamp (n := 6 * p + q) (by omega)]
      · refine aw_bipush (v := (-3)) dX9_pays_39 (by decide) ?_
        refine aw_iret dX9_pays_41 (Nat.zero_le _) (Nat.zero_le _) ?_
        rw [if_pos c_6, if_pos c_6, if_pos c_18, if_pos c_18, if_neg (by rw [e3]; exact c_36), if_neg (by rw [e3]; exact c_36)]
        exact ⟨rfl, rfl, rfl⟩
    · refine aw_bipush (v := (-2)) dX9_pays_21 (by decide) ?_
      refine aw_iret dX9_pays_23 (Nat.zero_le _) (Nat.zero_le _) ?_
      rw [if_pos c_6, if_pos c_6, if_neg (by rw [c_18]; decide), if_neg (by rw [c_18]; decide)]
      exact ⟨rfl, rfl, rfl⟩
  · refine aw_iconst (v := (-1)) dX9_pays_9 (by decide) ?_
    refine aw_iret dX9_pays_10 (Nat.zero_le _) (Nat.zero_le _) ?_
    rw [if_neg (by rw [c_6]; decide), if_neg (by rw [c_6]; decide)]
    exact ⟨rfl, rfl, rfl⟩
set_option maxRecDepth 100000 in
set_option maxHeartbeats 4000000 in
theorem c_X9_balance_no {l : Launch} {D : va_G} {tc : Nat → ClassId} (I F : Nat → Nat → Int32) {c : Nat} (hc : c ≤ 6) (hI5 : I 0 5 = nI c) {x : Int32} (hx : sP c x = false) : AM l D tc yX9_balance cX9_balance 2 (some .int) 2 45 0 0 [.ref 0, .int x] 15 (hM I F) (fun v n1 h1 => n1 = 15 ∧ (v = some (.int (-1)) ∧ h1 = hM I F)) := by
  refine am_of (L := [some (.ref 0), some (.int x)]) (by decide +kernel) (Nat.le_of_ble_eq_true rfl) rfl ?_
  refine aw_aload_n dX9_balance_0 rfl rfl ?_
  refine aw_iload_n dX9_balance_1 rfl rfl ?_
  refine aw_callV cw_X9_isPerson ml_X9_120 im_X9_isPerson sl_X9_X9_isPerson rfl (by decide) rfl (c_X9_isPerson _ _ hc hI5 _) ⟨Nat.le_of_ble_eq_true rfl, Nat.le_of_ble_eq_true rfl⟩ ⟨Nat.zero_le _, Nat.zero_le _⟩ rfl rfl (Nat.le_of_ble_eq_true rfl) dX9_balance_2 ?_
  rintro _ _ ⟨rfl, rfl⟩
  rw [show b2i (sP c x) = 0 from by rw [hx]; rfl]
  refine aw_if_eq (tgt := 20) dX9_balance_5 (by decide) (fun _ => ?_) (fun c9 => absurd rfl c9)
  refine aw_iconst (v := (-1)) dX9_balance_20 (by decide) ?_
  refine aw_iret dX9_balance_21 (Nat.zero_le _) (Nat.zero_le _) ?_
  exact ⟨rfl, rfl, rfl⟩
set_option maxRecDepth 100000 in
set_option maxHeartbeats 4000000 in
theorem c_X9_balance {l : Launch} {D : va_G} {tc : Nat → ClassId} (I F : Nat → Nat → Int32) {c : Nat} (hc : c ≤ 6) (hI5 : I 0 5 = nI c) {p : Nat} (hp : p < c) : AM l D tc yX9_balance cX9_balance 2 (some .int) 2 45 0 0 [.ref 0, .int (nI p)] 15 (hM I F) (fun v n1 h1 => n1 = 15 ∧ (v = some (.int (10000 + blM F c p)) ∧ h1 = (hM I F))) := by
  refine am_of (L := [some (.ref 0), some (.int (nI p))]) (by decide +kernel) (Nat.le_of_ble_eq_true rfl) rfl ?_
  refine aw_aload_n dX9_balance_0 rfl rfl ?_
  refine aw_iload_n dX9_balance_1 rfl rfl ?_
  refine aw_callV cw_X9_isPerson ml_X9_120 im_X9_isPerson sl_X9_X9_isPerson rfl (by decide) rfl (c_X9_isPerson _ _ hc hI5 _) ⟨Nat.le_of_ble_eq_true rfl, Nat.le_of_ble_eq_true rfl⟩ ⟨Nat.zero_le _, Nat.zero_le _⟩ rfl rfl (Nat.le_of_ble_eq_true rfl) dX9_balance_2 ?_
  rintro _ _ ⟨rfl, rfl⟩
  rw [show b2i (sP c (nI p)) = 1 from by rw [sP_nI hc hp]; rfl]
  refine aw_if_eq (tgt := 20) dX9_balance_5 (by decide) (fun c9 => absurd c9 (by decide)) (fun _ => ?_)
  refine aw_sipush (v := (10000)) dX9_balance_8 (by decide) ?_
  refine aw_aload_n dX9_balance_11 rfl rfl ?_
  refine aw_iload_n dX9_balance_12 rfl rfl ?_
  refine aw_callV cw_X9_balanceOf ml_X9_171 im_X9_balanceOf sl_X9_X9_balanceOf rfl (by decide) rfl (c_X9_balanceOf _ _ hc hI5 (by omega)) ⟨Nat.le_of_ble_eq_true rfl, Nat.le_of_ble_eq_true rfl⟩ ⟨Nat.zero_le _, Nat.zero_le _⟩ rfl rfl (Nat.le_of_ble_eq_true rfl) dX9_balance_13 ?_
  rintro _ _ ⟨rfl, rfl⟩
  refine aw_iadd dX9_balance_16 ?_
  refine aw_goto (tgt := 21) dX9_balance_17 (by decide) ?_
  refine aw_iret dX9_balance_21 (Nat.zero_le _) (Nat.zero_le _) ?_
  exact ⟨rfl, rfl, rfl⟩
