/-! a text is taken: new people -/
def lk (x : Int32) : Nat := if x = 108 then 1 else if x = 117 then 4 else 3
theorem lk_k (x : Int32) : pKind (lk x) := by
  unfold lk pKind
  split
  · exact Or.inl rfl
  · split
    · exact Or.inr (Or.inr rfl)
    · exact Or.inr (Or.inl rfl)
def upk (pk : Nat → Nat) (j c : Nat) : Nat → Nat := fun i => if i = j then c else pk i
def IZ (I : Nat → Nat → Int32) (a : Nat) : Nat → Nat → Int32 := fun b => if b = a then fun _ => 0 else I b
def HG (G : Nat → Option Nat) (n : Nat) : Prop := ∀ p a, G p = some a → a < n
theorem entC_pk {pk pk' : Nat → Nat} {G : Nat → Option Nat} {a : Nat} {i f : Nat → Int32} (h : ∀ j, a = j + 30 → pk j = pk' j) : entC pk G a i f = entC pk' G a i f := by
  by_cases hb : a < 30
  · iterate 30 (cases a with | zero => rfl | succ a => _)
    omega
  · obtain ⟨j, rfl⟩ : ∃ j, a = j + 30 := ⟨a - 30, by omega⟩
    rw [entC_per, entC_per, h j rfl]
theorem new_hC {pk : Nat → Nat} {G : Nat → Option Nat} {I F : Nat → Nat → Int32} {j c : Nat} : aw_up (hC pk G I F) (j + 30) (.inr (c, [.int 0, .int 0, .int 0])) = hC (upk pk j c) G (IZ I (j + 30)) F := by
  funext a
  unfold aw_up
  by_cases e : a = j + 30
  · subst e
    rw [if_pos rfl]
    show _ = entC _ _ _ _ _
    rw [entC_per]
    unfold upk IZ
    simp
  · rw [if_neg e]
    show entC _ _ _ _ _ = entC _ _ _ _ _
    rw [show IZ I (j + 30) a = I a from if_neg e]
    exact entC_pk (fun i hi => (if_neg (fun q => e (by omega))).symm)
theorem G_hC {pk : Nat → Nat} {G G' : Nat → Option Nat} {I F : Nat → Nat → Int32} : aw_up (hC pk G I F) 2 (.inl (3, 6, .inr (.inr (.inr (.inr G'))))) = hC pk G' I F := by
  funext a
  unfold aw_up
  by_cases e : a = 2
  · subst e; rfl
  · rw [if_neg e]
    show entC _ _ _ _ _ = entC _ _ _ _ _
    match a, e with
    | 0, _ => rfl
    | 1, _ => rfl
    | 2, e => exact absurd rfl e
    | 3, _ => rfl
    | 4, _ => rfl
    | 5, _ => rfl
    | 6, _ => rfl
    | 7, _ => rfl
    | 8, _ => rfl
    | 9, _ => rfl
    | 10, _ => rfl
    | 11, _ => rfl
    | 12, _ => rfl
    | 13, _ => rfl
    | 14, _ => rfl
    | 15, _ => rfl
    | 16, _ => rfl
    | 17, _ => rfl
    | 18, _ => rfl
    | 19, _ => rfl
    | 20, _ => rfl
    | 21, _ => rfl
    | 22, _ => rfl
    | 23, _ => rfl
    | 24, _ => rfl
    | 25, _ => rfl
    | 26, _ => rfl
    | 27, _ => rfl
    | 28, _ => rfl
    | 29, _ => rfl
    | a + 30, _ => rfl
theorem loL {n : Nat} (vs : List Value) (h : ∀ v ∈ vs, aw_lo n v) {c : Nat} : aw_loE n (.inr (c, vs)) := h
theorem lo_r {n a : Nat} (h : a < n) : aw_lo n (.ref a) := fun b e => by cases e; exact h
theorem lo_i {n : Nat} (x : Int32) : aw_lo n (.int x) := fun b e => by cases e
theorem lo_nil {n : Nat} : ∀ v ∈ ([] : List Value), aw_lo n v := fun v h => by cases h
theorem lo_c {n : Nat} {w : Value} {vs : List Value} (h : aw_lo n w) (hs : ∀ v ∈ vs, aw_lo n v) : ∀ v ∈ w :: vs, aw_lo n v := fun v hv => by
  rcases List.mem_cons.mp hv with rfl | hv
  · exact h
  · exact hs v hv
theorem loC {pk : Nat → Nat} {G : Nat → Option Nat} {I F : Nat → Nat → Int32} {n : Nat} (hn : 30 ≤ n) (hG : HG G n) : ∀ k, k < n → aw_loE n (hC pk G I F k) := by
  intro k hk
  have r : ∀ a : Nat, a < 30 → aw_lo n (.ref a) := fun a ha => lo_r (Nat.lt_of_lt_of_le ha hn)
  match k, hk with
  | 0, _ => exact lo_c (r 1 (by decide)) (lo_c (r 2 (by decide)) (lo_c (r 3 (by decide)) (lo_c (r 4 (by decide)) (lo_c (r 7 (by decide)) (lo_c (r 17 (by decide)) (lo_c (r 21 (by decide)) (lo_c (lo_i _) (lo_c (lo_i _) (lo_c (lo_i _) (lo_c (lo_i _) (lo_c (lo_i _) lo_nil)))))))))))
  | 1, _ =>
    refine (show ∀ j a : Nat, (if j < 4 then some (22 + j) else none) = some a → a < n from ?_)
    intro j a h
    split at h
    · cases h
      exact Nat.lt_of_lt_of_le (by omega) hn
    · cases h
  | 2, _ => exact fun j a h => hG j a h
  | 3, _ => trivial
  | 4, _ => exact lo_c (r 5 (by decide)) (lo_c (r 6 (by decide)) (lo_c (lo_i _) (lo_c (lo_i _) (lo_c (lo_i _) lo_nil))))
  | 5, _ => trivial
  | 6, _ => trivial
  | 7, _ => exact lo_c (r 8 (by decide)) (lo_c (r 15 (by decide)) (lo_c (r 16 (by decide)) lo_nil))
  | 8, _ =>
    refine (show ∀ j a : Nat, (if j < 6 then some (9 + j) else none) = some a → a < n from ?_)
    intro j a h
    split at h
    · cases h
      exact Nat.lt_of_lt_of_le (by omega) hn
    · cases h
  | 9, _ => trivial
  | 10, _ => trivial
  | 11, _ => trivial
  | 12, _ => trivial
  | 13, _ => trivial
  | 14, _ => trivial
  | 15, _ => trivial
  | 16, _ => trivial
  | 17, _ => exact lo_c (r 18 (by decide)) (lo_c (r 19 (by decide)) (lo_c (r 20 (by decide)) (lo_c (lo_i _) lo_nil)))
  | 18, _ => trivial
  | 19, _ => trivial
  | 20, _ => trivial
  | 21, _ => exact lo_c (lo_i _) lo_nil
  | 22, _ => exact lo_c (r 26 (by decide)) (lo_c (lo_i _) (lo_c (lo_i _) (lo_c (lo_i _) lo_nil)))
  | 23, _ => exact lo_c (r 27 (by decide)) (lo_c (lo_i _) (lo_c (lo_i _) (lo_c (lo_i _) lo_nil)))
  | 24, _ => exact lo_c (r 28 (by decide)) (lo_c (lo_i _) (lo_c (lo_i _) (lo_c (lo_i _) lo_nil)))
  | 25, _ => exact lo_c (r 29 (by decide)) (lo_c (lo_i _) (lo_c (lo_i _) (lo_c (lo_i _) lo_nil)))
  | 26, _ => trivial
  | 27, _ => trivial
  | 28, _ => trivial
  | 29, _ => trivial
  | a + 30, _ => exact lo_c (lo_i _) (lo_c (lo_i _) (lo_c (lo_i _) lo_nil))
theorem loLs {n : Nat} {L : List (Option Value)} (h : ∀ v, some v ∈ L → aw_lo n v) : ∀ (i : Nat) (v : Value), L[i]? = some (some v) → aw_lo n v := fun i v hi => h v (List.mem_of_getElem? hi)
theorem los_n {n : Nat} : ∀ v, some v ∈ ([] : List (Option Value)) → aw_lo n v := fun v h => by cases h
theorem los_c {n : Nat} {w : Option Value} {vs : List (Option Value)} (h : ∀ v, w = some v → aw_lo n v) (hs : ∀ v, some v ∈ vs → aw_lo n v) : ∀ v, some v ∈ w :: vs → aw_lo n v := fun v hv => by
  rcases List.mem_cons.mp hv with e | hv
  · exact h v e.symm
  · exact hs v hv
theorem los_i {n : Nat} {x : Int32} : ∀ v, some (Value.int x) = some v → aw_lo n v := fun v e => by cases e; exact lo_i x
theorem los_r {n a : Nat} (h : a < n) : ∀ v, some (Value.ref a) = some v → aw_lo n v := fun v e => by cases e; exact lo_r h

set_option maxRecDepth 100000 in
set_option maxHeartbeats 4000000 in
theorem c_X8_newPerson {l : Launch} {D : va_G} {tc : Nat → ClassId} (pk : Nat → Nat) (G : Nat → Option Nat) (I F : Nat → Nat → Int32) (j : Nat) (hG : HG G (j + 30)) (a b c d : Int32) : AM l D tc yX8_newPerson cX8_newPerson 4 (some (.object "StepBack$Plain")) 4 90 1 3 [.int a, .int b, .int c, .int d] (j + 30) (hC pk G I F) (fun v n1 h1 => n1 = j + 30 + 1 ∧ v = some (.ref (j + 30)) ∧ h1 = hC (upk pk j (lk a)) G (pi3 (IZ I (j + 30)) (j + 30) b c d) F) := by
  refine am_of (L := [some (.int a), some (.int b), some (.int c), some (.int d)]) (by decide +kernel) (Nat.le_of_ble_eq_true rfl) rfl ?_
  refine aw_iload_n dX8_newPerson_0 rfl rfl ?_
  by_cases e_1_108 : a = 108
  · refine aw_lookupC (off := 38) (tgt := 39) e_1_108 dX8_newPerson_1 (by decide) (by decide) (by decide) ?_
    refine aw_new (ci := 1) (fs := [.int 0, .int 0, .int 0]) cl_X8_257 it_X1 in_X1 ig_X1 tyX1_ok rfl (fun j hj => by rcases (show j = 0 ∨ j = 1 ∨ j = 2 by omega) with rfl | rfl | rfl <;> rfl) (lo_c (lo_i _) (lo_c (lo_i _) (lo_c (lo_i _) lo_nil))) (Nat.le_of_ble_eq_true rfl) (Nat.le_of_ble_eq_true rfl) (loLs (los_c los_i (los_c los_i (los_c los_i (los_c los_i los_n))))) lo_nil (loC (by omega) hG) dX8_newPerson_39 ?_
    rw [new_hC]
    refine aw_dup dX8_newPerson_42 rfl ?_
    refine aw_iload_n dX8_newPerson_43 rfl rfl ?_
    refine aw_iload_n dX8_newPerson_44 rfl rfl ?_
    refine aw_iload_n dX8_newPerson_45 rfl rfl ?_
    refine aw_callI cw_X1_init ml_X8_279 im_X1_init rfl (c_X1_init_1 (upk pk j 1) G (IZ I (j + 30)) F (j + 30 + 1) (by omega) (if_pos rfl) b c d) ⟨Nat.le_of_ble_eq_true rfl, Nat.le_of_ble_eq_true rfl⟩ ⟨(Nat.le_of_ble_eq_true rfl), (Nat.le_of_ble_eq_true rfl)⟩ rfl rfl (Nat.le_of_ble_eq_true rfl) dX8_newPerson_46 ?_
    rintro _ _ ⟨rfl, rfl⟩
    refine aw_aret dX8_newPerson_49 (Or.inl ⟨_, rfl⟩) (Or.inr ⟨_, rfl⟩) (Nat.le_of_ble_eq_true rfl) (Nat.le_of_ble_eq_true rfl) ?_
    have e9 : lk a = 1 := by simp [lk, *]
    rw [e9]
    exact ⟨rfl, rfl, rfl⟩
  by_cases e_1_117 : a = 117
  · refine aw_lookupC (off := 27) (tgt := 28) e_1_117 dX8_newPerson_1 (by decide) (by decide) (by decide) ?_
    refine aw_new (ci := 4) (fs := [.int 0, .int 0, .int 0]) cl_X8_255 it_X4 in_X4 ig_X4 tyX4_ok rfl (fun j hj => by rcases (show j = 0 ∨ j = 1 ∨ j = 2 by omega) with rfl | rfl | rfl <;> rfl) (lo_c (lo_i _) (lo_c (lo_i _) (lo_c (lo_i _) lo_nil))) (Nat.le_of_ble_eq_true rfl) (Nat.le_of_ble_eq_true rfl) (loLs (los_c los_i (los_c los_i (los_c los_i (los_c los_i los_n))))) lo_nil (loC (by omega) hG) dX8_newPerson_28 ?_
    rw [new_hC]
    refine aw_dup dX8_newPerson_31 rfl ?_
    refine aw_iload_n dX8_newPerson_32 rfl rfl ?_
    refine aw_iload_n dX8_newPerson_33 rfl rfl ?_
    refine aw_iload_n dX8_newPerson_34 rfl rfl ?_
    refine aw_callI cw_X4_init ml_X8_277 im_X4_init rfl (c_X4_init_4 (upk pk j 4) G (IZ I (j + 30)) F (j + 30 + 1) (by omega) (if_pos rfl) b c d) ⟨Nat.le_of_ble_eq_true rfl, Nat.le_of_ble_eq_true rfl⟩ ⟨(Nat.le_of_ble_eq_true rfl), (Nat.le_of_ble_eq_true rfl)⟩ rfl rfl (Nat.le_of_ble_eq_true rfl) dX8_newPerson_35 ?_
    rintro _ _ ⟨rfl, rfl⟩
    refine aw_aret dX8_newPerson_38 (Or.inl ⟨_, rfl⟩) (Or.inr ⟨_, rfl⟩) (Nat.le_of_ble_eq_true rfl) (Nat.le_of_ble_eq_true rfl) ?_
    have e9 : lk a = 4 := by simp [lk, *]
    rw [e9]
    exact ⟨rfl, rfl, rfl⟩
  refine aw_lookup (off := 49) (tgt := 50) dX8_newPerson_1 (by decide) (aw_lk2 (by decide) (by decide) e_1_108 e_1_117) (by decide) ?_
  refine aw_new (ci := 3) (fs := [.int 0, .int 0, .int 0]) cl_X8_17 it_X3 in_X3 ig_X3 tyX3_ok rfl (fun j hj => by rcases (show j = 0 ∨ j = 1 ∨ j = 2 by omega) with rfl | rfl | rfl <;> rfl) (lo_c (lo_i _) (lo_c (lo_i _) (lo_c (lo_i _) lo_nil))) (Nat.le_of_ble_eq_true rfl) (Nat.le_of_ble_eq_true rfl) (loLs (los_c los_i (los_c los_i (los_c los_i (los_c los_i los_n))))) lo_nil (loC (by omega) hG) dX8_newPerson_50 ?_
  rw [new_hC]
  refine aw_dup dX8_newPerson_53 rfl ?_
  refine aw_iload_n dX8_newPerson_54 rfl rfl ?_
  refine aw_iload_n dX8_newPerson_55 rfl rfl ?_
  refine aw_iload_n dX8_newPerson_56 rfl rfl ?_
  refine aw_callI cw_X3_init ml_X8_280 im_X3_init rfl (c_X3_init_3 (upk pk j 3) G (IZ I (j + 30)) F (j + 30 + 1) (by omega) (if_pos rfl) b c d) ⟨Nat.le_of_ble_eq_true rfl, Nat.le_of_ble_eq_true rfl⟩ ⟨(Nat.le_of_ble_eq_true rfl), (Nat.le_of_ble_eq_true rfl)⟩ rfl rfl (Nat.le_of_ble_eq_true rfl) dX8_newPerson_57 ?_
  rintro _ _ ⟨rfl, rfl⟩
  refine aw_aret dX8_newPerson_60 (Or.inl ⟨_, rfl⟩) (Or.inr ⟨_, rfl⟩) (Nat.le_of_ble_eq_true rfl) (Nat.le_of_ble_eq_true rfl) ?_
  have e9 : lk a = 3 := by simp [lk, *]
  rw [e9]
  exact ⟨rfl, rfl, rfl⟩
set_option maxRecDepth 100000 in
set_option maxHeartbeats 4000000 in
theorem lp_X8_firstFault {l : Launch} {D : va_G} {tc : Nat → ClassId} (pk : Nat → Nat) (G : Nat → Option Nat) (I F : Nat → Nat → Int32) (n : Nat) (hn : 30 ≤ n) {k : Nat} (hk : k < 4) {z : Nat} (hz : z ≤ 60) (hI : I (22 + k) 3 = nI z) (x : Int32) {b : Nat} (hb : b ≤ 60) : ∀ (m i : Nat), i + m = b → ffN (fun j => sRead (I (22 + k) 3) (F (26 + k)) (x + nI j)) (ffE (nI b)) i m = ffN (fun j => sRead (I (22 + k) 3) (F (26 + k)) (x + nI j)) (ffE (nI b)) 0 b → AW l D tc yX8_firstFault.cls cX8_firstFault 4 (some .int) { frames := 3, cells := 0, slots := 0, locals := 63 } n 0 0 (fun v n1 h1 => n1 = n ∧ (v = some (.int (ffN (fun j => sRead (I (22 + k) 3) (F (26 + k)) (x + nI j)) (ffE (nI b)) 0 b)) ∧ h1 = (hC pk G I F))) 2 [some (.ref (22 + k)), some (.int x), some (.int (nI b)), some (.int (nI i))] [] n (hC pk G I F) 0 0 := by
  intro m
  induction m using Nat.strongRecOn with
  | _ m ih =>
    intro i hi hq
    refine aw_iload_n dX8_firstFault_2 rfl rfl ?_
    refine aw_iload_n dX8_firstFault_3 rfl rfl ?_
    refine aw_icmp_ge (tgt := 29) dX8_firstFault_4 (by decide) (fun c_4 => ?_) (fun c_4 => ?_)
    · have hi6 := lp_ge (N := b) (by omega) (by omega) c_4
      have hm : m = 0 := by omega
      subst hm
      rw [← hq]
      refine aw_iload_n dX8_firstFault_29 rfl rfl ?_
      refine aw_bipush (v := (10)) dX8_firstFault_30 (by decide) ?_
      refine aw_icmp_lt (tgt := 47) dX8_firstFault_32 (by decide) (fun c_32 => ?_) (fun c_32 => ?_)
      · refine aw_iconst (v := 0) dX8_firstFault_47 (by decide) ?_
        refine aw_istore_n dX8_firstFault_48 rfl (by decide) rfl ?_
        refine aw_iload_n dX8_firstFault_49 rfl rfl ?_
        refine aw_if_eq (tgt := 58) dX8_firstFault_50 (by decide) (fun _ => ?_) (fun c9 => absurd rfl c9)
        refine aw_iload_n dX8_firstFault_58 rfl rfl ?_
        refine aw_iret dX8_firstFault_59 (Nat.zero_le _) (Nat.zero_le _) ?_
        refine ⟨rfl, ?_, rfl⟩
        simp [ffN, ffE, *]
      · refine aw_iload_n dX8_firstFault_35 rfl rfl ?_
        refine aw_iconst (v := 2) dX8_firstFault_36 (by decide) ?_
        refine aw_isub dX8_firstFault_37 ?_
        refine aw_iconst (v := 4) dX8_firstFault_38 (by decide) ?_
        refine aw_irem dX8_firstFault_39 (by decide) ?_
        refine aw_if_ne (tgt := 47) dX8_firstFault_40 (by decide) (fun c_40 => ?_) (fun c_40 => ?_)
        · refine aw_iconst (v := 0) dX8_firstFault_47 (by decide) ?_
          refine aw_istore_n dX8_firstFault_48 rfl (by decide) rfl ?_
          refine aw_iload_n dX8_firstFault_49 rfl rfl ?_
          refine aw_if_eq (tgt := 58) dX8_firstFault_50 (by decide) (fun _ => ?_) (fun c9 => absurd rfl c9)
          refine aw_iload_n dX8_firstFault_58 rfl rfl ?_
          refine aw_iret dX8_firstFault_59 (Nat.zero_le _) (Nat.zero_le _) ?_
          refine ⟨rfl, ?_, rfl⟩
          simp [ffN, ffE, *]
        · refine aw_iconst (v := 1) dX8_firstFault_43 (by decide) ?_
          refine aw_goto (tgt := 48) dX8_firstFault_44 (by decide) ?_
          refine aw_istore_n dX8_firstFault_48 rfl (by decide) rfl ?_
          refine aw_iload_n dX8_firstFault_49 rfl rfl ?_
          refine aw_if_eq (tgt := 58) dX8_firstFault_50 (by decide) (fun c9 => absurd c9 (by decide)) (fun _ => ?_)
          refine aw_bipush (v := (-9)) dX8_firstFault_53 (by decide) ?_
          refine aw_goto (tgt := 59) dX8_firstFault_55 (by decide) ?_
          refine aw_iret dX8_firstFault_59 (Nat.zero_le _) (Nat.zero_le _) ?_
          refine ⟨rfl, ?_, rfl⟩
          simp [ffN, ffE, *]
    · have hi6 := lp_lt (N := b) (by omega) c_4
      refine aw_aload_n dX8_firstFault_7 rfl rfl ?_
      refine aw_iload_n dX8_firstFault_8 rfl rfl ?_
      refine aw_iload_n dX8_firstFault_9 rfl rfl ?_
      refine aw_iadd dX8_firstFault_10 ?_
      refine aw_callV cw_X6_read ml_X8_226 im_X6_read sl_X6_X6_read rfl (by omega) (entC_row _ _ hk _ _) (c_X6_read pk G _ _ n hn _ hk hz hI _) ⟨Nat.le_of_ble_eq_true rfl, Nat.le_of_ble_eq_true rfl⟩ ⟨Nat.zero_le _, Nat.zero_le _⟩ rfl rfl (Nat.le_of_ble_eq_true rfl) dX8_firstFault_11 ?_
      rintro _ _ ⟨rfl, rfl⟩
      refine aw_iload_n dX8_firstFault_14 rfl rfl ?_
      refine aw_callS cw_X8_isFit ml_X8_264 sm_X8_isFit (c_X8_isFit _ _ _ _) ⟨Nat.le_of_ble_eq_true rfl, Nat.le_of_ble_eq_true rfl⟩ ⟨Nat.zero_le _, Nat.zero_le _⟩ rfl rfl (Nat.le_of_ble_eq_true rfl) dX8_firstFault_15 ?_
      rintro _ _ ⟨rfl, rfl⟩
      refine aw_ifB_ne (tgt := 23) dX8_firstFault_18 (by decide) (fun c_18 => ?_) (fun c_18 => ?_)
      · refine aw_iinc (v := 1) dX8_firstFault_23 rfl (by decide) (by decide) rfl ?_
        refine aw_goto (tgt := 2) dX8_firstFault_26 (by decide) ?_
        rw [nI_1]
        obtain ⟨m2, rfl⟩ : ∃ m2, m = m2 + 1 := ⟨m - 1, by omega⟩
        exact ih m2 (by omega) (i + 1) (by omega) (by rw [← hq, ffN, if_pos c_18])
      · refine aw_iload_n dX8_firstFault_21 rfl rfl ?_
        refine aw_iret dX8_firstFault_22 (Nat.zero_le _) (Nat.zero_le _) ?_
        obtain ⟨m2, rfl⟩ : ∃ m2, m = m2 + 1 := ⟨m - 1, by omega⟩
        refine ⟨rfl, ?_, rfl⟩
        rw [← hq, ffN, if_neg (by rw [c_18]; decide)]
set_option maxRecDepth 100000 in
set_option maxHeartbeats 4000000 in
theorem c_X8_firstFault {l : Launch} {D : va_G} {tc : Nat → ClassId} (pk : Nat → Nat) (G : Nat → Option Nat) (I F : Nat → Nat → Int32) (n : Nat) (hn : 30 ≤ n) {k : Nat} (hk : k < 4) {z : Nat} (hz : z ≤ 60) (hI : I (22 + k) 3 = nI z) (x : Int32) {b : Nat} (hb : b ≤ 60) : AM l D tc yX8_firstFault cX8_firstFault 4 (some .int) 3 63 0 0 [.ref (22 + k), .int x, .int (nI b)] n (hC pk G I F) (fun v n1 h1 => n1 = n ∧ (v = some (.int (ffN (fun j => sRead (I (22 + k) 3) (F (26 + k)) (x + nI j)) (ffE (nI b)) 0 b)) ∧ h1 = (hC pk G I F))) := by
  refine am_of (L := [some (.ref (22 + k)), some (.int x), some (.int (nI b)), none]) (by decide +kernel) (Nat.le_of_ble_eq_true rfl) rfl ?_
  refine aw_iconst (v := 0) dX8_firstFault_0 (by decide) ?_
  refine aw_istore_n dX8_firstFault_1 rfl (by decide) rfl ?_
  exact lp_X8_firstFault pk G I F n hn hk hz hI x hb b 0 (by omega) rfl
theorem ff_ok {rd : Nat → Int32} {e : Int32} : ∀ (m i : Nat), i + m ≤ 60 → ffN rd e i m = -9 → e = -9 ∧ ∀ j, i ≤ j → j < i + m → sFit (rd j) (nI j) = true
  | 0, i, _, h => ⟨h, fun j h1 h2 => by omega⟩
  | m + 1, i, hm, h => by
    rw [ffN] at h
    by_cases hf : sFit (rd i) (nI i) = true
    · rw [if_pos hf] at h
      obtain ⟨h1, h2⟩ := ff_ok m (i + 1) (by omega) h
      refine ⟨h1, fun j q1 q2 => ?_⟩
      by_cases e9 : j = i
      · subst e9; exact hf
      · exact h2 j (by omega) (by omega)
    · rw [if_neg hf] at h
      have : ¬ nI i < 0 := nI_pos (by omega)
      rw [h] at this
      exact absurd (by decide) this
theorem ffE_dec : ∀ b, b ≤ 26 → ffE (nI b) = -9 → ∃ c, c ≤ 6 ∧ 2 ≤ c ∧ b = 2 + 4 * c := by
  have h : ∀ b, b ≤ 26 → ffE (nI b) = -9 → (b - 2) / 4 ≤ 6 ∧ 2 ≤ (b - 2) / 4 ∧ b = 2 + 4 * ((b - 2) / 4) := by decide +kernel
  exact fun b hb e => ⟨_, h b hb e⟩
theorem ff_c {rd : Nat → Int32} {b : Nat} (hb : b ≤ 60) (h : ffN rd (ffE (nI b)) 0 b = -9) : ∃ c, c ≤ 6 ∧ 2 ≤ c ∧ b = 2 + 4 * c := by
  obtain ⟨h1, h2⟩ := ff_ok b 0 (by omega) h
  refine ffE_dec b ?_ h1
  rcases Nat.lt_or_ge 26 b with q | q
  · have h3 := h2 26 (by omega) (by omega)
    have h4 : sFit (rd 26) (nI 26) = false := by
      unfold sFit
      rw [if_neg (by decide)]
    rw [h4] at h3
    cases h3
  · exact q
/-- the state behind i people -/
def pkT (pk : Nat → Nat) (b0 : Nat) (lt : Nat → Int32) (i : Nat) : Nat → Nat := fun j => if b0 ≤ j ∧ j < b0 + i then lk (lt (j - b0)) else pk j
def GT (G : Nat → Option Nat) (b0 i : Nat) : Nat → Option Nat := fun p => if p < i then some (b0 + p + 30) else G p
def IT (I : Nat → Nat → Int32) (b0 : Nat) (hs rm : Nat → Int32) (i : Nat) : Nat → Nat → Int32 := fun a => if b0 + 30 ≤ a ∧ a < b0 + i + 30 then (fun k => if k = 2 then rm (a - (b0 + 30)) else if k = 1 then hs (a - (b0 + 30)) else if k = 0 then nI (a - (b0 + 30)) else 0) else I a
theorem pkT_0 (pk : Nat → Nat) (b0 : Nat) (lt : Nat → Int32) : pkT pk b0 lt 0 = pk := by funext j; unfold pkT; rw [if_neg (by omega)]
theorem GT_0 (G : Nat → Option Nat) (b0 : Nat) : GT G b0 0 = G := by funext j; unfold GT; rw [if_neg (by omega)]
theorem IT_0 (I : Nat → Nat → Int32) (b0 : Nat) (hs rm : Nat → Int32) : IT I b0 hs rm 0 = I := by funext j; unfold IT; rw [if_neg (by omega)]
theorem pkT_s (pk : Nat → Nat) (b0 : Nat) (lt : Nat → Int32) (i : Nat) : upk (pkT pk b0 lt i) (b0 + i) (lk (lt i)) = pkT pk b0 lt (i + 1) := by
  funext j
  unfold upk pkT
  by_cases e : j = b0 + i
  · subst e
    rw [if_pos rfl, if_pos (by omega), show b0 + i - b0 = i by omega]
  · rw [if_neg e]
    by_cases q : b0 ≤ j ∧ j < b0 + i
    · rw [if_pos q, if_pos (by omega)]
    · rw [if_neg q, if_neg (by omega)]
theorem GT_s (G : Nat → Option Nat) (b0 i : Nat) : va_up (GT G b0 i) i (some (b0 + i + 30)) = GT G b0 (i + 1) := by
  funext j
  unfold va_up GT
  by_cases e : j = i
  · subst e; simp
  · by_cases q : j < i
    · simp [e, q, Nat.lt_succ_of_lt q]
    · simp [e, q, show ¬ j < i + 1 by omega]
theorem IT_s (I : Nat → Nat → Int32) (b0 : Nat) (hs rm : Nat → Int32) (i : Nat) : pi3 (IZ (IT I b0 hs rm i) (b0 + i + 30)) (b0 + i + 30) (nI i) (hs i) (rm i) = IT I b0 hs rm (i + 1) := by
  funext a k
  unfold pi3
  by_cases e : a = b0 + i + 30
  · subst e
    have e1 : IT I b0 hs rm (i + 1) (b0 + i + 30) k = (if k = 2 then rm i else if k = 1 then hs i else if k = 0 then nI i else 0) := by
      unfold IT
      rw [if_pos (by omega), show b0 + i + 30 - (b0 + 30) = i by omega]
    rw [e1]
    unfold st_I IZ upd
    simp
  · rw [st_In (by omega), st_In (by omega), st_In (by omega)]
    show IZ (IT I b0 hs rm i) (b0 + i + 30) a k = _
    rw [show IZ (IT I b0 hs rm i) (b0 + i + 30) a = IT I b0 hs rm i a from if_neg e]
    unfold IT
    by_cases q : b0 + 30 ≤ a ∧ a < b0 + i + 30
    · have q2 : b0 + 30 ≤ a ∧ a < b0 + (i + 1) + 30 := by omega
      rw [if_pos q, if_pos q2]
    · have q2 : ¬ (b0 + 30 ≤ a ∧ a < b0 + (i + 1) + 30) := by omega
      rw [if_neg q, if_neg q2]
theorem IT_lo {I : Nat → Nat → Int32} {b0 : Nat} {hs rm : Nat → Int32} {i a : Nat} (h : a < 30) : IT I b0 hs rm i a = I a := by unfold IT; rw [if_neg (by omega)]
theorem HG_T {G : Nat → Option Nat} {b0 : Nat} (hG : HG G (b0 + 30)) (i : Nat) : HG (GT G b0 i) (b0 + i + 30) := by
  intro p a h
  unfold GT at h
  by_cases q : p < i
  · rw [if_pos q] at h; cases h; omega
  · rw [if_neg q] at h
    have := hG p a h
    omega
theorem tk_c : ∀ c, c ≤ 6 → (if (6 : Int32) < (nI (2 + 4 * c) - 2) / 4 then 6 else (nI (2 + 4 * c) - 2) / 4) = nI c := by decide +kernel

set_option maxRecDepth 100000 in
set_option maxHeartbeats 4000000 in
theorem lp_X8_takeText {l : Launch} {D : va_G} {tc : Nat → ClassId} (pk : Nat → Nat) (G : Nat → Option Nat) (I F : Nat → Nat → Int32) (b0 : Nat) (hG : HG G (b0 + 30)) {k : Nat} (hk : k < 4) {z : Nat} (hz : z ≤ 60) (hI : I (22 + k) 3 = nI z) (x : Int32) {c : Nat} (hc : c ≤ 6) : ∀ (m i : Nat) (w : Option Value), i + m = c → AW l D tc yX8_takeText.cls cX8_takeText 6 none { frames := 5, cells := 6, slots := 18, locals := 113 } (b0 + 30) 6 18 (fun v n1 h1 => n1 = b0 + c + 30 ∧ v = none ∧ h1 = hC (pkT pk b0 (fun p => sRead (nI z) (F (26 + k)) (x + 2 + nI p * 4 + 1)) c) (GT G b0 c) (st_I (st_I (st_I (IT (st_I (st_I I 0 8 (sRead (nI z) (F (26 + k)) (x + 1) - 48)) 0 7 (nI c)) b0 (fun p => sRead (nI z) (F (26 + k)) (x + 2 + nI p * 4 + 2) - 48) (fun p => sRead (nI z) (F (26 + k)) (x + 2 + nI p * 4 + 3) - 48) c) 0 9 (nI (2 ^ c - 1))) 0 10 0) 17 3 0) (fgF F 6)) 31 [some (.ref 0), some (.ref (22 + k)), some (.int x), some (.int (nI (2 + 4 * c))), some (.int (nI i)), w] [] (b0 + i + 30) (hC (pkT pk b0 (fun p => sRead (nI z) (F (26 + k)) (x + 2 + nI p * 4 + 1)) i) (GT G b0 i) (IT (st_I (st_I I 0 8 (sRead (nI z) (F (26 + k)) (x + 1) - 48)) 0 7 (nI c)) b0 (fun p => sRead (nI z) (F (26 + k)) (x + 2 + nI p * 4 + 2) - 48) (fun p => sRead (nI z) (F (26 + k)) (x + 2 + nI p * 4 + 3) - 48) i) F) i (3 * i) := by
  intro m
  induction m using Nat.strongRecOn with
  | _ m ih =>
    intro i w hi
    have hI9 : IT (st_I (st_I I 0 8 (sRead (nI z) (F (26 + k)) (x + 1) - 48)) 0 7 (nI c)) b0 (fun p => sRead (nI z) (F (26 + k)) (x + 2 + nI p * 4 + 2) - 48) (fun p => sRead (nI z) (F (26 + k)) (x + 2 + nI p * 4 + 3) - 48) i (22 + k) 3 = nI z := (by rw [IT_lo (by omega)]; rw [st_In (by omega), st_In (by omega)]; exact hI)
    have hI7 : IT (st_I (st_I I 0 8 (sRead (nI z) (F (26 + k)) (x + 1) - 48)) 0 7 (nI c)) b0 (fun p => sRead (nI z) (F (26 + k)) (x + 2 + nI p * 4 + 2) - 48) (fun p => sRead (nI z) (F (26 + k)) (x + 2 + nI p * 4 + 3) - 48) i 0 7 = nI c := by rw [IT_lo (by omega)]; exact st_Is _ _ _ _
    refine aw_iload dX8_takeText_31 rfl ?_
    refine aw_aload_n dX8_takeText_33 rfl rfl ?_
    refine aw_get fd_X8_84_8 dX8_takeText_34 (by omega) rfl rfl ?_
    refine aw_icmp_ge (tgt := 98) dX8_takeText_37 (by decide) (fun c_37 => ?_) (fun c_37 => ?_)
    · have hi6 : i = c := lp_ge (by omega) (by omega) (by rw [← hI7]; exact c_37)
      subst hi6
      refine aw_aload_n dX8_takeText_98 rfl rfl ?_
      refine aw_aload_n dX8_takeText_99 rfl rfl ?_
      refine aw_callV cw_X8_everybody ml_X8_155 im_X8_everybody sl_X8_X8_everybody rfl (by omega) rfl (c_X8_everybody _ _ _ F (b0 + i + 30) (by omega)) ⟨Nat.le_of_ble_eq_true rfl, Nat.le_of_ble_eq_true rfl⟩ ⟨by show i ≤ 6; omega, by show 3 * i ≤ 18; omega⟩ rfl rfl (Nat.le_of_ble_eq_true rfl) dX8_takeText_100 ?_
      rintro _ _ ⟨rfl, rfl⟩
      rw [hI7, ev_nI i (by omega)]
      refine aw_puti fp_X8_109_8 dX8_takeText_103 (by omega) rfl rfl rfl (Nat.le_of_ble_eq_true rfl) rfl ?_
      refine aw_aload_n dX8_takeText_106 rfl rfl ?_
      refine aw_iconst (v := 0) dX8_takeText_107 (by decide) ?_
      refine aw_puti fp_X8_158_8 dX8_takeText_108 (by omega) rfl rfl rfl (Nat.le_of_ble_eq_true rfl) rfl ?_
      refine aw_aload_n dX8_takeText_111 rfl rfl ?_
      refine aw_get fd_X8_37_8 dX8_takeText_112 (by omega) rfl rfl ?_
      refine aw_callV cw_X0_forget ml_X8_274 im_X0_forget sl_X0_X0_forget rfl (by omega) rfl (c_X0_forget _ _ _ F (b0 + i + 30) (by omega)) ⟨Nat.le_of_ble_eq_true rfl, Nat.le_of_ble_eq_true rfl⟩ ⟨by show i ≤ 6; omega, by show 3 * i ≤ 18; omega⟩ rfl rfl (Nat.le_of_ble_eq_true rfl) dX8_takeText_115 ?_
      rintro _ _ ⟨rfl, rfl⟩
      refine aw_aload_n dX8_takeText_118 rfl rfl ?_
      refine aw_get fd_X8_44_8 dX8_takeText_119 (by omega) rfl rfl ?_
      refine aw_iconst (v := 0) dX8_takeText_122 (by decide) ?_
      refine aw_puti fp_X8_202_5 dX8_takeText_123 (by omega) rfl rfl rfl (Nat.le_of_ble_eq_true rfl) rfl ?_
      refine aw_vret dX8_takeText_126 (by omega) (by omega) ?_
      exact ⟨rfl, rfl, rfl⟩
    · have hi6 : i < c := lp_lt (N := c) (by omega) (by rw [← hI7]; exact c_37)
      refine aw_iload_n dX8_takeText_40 rfl rfl ?_
      refine aw_iconst (v := 2) dX8_takeText_41 (by decide) ?_
      refine aw_iadd dX8_takeText_42 ?_
      refine aw_iload dX8_takeText_43 rfl ?_
      refine aw_iconst (v := 4) dX8_takeText_45 (by decide) ?_
      refine aw_imul dX8_takeText_46 ?_
      refine aw_iadd dX8_takeText_47 ?_
      refine aw_istore dX8_takeText_48 (by decide) rfl ?_
      refine aw_aload_n dX8_takeText_50 rfl rfl ?_
      refine aw_get fd_X8_19_8 dX8_takeText_51 (by omega) rfl rfl ?_
      refine aw_iload dX8_takeText_54 rfl ?_
      refine aw_aload_n dX8_takeText_56 rfl rfl ?_
      refine aw_iload dX8_takeText_57 rfl ?_
      refine aw_iconst (v := 1) dX8_takeText_59 (by decide) ?_
      refine aw_iadd dX8_takeText_60 ?_
      refine aw_callV cw_X6_read ml_X8_226 im_X6_read sl_X6_X6_read rfl (by omega) (entC_row _ _ hk _ _) (c_X6_read _ _ _ F (b0 + i + 30) (by omega) _ hk hz hI9 _) ⟨Nat.le_of_ble_eq_true rfl, Nat.le_of_ble_eq_true rfl⟩ ⟨by show i ≤ 6; omega, by show 3 * i ≤ 18; omega⟩ rfl rfl (Nat.le_of_ble_eq_true rfl) dX8_takeText_61 ?_
      rintro _ _ ⟨rfl, rfl⟩
      rw [hI9]
      refine aw_iload dX8_takeText_64 rfl ?_
      refine aw_aload_n dX8_takeText_66 rfl rfl ?_
      refine aw_iload dX8_takeText_67 rfl ?_
      refine aw_iconst (v := 2) dX8_takeText_69 (by decide) ?_
      refine aw_iadd dX8_takeText_70 ?_
      refine aw_callV cw_X6_read ml_X8_226 im_X6_read sl_X6_X6_read rfl (by omega) (entC_row _ _ hk _ _) (c_X6_read _ _ _ F (b0 + i + 30) (by omega) _ hk hz hI9 _) ⟨Nat.le_of_ble_eq_true rfl, Nat.le_of_ble_eq_true rfl⟩ ⟨by show i ≤ 6; omega, by show 3 * i ≤ 18; omega⟩ rfl rfl (Nat.le_of_ble_eq_true rfl) dX8_takeText_71 ?_
      rintro _ _ ⟨rfl, rfl⟩
      rw [hI9]
      refine aw_bipush (v := (48)) dX8_takeText_74 (by decide) ?_
      refine aw_isub dX8_takeText_76 ?_
      refine aw_aload_n dX8_takeText_77 rfl rfl ?_
      refine aw_iload dX8_takeText_78 rfl ?_
      refine aw_iconst (v := 3) dX8_takeText_80 (by decide) ?_
      refine aw_iadd dX8_takeText_81 ?_
      refine aw_callV cw_X6_read ml_X8_226 im_X6_read sl_X6_X6_read rfl (by omega) (entC_row _ _ hk _ _) (c_X6_read _ _ _ F (b0 + i + 30) (by omega) _ hk hz hI9 _) ⟨Nat.le_of_ble_eq_true rfl, Nat.le_of_ble_eq_true rfl⟩ ⟨by show i ≤ 6; omega, by show 3 * i ≤ 18; omega⟩ rfl rfl (Nat.le_of_ble_eq_true rfl) dX8_takeText_82 ?_
      rintro _ _ ⟨rfl, rfl⟩
      rw [hI9]
      refine aw_bipush (v := (48)) dX8_takeText_85 (by decide) ?_
      refine aw_isub dX8_takeText_87 ?_
      refine aw_callSA (mc' := 1) (ms' := 3) cw_X8_newPerson ml_X8_270 sm_X8_newPerson (c_X8_newPerson _ _ _ F (b0 + i) (HG_T hG i) _ _ _ _) ⟨Nat.le_of_ble_eq_true rfl, Nat.le_of_ble_eq_true rfl⟩ ⟨by show i + 1 ≤ 6; omega, by show 3 * i + 3 ≤ 18; omega⟩ rfl rfl (Nat.le_of_ble_eq_true rfl) (loLs (los_c (los_r (by omega)) (los_c (los_r (by omega)) (los_c los_i (los_c los_i (los_c los_i (los_c los_i los_n))))))) (lo_c (lo_i _) (lo_c (lo_r (by omega)) lo_nil)) dX8_takeText_88 ?_
      rintro _ _ _ ⟨rfl, rfl, rfl⟩ -
      rw [pkT_s pk b0 (fun p => sRead (nI z) (F (26 + k)) (x + 2 + nI p * 4 + 1)) i, IT_s (st_I (st_I I 0 8 (sRead (nI z) (F (26 + k)) (x + 1) - 48)) 0 7 (nI c)) b0 (fun p => sRead (nI z) (F (26 + k)) (x + 2 + nI p * 4 + 2) - 48) (fun p => sRead (nI z) (F (26 + k)) (x + 2 + nI p * 4 + 3) - 48) i]
      refine aw_aast3 (ci := lk ((fun p => sRead (nI z) (F (26 + k)) (x + 2 + nI p * 4 + 1)) i)) (lk_k _) dX8_takeText_91 (by omega) (by omega) rfl (he_perc (j := b0 + i) (by unfold pkT; rw [if_pos (by omega), show b0 + i - b0 = i by omega])) (vp_in_nI (n := i) (by omega) (by decide)) (by rw [G_hC, nI_clamp (show i < 2 ^ 31 by omega), GT_s]) ?_
      refine aw_iinc (v := 1) dX8_takeText_92 rfl (by decide) (by decide) rfl ?_
      refine aw_goto (tgt := 31) dX8_takeText_95 (by decide) ?_
      rw [nI_1]
      exact ih (m - 1) (by omega) (i + 1) _ (by omega)
set_option maxRecDepth 100000 in
set_option maxHeartbeats 4000000 in
theorem c_X8_takeText {l : Launch} {D : va_G} {tc : Nat → ClassId} (pk : Nat → Nat) (G : Nat → Option Nat) (I F : Nat → Nat → Int32) (b0 : Nat) (hG : HG G (b0 + 30)) {k : Nat} (hk : k < 4) {z : Nat} (hz : z ≤ 60) (hI : I (22 + k) 3 = nI z) (x : Int32) {c : Nat} (hc : c ≤ 6) : AM l D tc yX8_takeText cX8_takeText 6 none 5 113 6 18 [.ref 0, .ref (22 + k), .int x, .int (nI (2 + 4 * c))] (b0 + 30) (hC pk G I F) (fun v n1 h1 => n1 = b0 + c + 30 ∧ v = none ∧ h1 = hC (pkT pk b0 (fun p => sRead (nI z) (F (26 + k)) (x + 2 + nI p * 4 + 1)) c) (GT G b0 c) (st_I (st_I (st_I (IT (st_I (st_I I 0 8 (sRead (nI z) (F (26 + k)) (x + 1) - 48)) 0 7 (nI c)) b0 (fun p => sRead (nI z) (F (26 + k)) (x + 2 + nI p * 4 + 2) - 48) (fun p => sRead (nI z) (F (26 + k)) (x + 2 + nI p * 4 + 3) - 48) c) 0 9 (nI (2 ^ c - 1))) 0 10 0) 17 3 0) (fgF F 6)) := by
  refine am_of (L := [some (.ref 0), some (.ref (22 + k)), some (.int x), some (.int (nI (2 + 4 * c))), none, none]) (by decide +kernel) (Nat.le_of_ble_eq_true rfl) rfl ?_
  refine aw_aload_n dX8_takeText_0 rfl rfl ?_
  refine aw_aload_n dX8_takeText_1 rfl rfl ?_
  refine aw_iload_n dX8_takeText_2 rfl rfl ?_
  refine aw_iconst (v := 1) dX8_takeText_3 (by decide) ?_
  refine aw_iadd dX8_takeText_4 ?_
  refine aw_callV cw_X6_read ml_X8_226 im_X6_read sl_X6_X6_read rfl (by omega) (entC_row _ _ hk _ _) (c_X6_read _ _ _ F (b0 + 30) (by omega) _ hk hz hI _) ⟨Nat.le_of_ble_eq_true rfl, Nat.le_of_ble_eq_true rfl⟩ ⟨Nat.zero_le _, Nat.zero_le _⟩ rfl rfl (Nat.le_of_ble_eq_true rfl) dX8_takeText_5 ?_
  rintro _ _ ⟨rfl, rfl⟩
  rw [hI]
  refine aw_bipush (v := (48)) dX8_takeText_8 (by decide) ?_
  refine aw_isub dX8_takeText_10 ?_
  refine aw_puti fp_X8_126_8 dX8_takeText_11 (by omega) rfl rfl rfl (Nat.le_of_ble_eq_true rfl) rfl ?_
  refine aw_aload_n dX8_takeText_14 rfl rfl ?_
  refine aw_iload_n dX8_takeText_15 rfl rfl ?_
  refine aw_iconst (v := 2) dX8_takeText_16 (by decide) ?_
  refine aw_isub dX8_takeText_17 ?_
  refine aw_iconst (v := 4) dX8_takeText_18 (by decide) ?_
  refine aw_idiv dX8_takeText_19 (by decide) ?_
  refine aw_bipush (v := (6)) dX8_takeText_20 (by decide) ?_
  refine aw_min ml_X8_259 ⟨Nat.le_of_ble_eq_true rfl, Nat.le_of_ble_eq_true rfl⟩ ⟨Nat.zero_le _, Nat.zero_le _⟩ (Nat.le_of_ble_eq_true rfl) dX8_takeText_22 ?_
  rw [tk_c c hc]
  refine aw_puti fp_X8_84_8 dX8_takeText_25 (by omega) rfl rfl rfl (Nat.le_of_ble_eq_true rfl) rfl ?_
  refine aw_iconst (v := 0) dX8_takeText_28 (by decide) ?_
  refine aw_istore dX8_takeText_29 (by decide) rfl ?_
  have hl := lp_X8_takeText (l := l) (D := D) (tc := tc) pk G I F b0 hG hk hz hI x hc c 0 none (by omega)
  rw [pkT_0, GT_0, IT_0] at hl
  exact hl
