/-- a set that falls into so many groups, each even -/
def PU (b : Nat → Int32) : Nat → Nat → Prop
  | 0, V => V = 0
  | n + 1, V => ∃ T, T ≠ 0 ∧ sub T V ∧ evS b 6 T = 0 ∧ PU b n (nd V T)
theorem PU_ev {b : Nat → Int32} : ∀ n V, PU b n V → evS b 6 V = 0
  | 0, V, h => by
    rw [show V = 0 from h]
    exact evS_0 b 6
  | n + 1, V, h => by
    obtain ⟨T, h1, h2, h3, h4⟩ := h
    rw [evS_nd h2, h3, PU_ev n _ h4]
    rfl
theorem GS_mono {b : Nat → Int32} {f : Nat → Nat} (h : GS b f) : ∀ B, B < 64 → ∀ A, sub A B → f A ≤ f B := by
  intro B
  induction B using Nat.strongRecOn with
  | _ B ih =>
    intro hB A hA
    by_cases e : A = B
    · rw [e]; exact Nat.le_refl _
    · have h0 : nd B A ≠ 0 := fun q => e (sub_eq hA (sub_nd.mp q))
      obtain ⟨p, hp⟩ := tb_ne h0
      rw [nd_tb] at hp
      simp only [Bool.and_eq_true, Bool.not_eq_true'] at hp
      have hB0 : B ≠ 0 := fun q => by
        rw [q, Nat.zero_testBit] at hp
        cases hp.1
      have hl : nd B (2 ^ p) < B := nd_lt' (by have := Nat.pow_pos (n := p) (show 0 < 2 by decide); omega) (sub_p.mpr hp.1)
      have h1 := ih _ hl (by omega) A (fun i hi => by
        rw [nd_tb, hA i hi, tb_p]
        have : p ≠ i := fun q => by
          rw [← q, hp.2] at hi
          cases hi
        simp [this])
      have h2 := (h.2 B hB hB0).1 p (tb_6 hB hp.1) hp.1
      omega
theorem PU_GS {b : Nat → Int32} {f : Nat → Nat} (h : GS b f) : ∀ n V, V < 64 → PU b n V → n ≤ f V
  | 0, _, _, _ => Nat.zero_le _
  | n + 1, V, hV, hP => by
    have hev := PU_ev _ _ hP
    obtain ⟨T, h1, h2, h3, h4⟩ := hP
    have ih := PU_GS h n (nd V T) (nd_64 hV) h4
    obtain ⟨p, hp⟩ := tb_ne h1
    have hpV := h2 p hp
    have hV0 : V ≠ 0 := fun q => by
      rw [q, Nat.zero_testBit] at hpV
      cases hpV
    have h5 := (h.2 V hV hV0).1 p (tb_6 hV hpV) hpV
    have hz : zz b V = 1 := if_pos hev
    have h6 := GS_mono h (nd V (2 ^ p)) (nd_64 hV) (nd V T) (fun i hi => by
      rw [nd_tb] at hi ⊢
      simp only [Bool.and_eq_true, Bool.not_eq_true'] at hi
      rw [hi.1, tb_p]
      have : p ≠ i := fun q => by
        rw [← q, hp] at hi
        cases hi.2
      simp [this])
    omega
theorem GS_PU {b : Nat → Int32} {f : Nat → Nat} (h : GS b f) : ∀ S, S < 64 → ∃ V, sub V S ∧ PU b (f S) V := by
  intro S
  induction S using Nat.strongRecOn with
  | _ S ih =>
    intro hS
    by_cases h0 : S = 0
    · subst h0
      rw [h.1]
      exact ⟨0, sub_refl _, rfl⟩
    · obtain ⟨p, hp6, hp, e⟩ := (h.2 S hS h0).2
      have hl : nd S (2 ^ p) < S := nd_lt' (by have := Nat.pow_pos (n := p) (show 0 < 2 by decide); omega) (sub_p.mpr hp)
      obtain ⟨V, v1, v2⟩ := ih _ hl (by omega)
      have v3 : sub V S := sub_trans v1 (nd_sub _ _)
      rw [e]
      by_cases hz : evS b 6 S = 0
      · rw [show zz b S = 1 from if_pos hz]
        refine ⟨S, sub_refl _, nd S V, fun q => ?_, nd_sub _ _, ?_, ?_⟩
        · have h1 := sub_nd.mp q p hp
          have h2 := v1 p h1
          rw [nd_tb, tb_p] at h2
          simp at h2
        · have h1 := evS_nd (b := b) (c := 6) v3
          rw [hz, PU_ev _ _ v2, Int32.zero_add] at h1
          exact h1.symm
        · rw [nd_nd v3]
          exact v2
      · rw [show zz b S = 0 from if_neg hz]
        exact ⟨V, v3, v2⟩
theorem PU_RS {b : Nat → Int32} {f : Nat → Nat} {u : Nat} (h : RS b f u) : ∀ n V, V ≤ u → PU b (n + 1) V → n + 1 ≤ f V
  | 0, V, hV, hP => by
    obtain ⟨T, h1, h2, h3, h4⟩ := hP
    have e : V = T := sub_eq (sub_nd.mp h4) h2
    subst e
    have := (h V hV h1).1 V ⟨h1, h2, h3, Or.inl rfl⟩
    unfold itV at this
    rw [if_pos rfl] at this
    exact this
  | n + 1, V, hV, hP => by
    obtain ⟨T, h1, h2, h3, h4⟩ := hP
    have hl := nd_lt' h1 h2
    have ih := PU_RS h n (nd V T) (by omega) h4
    have h0 : V ≠ 0 := by omega
    have hne : T ≠ V := fun q => by
      subst q
      obtain ⟨T2, q1, q2, _⟩ := h4
      obtain ⟨i, hi⟩ := tb_ne q1
      have := q2 i hi
      rw [nd_tb] at this
      cases e : T.testBit i <;> rw [e] at this <;> cases this
    have := (h V hV h0).1 T ⟨h1, h2, h3, Or.inr (by omega)⟩
    unfold itV at this
    rw [if_neg hne] at this
    omega
theorem RS_PU {b : Nat → Int32} {f : Nat → Nat} {u : Nat} (h : RS b f u) : ∀ V, V ≤ u → V ≠ 0 → 0 < f V → PU b (f V) V := by
  intro V
  induction V using Nat.strongRecOn with
  | _ V ih =>
    intro hV h0 hf
    obtain ⟨T, ⟨h1, h2, h3, h4⟩, e⟩ := (h V hV h0).2 hf
    rw [e]
    unfold itV
    by_cases q : T = V
    · rw [if_pos q]
      refine ⟨T, h1, h2, h3, ?_⟩
      show nd V T = 0
      exact sub_nd.mpr (by rw [q]; exact sub_refl _)
    · rw [if_neg q, Nat.add_comm]
      have hn0 : nd V T ≠ 0 := fun w => q (sub_eq h2 (sub_nd.mp w))
      exact ⟨T, h1, h2, h3, ih _ (nd_lt' h1 h2) (by have := nd_lt' h1 h2; omega) hn0 (h4.resolve_left q)⟩
/-- who is even may stand alone -/
theorem PU_one {b : Nat → Int32} {n V p : Nat} (hp : p < 6) (hV : V.testBit p = false) (hb : b p = 0) (h : PU b n V) : PU b (n + 1) (V ||| 2 ^ p) := by
  refine ⟨2 ^ p, by have := Nat.pow_pos (n := p) (show 0 < 2 by decide); omega, fun i hi => ?_, ?_, ?_⟩
  · rw [Nat.testBit_or, hi, Bool.or_true]
  · unfold evS
    have : ∀ c, sumN (fun i => if (2 ^ p).testBit i = true then b i else 0) c = 0 := fun c => by
      induction c with
      | zero => rfl
      | succ c ih =>
        rw [sumN, ih, tb_p]
        by_cases e : p = c
        · subst e
          simp [hb]
        · simp [e]
    exact this 6
  · have e : nd (V ||| 2 ^ p) (2 ^ p) = V := by
      apply Nat.eq_of_testBit_eq
      intro i
      rw [nd_tb, Nat.testBit_or, tb_p]
      by_cases q : p = i
      · subst q
        simp [hV]
      · simp [q]
    rw [e]
    exact h
/-- what is left of groups among the uneven -/
theorem PU_cut {b : Nat → Int32} {U : Nat} (hU : ∀ p, p < 6 → U.testBit p = false → b p = 0) : ∀ n V, V < 64 → PU b n V → ∃ m, PU b m (V &&& U) ∧ n ≤ m + szN 6 (nd V U)
  | 0, V, _, h => ⟨0, by rw [show V = 0 from h]; exact Nat.zero_and _, Nat.zero_le _⟩
  | n + 1, V, hV, h => by
    obtain ⟨T, h1, h2, h3, h4⟩ := h
    obtain ⟨m, m1, m2⟩ := PU_cut hU n (nd V T) (nd_64 hV) h4
    have hT : T < 64 := by have := sub_le h2; omega
    have hsub : sub (nd (nd V T) U) (nd V U) := fun i hi => by
      rw [nd_tb, nd_tb] at hi
      rw [nd_tb]
      cases e1 : V.testBit i <;> cases e2 : U.testBit i <;> rw [e1, e2] at hi <;> simp_all
    have hs := sz_sub ⟨_, nd_64 (nd_64 hV)⟩ ⟨_, nd_64 hV⟩ (sub_nd.mpr hsub)
    simp only at hs
    by_cases e : T &&& U = 0
    · refine ⟨m, ?_, ?_⟩
      · have e2 : V &&& U = nd V T &&& U := by
          apply Nat.eq_of_testBit_eq
          intro i
          have hi := congrArg (fun x => x.testBit i) e
          simp only [Nat.testBit_and, Nat.zero_testBit] at hi
          rw [Nat.testBit_and, Nat.testBit_and, nd_tb]
          cases e1 : V.testBit i <;> cases e2 : U.testBit i <;> cases e3 : T.testBit i <;> simp_all
        rw [e2]
        exact m1
      · have hne : nd (nd V T) U ≠ nd V U := fun q => by
          obtain ⟨i, hi⟩ := tb_ne h1
          have hi2 := congrArg (fun x => x.testBit i) e
          have hi3 := congrArg (fun x => x.testBit i) q
          simp only [Nat.testBit_and, Nat.zero_testBit, nd_tb] at hi2 hi3
          rw [h2 i hi] at hi3
          rw [hi] at hi2 hi3
          cases e2 : U.testBit i <;> rw [e2] at hi2 hi3 <;> simp at hi2 hi3
        have := hs.2 hne
        omega
    · refine ⟨m + 1, ⟨T &&& U, e, fun i hi => ?_, ?_, ?_⟩, by omega⟩
      · rw [Nat.testBit_and] at hi ⊢
        simp only [Bool.and_eq_true] at hi
        rw [h2 i hi.1, hi.2]
        rfl
      · rw [← h3]
        unfold evS
        refine sumN_c 6 (fun i hi => ?_)
        rw [Nat.testBit_and]
        cases q : U.testBit i
        · rw [hU i hi q]
          simp
        · simp
      · have e2 : nd (V &&& U) (T &&& U) = nd V T &&& U := by
          apply Nat.eq_of_testBit_eq
          intro i
          rw [nd_tb, Nat.testBit_and, Nat.testBit_and, Nat.testBit_and, nd_tb]
          cases V.testBit i <;> cases U.testBit i <;> cases T.testBit i <;> rfl
        rw [e2]
        exact m1
/-- the uneven, and with them those below j that are even -/
theorem PU_up {b : Nat → Int32} {U k : Nat} (hU6 : U < 64) (hU : ∀ p, p < 6 → U.testBit p = false → b p = 0) (h : PU b k U) : ∀ j, j ≤ 6 → ∃ V, PU b (k + szN 6 (nd (2 ^ j - 1) U)) V ∧ ∀ i, V.testBit i = (U.testBit i || decide (i < j))
  | 0, _ => ⟨U, by
      have e : nd (2 ^ 0 - 1) U = 0 := sub_nd.mpr (fun i hi => by
        rw [show 2 ^ 0 - 1 = 0 from rfl, Nat.zero_testBit] at hi
        cases hi)
      rw [e]
      exact h, fun i => by simp⟩
  | j + 1, hj => by
    obtain ⟨V, v1, v2⟩ := PU_up hU6 hU h j (by omega)
    have hjj : 2 ^ (j + 1) - 1 < 64 := by
      have : 2 ^ (j + 1) ≤ 2 ^ 6 := Nat.pow_le_pow_right (by decide) hj
      omega
    cases e : U.testBit j
    · refine ⟨V ||| 2 ^ j, ?_, fun i => ?_⟩
      · have h1 := PU_one (p := j) (by omega) (by rw [v2, e]; simp) (hU j (by omega) e) v1
        have h2 : szN 6 (nd (2 ^ (j + 1) - 1) U) = szN 6 (nd (2 ^ j - 1) U) + 1 := by
          have hb : (nd (2 ^ (j + 1) - 1) U).testBit j = true := by
            rw [nd_tb, e, Nat.testBit_two_pow_sub_one]
            simp
          have h3 := sz_clr (nd_64 (b := U) hjj) hb
          have h4 : nd (nd (2 ^ (j + 1) - 1) U) (2 ^ j) = nd (2 ^ j - 1) U := by
            apply Nat.eq_of_testBit_eq
            intro i
            rw [nd_tb, nd_tb, nd_tb, tb_p, Nat.testBit_two_pow_sub_one, Nat.testBit_two_pow_sub_one]
            by_cases q : j = i
            · subst q
              simp
            · by_cases w : i < j
              · simp [q, w, show i < j + 1 by omega]
              · simp [q, w, show ¬ i < j + 1 by omega]
          rw [h4] at h3
          omega
        rw [h2, ← Nat.add_assoc]
        exact h1
      · rw [Nat.testBit_or, v2, tb_p]
        by_cases q : j = i
        · subst q
          simp
        · by_cases w : i < j
          · simp [w, show i < j + 1 by omega]
          · simp [q, w, show ¬ i < j + 1 by omega]
    · refine ⟨V, ?_, fun i => ?_⟩
      · have h2 : nd (2 ^ (j + 1) - 1) U = nd (2 ^ j - 1) U := by
          apply Nat.eq_of_testBit_eq
          intro i
          rw [nd_tb, nd_tb, Nat.testBit_two_pow_sub_one, Nat.testBit_two_pow_sub_one]
          by_cases q : i = j
          · subst q
            rw [e]
            simp
          · by_cases w : i < j
            · simp [w, show i < j + 1 by omega]
            · simp [w, show ¬ i < j + 1 by omega]
        rw [h2]
        exact v1
      · rw [v2]
        by_cases q : i = j
        · subst q
          rw [e]
          simp
        · by_cases w : i < j
          · simp [w, show i < j + 1 by omega]
          · simp [w, show ¬ i < j + 1 by omega]
theorem sz_63 : ∀ u : Fin 64, szN 6 (nd 63 u.1) + szN 6 u.1 = 6 := by decide +kernel
/-- the most groups of all are those of the uneven and the even ones alone -/
theorem groups_eq {b : Nat → Int32} {f r : Nat → Nat} {U : Nat} (hU6 : U < 64) (hU : ∀ p, p < 6 → U.testBit p = false → b p = 0) (hev : evS b 6 U = 0) (hf : GS b f) (hr : RS b r U) : f 63 + szN 6 U = 6 + (if U = 0 then 0 else r U) ∧ (U ≠ 0 → 1 ≤ r U) := by
  have h63 := sz_63 ⟨U, hU6⟩
  simp only at h63
  -- at least
  have hk : ∃ k, k = (if U = 0 then 0 else r U) ∧ PU b k U ∧ (U ≠ 0 → 1 ≤ r U) := by
    by_cases h0 : U = 0
    · exact ⟨0, by rw [if_pos h0], h0, fun q => absurd h0 q⟩
    · have h1 : 1 ≤ r U := by
        have := (hr U (Nat.le_refl _) h0).1 U ⟨h0, sub_refl _, hev, Or.inl rfl⟩
        unfold itV at this
        rw [if_pos rfl] at this
        exact this
      exact ⟨r U, by rw [if_neg h0], RS_PU hr U (Nat.le_refl _) h0 h1, fun _ => h1⟩
  obtain ⟨k, k1, k2, k3⟩ := hk
  refine ⟨?_, k3⟩
  rw [← k1]
  obtain ⟨V, v1, v2⟩ := PU_up hU6 hU k2 6 (Nat.le_refl _)
  have hV : V = 63 := by
    apply Nat.eq_of_testBit_eq
    intro i
    rw [v2, show 63 = 2 ^ 6 - 1 from rfl, Nat.testBit_two_pow_sub_one]
    by_cases w : i < 6
    · simp [w]
    · have : U.testBit i = false := Nat.testBit_lt_two_pow (Nat.lt_of_lt_of_le (show U < 2 ^ 6 by omega) (Nat.pow_le_pow_right (by decide) (by omega)))
      simp [w, this]
  rw [hV] at v1
  have ge := PU_GS hf _ 63 (by decide) v1
  rw [show 2 ^ 6 - 1 = 63 from rfl] at ge
  -- at most
  obtain ⟨V2, w1, w2⟩ := GS_PU hf 63 (by decide)
  have hV2 : V2 < 64 := by have := sub_le w1; omega
  obtain ⟨m, m1, m2⟩ := PU_cut hU _ V2 hV2 w2
  have hsub : sub (V2 &&& U) U := fun i hi => by
    rw [Nat.testBit_and] at hi
    simp only [Bool.and_eq_true] at hi
    exact hi.2
  have hsz := sz_sub ⟨nd V2 U, nd_64 hV2⟩ ⟨nd 63 U, nd_64 (by decide)⟩ (sub_nd.mpr (fun i hi => by
    simp only at hi ⊢
    rw [nd_tb] at hi ⊢
    simp only [Bool.and_eq_true] at hi ⊢
    exact ⟨w1 i hi.1, hi.2⟩))
  simp only at hsz
  have hm : ∃ m', m ≤ m' ∧ PU b m' U := by
    by_cases e : nd U (V2 &&& U) = 0
    · have : V2 &&& U = U := sub_eq hsub (sub_nd.mp e)
      rw [this] at m1
      exact ⟨m, Nat.le_refl _, m1⟩
    · refine ⟨m + 1, by omega, nd U (V2 &&& U), e, nd_sub _ _, ?_, ?_⟩
      · have h1 := evS_nd (b := b) (c := 6) hsub
        rw [hev, PU_ev _ _ m1, Int32.zero_add] at h1
        exact h1.symm
      · rw [nd_nd hsub]
        exact m1
  obtain ⟨m', hm1, hm2⟩ := hm
  have hmk : m' ≤ k := by
    cases m' with
    | zero => exact Nat.zero_le _
    | succ m'' =>
      have h1 := PU_RS hr m'' U (Nat.le_refl _) hm2
      have h0 : U ≠ 0 := fun q => by
        obtain ⟨T, t1, t2, _⟩ := hm2
        obtain ⟨i, hi⟩ := tb_ne t1
        have := t2 i hi
        rw [q, Nat.zero_testBit] at this
        cases this
      rw [if_neg h0] at k1
      omega
  omega

