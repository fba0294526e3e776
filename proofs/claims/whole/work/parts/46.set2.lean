/-- the other's table -/
theorem gmN_st {b g0 : Nat → Int32} {c k j : Nat} (h : j ≤ k) : ∀ d, gmN b c g0 (k + d) j = gmN b c g0 k j
  | 0 => rfl
  | d + 1 => by
    show upd (gmN b c g0 (k + d)) (k + d + 1) _ j = _
    rw [show ∀ v, upd (gmN b c g0 (k + d)) (k + d + 1) v j = gmN b c g0 (k + d) j from fun v => if_neg (by omega), gmN_st h d]
theorem gmN_at {b g0 : Nat → Int32} {c k n : Nat} (h : k ≤ n) : gmN b c g0 n k = gmN b c g0 k k := by
  have := gmN_st (b := b) (g0 := g0) (c := c) (Nat.le_refl k) (n - k)
  rw [show k + (n - k) = n by omega] at this
  exact this
theorem nI_nd {s t : Nat} (hs : s < 64) : nI (nd s t) = 0 ↔ nd s t = 0 := nI_00 (by have := nd_64 (b := t) hs; omega)
theorem itG_c {b g g' : Nat → Int32} {c s t : Nat} (hs : s < 64) (ht : t < 64) (h0 : t ≠ 0) (h : ∀ j, j < s → g j = g' j) : itG b c g s t = itG b c g' s t := by
  unfold itG
  by_cases e : nI (nd t s) = 0
  · have hl := nd_lt' h0 (sub_nd.mp ((nI_nd ht).mp e))
    rw [h _ hl]
  · rw [decide_eq_false e, Bool.false_and, Bool.false_and]
    rfl
theorem inG_c {b g g' : Nat → Int32} {c s : Nat} (hs : s < 64) (h : ∀ j, j < s → g j = g' j) : ∀ t, t < 64 → inG b c g s t = inG b c g' s t
  | 0, _ => rfl
  | t + 1, ht => by rw [inG, inG, inG_c hs h t (by omega), itG_c hs ht (by omega) h]
/-- a row's value: none, or so many groups -/
def okv (v : Int32) (m : Nat) : Prop := v = -9 ∨ ∃ k : Nat, 1 ≤ k ∧ k ≤ m ∧ v = nI k
theorem okv_le {v w : Int32} {m : Nat} (hm : m ≤ 6) (hv : okv v m) (hw : okv w m) : v ≤ w ↔ v.toNatClampNeg ≤ w.toNatClampNeg := by
  have h9 : (-9 : Int32).toNatClampNeg = 0 := by decide
  rcases hv with rfl | ⟨k, k1, k2, rfl⟩
  · rw [h9]
    refine ⟨fun _ => Nat.zero_le _, fun _ => ?_⟩
    rcases hw with rfl | ⟨j, j1, j2, rfl⟩
    · exact Int32.le_refl _
    · exact Int32.le_trans (show (-9 : Int32) ≤ nI 0 by decide) (nI_le (Nat.zero_le _) (by omega))
  · rw [nI_clamp (by omega)]
    rcases hw with rfl | ⟨j, j1, j2, rfl⟩
    · rw [h9]
      refine ⟨fun q => ?_, fun q => by omega⟩
      have := Int32.le_trans (nI_le (a := 0) (b := k) (Nat.zero_le _) (by omega)) q
      exact absurd this (by decide)
    · rw [nI_clamp (by omega), nI_leI (by omega) (by omega)]
theorem okv_eq {v : Int32} {m : Nat} (hm : m ≤ 6) (h : okv v m) : v.toNatClampNeg ≤ m ∧ (v = -9 ∨ v = nI v.toNatClampNeg) ∧ (¬ v ≤ 0 ↔ 0 < v.toNatClampNeg) := by
  have h9 : (-9 : Int32).toNatClampNeg = 0 := by decide
  rcases h with rfl | ⟨k, k1, k2, rfl⟩
  · rw [h9]
    exact ⟨Nat.zero_le _, Or.inl rfl, ⟨fun q => absurd (show (-9 : Int32) ≤ 0 by decide) q, fun q => absurd q (by omega)⟩⟩
  · rw [nI_clamp (by omega)]
    exact ⟨k2, Or.inr rfl, ⟨fun _ => by omega, fun _ => nI_nle (by omega) (by omega)⟩⟩
/-- a part that may be taken out of a set, and what that gives -/
def mayP (b : Nat → Int32) (f : Nat → Nat) (s t : Nat) : Prop := t ≠ 0 ∧ sub t s ∧ evS b 6 t = 0 ∧ (t = s ∨ 0 < f (nd s t))
def itV (f : Nat → Nat) (s t : Nat) : Nat := 1 + (if t = s then 0 else f (nd s t))
theorem itG_v {b g : Nat → Int32} {c s t : Nat} (hc : c ≤ 6) (hb : ∀ p, c ≤ p → p < 6 → b p = 0) (hs : s < 64) (ht : t < 64) (h0 : t ≠ 0) (hg : ∀ j, j < s → j ≠ 0 → okv (g j) (szN 6 j)) : okv (itG b c g s t) (szN 6 s) ∧ (mayP b (fun j => (g j).toNatClampNeg) s t → (itG b c g s t).toNatClampNeg = itV (fun j => (g j).toNatClampNeg) s t) ∧ (0 < (itG b c g s t).toNatClampNeg → mayP b (fun j => (g j).toNatClampNeg) s t) := by
  have h9 : (-9 : Int32).toNatClampNeg = 0 := by decide
  have hts : nI t = nI s ↔ t = s := nI_eq (by omega) (by omega)
  unfold itG
  rw [evS_6 hc hb]
  by_cases e1 : nI (nd t s) = 0
  · have hsub := sub_nd.mp ((nI_nd ht).mp e1)
    have hl := nd_lt' h0 hsub
    have hss := sz_sub ⟨t, ht⟩ ⟨s, hs⟩ (sub_nd.mpr hsub)
    simp only at hss
    have ht1 : 1 ≤ szN 6 t := by
      have := (sz_0 ⟨t, ht⟩).2
      simp only at this
      omega
    rw [decide_eq_true e1, Bool.true_and]
    by_cases e2 : evS b 6 t = 0
    · rw [decide_eq_true e2, Bool.true_and]
      by_cases e3 : t = s
      · have e4 := hts.mpr e3
        rw [decide_eq_true e4, Bool.true_or, if_pos rfl, if_pos e4]
        refine ⟨Or.inr ⟨1, by omega, by omega, rfl⟩, fun _ => ?_, fun _ => ⟨h0, hsub, e2, Or.inl e3⟩⟩
        unfold itV
        rw [if_pos e3]
        rfl
      · have e4 : ¬ nI t = nI s := fun q => e3 (hts.mp q)
        rw [decide_eq_false e4, Bool.false_or, if_neg e4]
        have hn0 : nd s t ≠ 0 := fun q => e3 (sub_eq hsub (sub_nd.mp q))
        have ho := hg (nd s t) hl hn0
        have h64 := nd_64 (b := t) hs
        have hs6 := sz_6 h64
        obtain ⟨o1, o2, o3⟩ := okv_eq hs6 ho
        have hst := sz_sub ⟨nd s t, h64⟩ ⟨s, hs⟩ (sub_nd.mpr (nd_sub s t))
        simp only at hst
        have hlt := hst.2 (by omega)
        have hs66 := sz_6 hs
        by_cases e5 : g (nd s t) ≤ 0
        · rw [decide_eq_true e5, Bool.not_true, if_neg (by decide), h9]
          refine ⟨Or.inl rfl, fun q => ?_, fun q => absurd q (by omega)⟩
          rcases q.2.2.2 with w | w
          · exact absurd w e3
          · exact absurd e5 (o3.mpr w)
        · rw [decide_eq_false e5, Bool.not_false, if_pos rfl]
          have h1 := o3.mp e5
          have h2 : g (nd s t) = nI (g (nd s t)).toNatClampNeg := o2.resolve_left (fun q => by rw [q] at e5; exact e5 (by decide))
          have h3 : 1 + g (nd s t) = nI (1 + (g (nd s t)).toNatClampNeg) := by
            rw [← nI_add, ← h2]
            rfl
          rw [h3, nI_clamp (by omega)]
          refine ⟨Or.inr ⟨_, by omega, by omega, rfl⟩, fun _ => ?_, fun _ => ⟨h0, hsub, e2, Or.inr h1⟩⟩
          unfold itV
          rw [if_neg e3]
    · rw [decide_eq_false e2, Bool.false_and, if_neg (by decide), h9]
      exact ⟨Or.inl rfl, fun q => absurd q.2.2.1 e2, fun q => absurd q (by omega)⟩
  · rw [decide_eq_false e1, Bool.false_and, Bool.false_and, if_neg (by decide), h9]
    exact ⟨Or.inl rfl, fun q => absurd ((nI_nd ht).mpr (sub_nd.mpr q.2.1)) e1, fun q => absurd q (by omega)⟩
theorem inG_v {b g : Nat → Int32} {c s : Nat} (hc : c ≤ 6) (hb : ∀ p, c ≤ p → p < 6 → b p = 0) (hs : s < 64) (hg : ∀ j, j < s → j ≠ 0 → okv (g j) (szN 6 j)) : ∀ m, m < 64 → okv (inG b c g s m) (szN 6 s) ∧ (∀ t, t ≤ m → mayP b (fun j => (g j).toNatClampNeg) s t → itV (fun j => (g j).toNatClampNeg) s t ≤ (inG b c g s m).toNatClampNeg) ∧ (0 < (inG b c g s m).toNatClampNeg → ∃ t, t ≤ m ∧ mayP b (fun j => (g j).toNatClampNeg) s t ∧ (inG b c g s m).toNatClampNeg = itV (fun j => (g j).toNatClampNeg) s t)
  | 0, _ => ⟨Or.inl rfl, fun t h q => absurd (Nat.le_zero.mp h) q.1, fun q => absurd q (show ¬ 0 < (-9 : Int32).toNatClampNeg by decide)⟩
  | m + 1, hm => by
    obtain ⟨i1, i2, i3⟩ := inG_v hc hb hs hg m (by omega)
    obtain ⟨j1, j2, j3⟩ := itG_v hc hb hs hm (by omega) hg
    have hle := okv_le (sz_6 hs) j1 i1
    rw [inG]
    by_cases e : itG b c g s (m + 1) ≤ inG b c g s m
    · rw [if_pos e]
      refine ⟨i1, fun t ht q => ?_, fun q => ?_⟩
      · by_cases w : t = m + 1
        · subst w
          have := hle.mp e
          rw [j2 q] at this
          exact this
        · exact i2 t (by omega) q
      · obtain ⟨t, t1, t2⟩ := i3 q
        exact ⟨t, by omega, t2⟩
    · rw [if_neg e]
      have e2 : (inG b c g s m).toNatClampNeg < (itG b c g s (m + 1)).toNatClampNeg := by
        rcases Nat.lt_or_ge (inG b c g s m).toNatClampNeg (itG b c g s (m + 1)).toNatClampNeg with w | w
        · exact w
        · exact absurd (hle.mpr w) e
      refine ⟨j1, fun t ht q => ?_, fun q => ?_⟩
      · by_cases w : t = m + 1
        · subst w
          rw [j2 q]
          exact Nat.le_refl _
        · have := i2 t (by omega) q
          omega
      · have q2 := j3 q
        exact ⟨m + 1, Nat.le_refl _, q2, j2 q2⟩
/-- what the other's table says of a set -/
def RS (b : Nat → Int32) (f : Nat → Nat) (u : Nat) : Prop := ∀ s, s ≤ u → s ≠ 0 → (∀ t, mayP b f s t → itV f s t ≤ f s) ∧ (0 < f s → ∃ t, mayP b f s t ∧ f s = itV f s t)
theorem gm_all {b : Nat → Int32} {c : Nat} (g0 : Nat → Int32) (hc : c ≤ 6) (hb : ∀ p, c ≤ p → p < 6 → b p = 0) {u : Nat} (hu : u < 64) : ∀ s, s ≤ u → s ≠ 0 → okv (gmN b c g0 u s) (szN 6 s) ∧ (∀ t, mayP b (fun j => (gmN b c g0 u j).toNatClampNeg) s t → itV (fun j => (gmN b c g0 u j).toNatClampNeg) s t ≤ (gmN b c g0 u s).toNatClampNeg) ∧ (0 < (gmN b c g0 u s).toNatClampNeg → ∃ t, mayP b (fun j => (gmN b c g0 u j).toNatClampNeg) s t ∧ (gmN b c g0 u s).toNatClampNeg = itV (fun j => (gmN b c g0 u j).toNatClampNeg) s t) := by
  intro s
  induction s using Nat.strongRecOn with
  | _ s ih =>
    intro hs h0
    obtain ⟨k, rfl⟩ : ∃ k, s = k + 1 := ⟨s - 1, by omega⟩
    have e : gmN b c g0 u (k + 1) = inG b c (gmN b c g0 u) (k + 1) (k + 1) := by
      rw [gmN_at hs]
      show upd (gmN b c g0 k) (k + 1) _ (k + 1) = _
      rw [show ∀ v, upd (gmN b c g0 k) (k + 1) v (k + 1) = v from fun v => if_pos rfl]
      exact inG_c (by omega) (fun j hj => by rw [gmN_at (n := u) (by omega), gmN_at (n := k) (by omega)]) (k + 1) (by omega)
    obtain ⟨i1, i2, i3⟩ := inG_v (g := gmN b c g0 u) hc hb (show k + 1 < 64 by omega) (fun j hj hj0 => (ih j hj (by omega) hj0).1) (k + 1) (by omega)
    rw [e]
    refine ⟨i1, fun t q => i2 t (sub_le q.2.1) q, fun q => ?_⟩
    obtain ⟨t, _, t2, t3⟩ := i3 q
    exact ⟨t, t2, t3⟩
theorem gm_RS {b : Nat → Int32} {c : Nat} (g0 : Nat → Int32) (hc : c ≤ 6) (hb : ∀ p, c ≤ p → p < 6 → b p = 0) {u : Nat} (hu : u < 64) : RS b (fun j => (gmN b c g0 u j).toNatClampNeg) u := fun s hs h0 => (gm_all g0 hc hb hu s hs h0).2

