/-! the same by the one's and by the other's reckoning -/
theorem pop_sz : ∀ x : Fin 64, sPop (nI x.1) = nI (szN 6 x.1) := by decide +kernel
theorem sumN_0 {f : Nat → Int32} {c : Nat} : ∀ m, (∀ i, c ≤ i → i < c + m → f i = 0) → sumN f (c + m) = sumN f c
  | 0, _ => rfl
  | m + 1, h => by
    show sumN f (c + m) + f (c + m) = _
    rw [sumN_0 m (fun i h1 h2 => h i h1 (by omega)), h (c + m) (by omega) (by omega), Int32.add_zero]
theorem sumN_6 {f : Nat → Int32} {c : Nat} (hc : c ≤ 6) (h : ∀ i, c ≤ i → i < 6 → f i = 0) : sumN f 6 = sumN f c := by
  have := sumN_0 (f := f) (c := c) (6 - c) (fun i h1 h2 => h i h1 (by omega))
  rw [show c + (6 - c) = 6 by omega] at this
  exact this
theorem wo_eq {k h : Int32} (hk : k = 0 ∨ k = 1 ∨ k = 2) : sWould k h = sWo k h := by
  unfold sWould sWo
  rcases hk with rfl | rfl | rfl <;> simp
theorem may_eq {k h r g : Int32} (hk : k = 0 ∨ k = 1 ∨ k = 2) : sMay k h r g = sMayM k h r g := by
  unfold sMay sMayM
  rw [wo_eq hk]
  by_cases q : r + g < sWo k h
  · rw [if_pos q, if_pos (Int32.le_of_lt q)]
  · rw [if_neg q]
    by_cases q2 : r + g ≤ sWo k h
    · rw [if_pos q2]
      exact Int32.le_antisymm (Int32.not_lt.mp q) q2
    · rw [if_neg q2]
theorem kd_3 {c : Nat} : kd c = 0 ∨ kd c = 1 ∨ kd c = 2 := by
  unfold kd
  split
  · exact Or.inl rfl
  · split
    · exact Or.inr (Or.inl rfl)
    · exact Or.inr (Or.inr rfl)
theorem my_eq {pk : Nat → Nat} {G : Nat → Option Nat} {I : Nat → Nat → Int32} {n c : Nat} {g : Nat → Nat} {J H : Nat → Nat → Int32} (h : rP pk G I n c g H) (hg : I 0 8 = J 0 6) : ∀ p, p < c → myC pk g I c p = myM J H p := by
  intro p hp
  obtain ⟨a1, a2, a3, a4, _⟩ := h.2.2.2 p hp
  unfold myC myM
  rw [if_pos hp, may_eq kd_3, a1, a3, a4, hg]
theorem rP_HH {pk : Nat → Nat} {G : Nat → Option Nat} {I : Nat → Nat → Int32} {n c : Nat} {g : Nat → Nat} {H : Nat → Nat → Int32} (h : rP pk G I n c g H) : HH H c := fun p hp => (h.2.2.2 p hp).2.2.2.2
/-- a call hangs on the people of the set alone -/
theorem stp_cb {my my' : Nat → Int32} {set : Int32} {i : Nat} {q : Int32 × Int32 × Int32 × Int32} (h : sHas set (nI i) = true → my i = my' i) : stp my set i q = stp my' set i q := by
  unfold stp
  by_cases e : sHas set (nI i) = false
  · rw [if_pos e, if_pos e]
  · rw [h (by simpa using e)]
theorem rndN_cb {my my' : Nat → Int32} {set : Int32} {q : Int32 × Int32 × Int32 × Int32} : ∀ k, (∀ i, i < k → sHas set (nI i) = true → my i = my' i) → rndN my set q k = rndN my' set q k
  | 0, _ => rfl
  | k + 1, h => by rw [rndN, rndN, rndN_cb k (fun i hi => h i (by omega)), stp_cb (h k (by omega))]
theorem itN_cb {my my' : Nat → Int32} {set : Int32} (h : ∀ i, i < 6 → sHas set (nI i) = true → my i = my' i) : ∀ r, itN my set r = itN my' set r
  | 0 => rfl
  | r + 1 => by rw [itN, itN, itN_cb h r, rndN_cb 6 h]
theorem sCall_cb {my my' : Nat → Int32} {x c : Nat} (hc : c ≤ 6) (hx : x < 2 ^ c) (h : ∀ i, i < c → my i = my' i) : sCall my (nI x) = sCall my' (nI x) := by
  unfold sCall
  exact itN_cb (fun i hi hs => h i (lt_c hc hx hi hs)) 19
theorem sDown_cb {my my' : Nat → Int32} {x c : Nat} (hc : c ≤ 6) (hx : x < 2 ^ c) (h : ∀ i, i < c → my i = my' i) : sDown my (nI x) = sDown my' (nI x) := by
  unfold sDown
  rw [sCall_cb hc hx h]
theorem lfN_cb {my my' : Nat → Int32} {x c : Nat} (hc : c ≤ 6) (hx : x < 2 ^ c) (h : ∀ i, i < c → my i = my' i) (hm : ∀ m, m < 2 ^ c → ∀ i, i < 6 → sHas (nI m) (nI i) = true → my' i ≤ 18) : ∀ k, lfN my (nI x) k = lfN my' (nI x) k
  | 0 => rfl
  | k + 1 => by
    rw [lfN, lfN, lfN_cb hc hx h hm k]
    obtain ⟨m, h1, h2, _⟩ := lfN_n hc hx hm k
    rw [h1, sDown_cb hc h2 h]
theorem dnN_cb {my my' : Nat → Int32} {x c : Nat} (hc : c ≤ 6) (hx : x < 2 ^ c) (h : ∀ i, i < c → my i = my' i) (hm : ∀ m, m < 2 ^ c → ∀ i, i < 6 → sHas (nI m) (nI i) = true → my' i ≤ 18) (k : Nat) : dnN my (nI x) k = dnN my' (nI x) k ∧ frN my (nI x) k = frN my' (nI x) k := by
  unfold dnN frN
  rw [lfN_cb hc hx h hm k]
  obtain ⟨m, h1, h2, _⟩ := lfN_n hc hx hm k
  rw [h1, sDown_cb hc h2 h, sCall_cb hc h2 h]
  exact ⟨rfl, rfl⟩
theorem gtC_cb {my my' : Nat → Int32} {set : Int32} (h : ∀ k, lfN my set k = lfN my' set k) : ∀ m i, gtC my set i m = gtC my' set i m
  | 0, _ => rfl
  | m + 1, i => by rw [gtC, gtC, h i, gtC_cb h m (i + 1)]
theorem gtM_cb {my my' : Nat → Int32} {x c : Nat} (hc : c ≤ 6) (hx : x < 2 ^ c) (h : ∀ i, i < c → my i = my' i) (hm : ∀ m, m < 2 ^ c → ∀ i, i < 6 → sHas (nI m) (nI i) = true → my' i ≤ 18) : gtM my (nI x) = gtM my' (nI x) := by
  unfold gtM
  exact gtC_cb (lfN_cb hc hx h hm) 6 0
/-- what is owed -/
theorem sNum_n {p q : Nat} (hp : p < 6) (hq : q < 6) : sNum (nI p) (nI q) = true := by
  unfold sNum
  rw [show (5 : Int32) = nI 5 from rfl, sW_nI (by decide) (by omega), sW_nI (by decide) (by omega)]
  rfl
theorem btw_eq {F H : Nat → Nat → Int32} {c p q : Nat} (h : rO F H c) (hp : p < 6) (hq : q < 6) : sBtw F (nI p) (nI q) = H 7 (6 * p + q) := by
  unfold sBtw
  rw [if_pos (sNum_n hp hq), nI_clamp (by omega), nI_clamp (by omega)]
  exact (h p q hp hq).1
theorem by_eq {F H : Nat → Nat → Int32} {c p : Nat} (hc : c ≤ 6) (h : rO F H c) (hp : p < 6) : sBy F (nI p) = suN H true p c := by
  unfold sBy suN
  rw [sumN_6 hc (fun i h1 h2 => by rw [btw_eq h hp h2]; exact (h p i hp h2).2 (Or.inr h1))]
  exact sumN_c c (fun i hi => btw_eq h hp (by omega))
theorem to_eq {F H : Nat → Nat → Int32} {c p : Nat} (hc : c ≤ 6) (h : rO F H c) (hp : p < 6) : sTo F (nI p) = suN H false p c := by
  unfold sTo suN
  rw [sumN_6 hc (fun i h1 h2 => by rw [btw_eq h h2 hp]; exact (h i p h2 hp).2 (Or.inl h1))]
  exact sumN_c c (fun i hi => btw_eq h (by omega) hp)
theorem bal_eq {F H : Nat → Nat → Int32} {c p : Nat} (hc : c ≤ 6) (h : rO F H c) (hp : p < 6) : sBal F (nI p) = blM H c p := by
  unfold sBal blM
  rw [by_eq hc h hp, to_eq hc h hp]
theorem bal_0 {F H : Nat → Nat → Int32} {c p : Nat} (hc : c ≤ 6) (h : rO F H c) (hp : p < 6) (hcp : c ≤ p) : blM H c p = 0 := by
  unfold blM suN
  rw [sumN_c (f := fun q => if false = true then H 7 (6 * p + q) else H 7 (6 * q + p)) (g := fun _ => 0) c (fun i hi => (h i p (by omega) hp).2 (Or.inr hcp)), sumN_c (f := fun q => if true = true then H 7 (6 * p + q) else H 7 (6 * q + p)) (g := fun _ => 0) c (fun i hi => (h p i hp (by omega)).2 (Or.inl hcp))]
  exact Int32.sub_self _
theorem steps_eq {F H : Nat → Nat → Int32} {c : Nat} (hc : c ≤ 6) (h : rO F H c) : sSteps F = sumN (fun p => if blM H c p ≤ 0 then 0 else blM H c p) c := by
  unfold sSteps
  rw [sumN_6 hc (fun i h1 h2 => by rw [bal_eq hc h h2, bal_0 hc h h2 h1]; rfl)]
  refine sumN_c c (fun i hi => ?_)
  rw [bal_eq hc h (by omega)]
  by_cases q : 0 < blM H c i
  · rw [if_pos q, if_neg (Int32.not_le.mpr q)]
  · rw [if_neg q, if_pos (Int32.not_lt.mp q)]

