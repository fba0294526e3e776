/-! the reference: a call -/
theorem bit_n {k : Nat} (hk : k < 31) : sBit (nI k) = nI (2 ^ k) := by
  unfold sBit
  have h31 : nI k &&& 31 = nI k := by
    have := pk_andN (n := k) (by omega) (m := 31) 5 (by decide)
    rw [this, Nat.mod_eq_of_lt (by omega)]
  rw [h31]
  have h2 : (1 : Int32) = nI 1 := rfl
  rw [h2, pk_shlN (nI k) k (by
    have : (nI k).toBitVec = BitVec.ofNat 32 k := rfl
    rw [this, BitVec.smod_eq]
    simp [BitVec.msb_eq_decide, BitVec.toNat_ofNat, Nat.mod_eq_of_lt (show k < 4294967296 by omega), show ¬ (2147483648 ≤ k) by omega]
    omega) (by
    have : 2 ^ k ≤ 2 ^ 30 := Nat.pow_le_pow_right (by decide) (by omega)
    omega)]
  rw [Nat.one_mul]
def nd (a b : Nat) : Nat := a ^^^ (a &&& b)
theorem nd_tb (a b i : Nat) : (nd a b).testBit i = (a.testBit i && !b.testBit i) := by
  unfold nd
  rw [Nat.testBit_xor, Nat.testBit_and]
  cases a.testBit i <;> cases b.testBit i <;> rfl
theorem nd_lt {a b k : Nat} (h : a < 2 ^ k) : nd a b < 2 ^ k := by
  unfold nd
  exact Nat.xor_lt_two_pow h (Nat.lt_of_le_of_lt Nat.and_le_left h)
theorem nd_n {a b : Nat} (ha : a < 2 ^ 31) (hb : b < 2 ^ 31) : nI a &&& (nI b ^^^ (-1)) = nI (nd a b) := by
  have hl := nd_lt (b := b) ha
  apply Int32.toBitVec_inj.mp
  apply BitVec.eq_of_toNat_eq
  rw [Int32.toBitVec_and, Int32.toBitVec_xor, BitVec.toNat_and, BitVec.toNat_xor, pk_tn (by omega), pk_tn (by omega), pk_tn (by omega)]
  have h1 : (-1 : Int32).toBitVec.toNat = 2 ^ 32 - 1 := by decide
  rw [h1]
  apply Nat.eq_of_testBit_eq
  intro i
  rw [nd_tb, Nat.testBit_and, Nat.testBit_xor, Nat.testBit_two_pow_sub_one]
  by_cases q : i < 32
  · simp [q]
  · have : a.testBit i = false := Nat.testBit_lt_two_pow (Nat.lt_of_lt_of_le ha (Nat.pow_le_pow_right (by decide) (by omega)))
    simp [this]
theorem clr_n {m d : Nat} (hm : m < 2 ^ 31) (hd : d < 31) : sClr (nI m) (nI d) = nI (nd m (2 ^ d)) := by
  have hpk : 2 ^ d < 2 ^ 31 := Nat.pow_lt_pow_right (by decide) hd
  unfold sClr
  rw [bit_n hd, nd_n hm hpk]
def LM (I : Nat → Nat → Int32) (f h s : Int32) : Nat → Nat → Int32 := fun a k => if a = 0 then (if k = 17 then f else if k = 18 then h else if k = 19 then s else I a k) else I a k
theorem LM_f (I : Nat → Nat → Int32) (f h s x : Int32) : st_I (LM I f h s) 0 17 x = LM I x h s := by
  funext a k
  unfold st_I LM upd
  by_cases e : a = 0
  · subst e
    by_cases e2 : k = 17 <;> simp [e2]
  · simp [e]
theorem LM_h (I : Nat → Nat → Int32) (f h s x : Int32) : st_I (LM I f h s) 0 18 x = LM I f x s := by
  funext a k
  unfold st_I LM upd
  by_cases e : a = 0
  · subst e
    by_cases e2 : k = 18 <;> simp [e2]
  · simp [e]
theorem LM_s (I : Nat → Nat → Int32) (f h s x : Int32) : st_I (LM I f h s) 0 19 x = LM I f h x := by
  funext a k
  unfold st_I LM upd
  by_cases e : a = 0
  · subst e
    by_cases e2 : k = 19 <;> simp [e2]
  · simp [e]
theorem LM_LM (I : Nat → Nat → Int32) (f h s f' h' s' : Int32) : LM (LM I f h s) f' h' s' = LM I f' h' s' := by
  funext a k
  unfold LM
  by_cases e : a = 0
  · subst e
    by_cases e2 : k = 17
    · simp [e2]
    · by_cases e3 : k = 18
      · simp [e3]
      · by_cases e4 : k = 19 <;> simp [e2, e3, e4]
  · simp [e]
theorem LM_I (I : Nat → Nat → Int32) : I = LM I (I 0 17) (I 0 18) (I 0 19) := by
  funext a k
  unfold LM
  by_cases e : a = 0
  · subst e
    by_cases e2 : k = 17
    · simp [e2]
    · by_cases e3 : k = 18
      · simp [e3]
      · by_cases e4 : k = 19 <;> simp [e2, e3, e4]
  · simp [e]
theorem LM_n {I : Nat → Nat → Int32} {f h s : Int32} {a k : Nat} (q : ¬ (a = 0 ∧ (k = 17 ∨ k = 18 ∨ k = 19))) : LM I f h s a k = I a k := by
  unfold LM
  by_cases e : a = 0
  · have e1 : k ≠ 17 := fun w => q ⟨e, Or.inl w⟩
    have e2 : k ≠ 18 := fun w => q ⟨e, Or.inr (Or.inl w)⟩
    have e3 : k ≠ 19 := fun w => q ⟨e, Or.inr (Or.inr w)⟩
    simp [e1, e2, e3]
  · simp [e]
theorem he_LM {I F : Nat → Nat → Int32} {f h s : Int32} : hM (LM I f h s) F 0 = .inr (9, [.int (I 0 0), .int (I 0 1), .ref 1, .ref 2, .ref 3, .int (I 0 5), .int (I 0 6), .int (I 0 7), .int (I 0 8), .ref 4, .ref 5, .ref 6, .ref 7, .int (I 0 13), .int (I 0 14), .int (I 0 15), .ref 8, .int f, .int h, .int s, .ref 9, .ref 10, .int (I 0 22), .ref 11, .int (I 0 24), .ref 12, .ref 13, .ref 14]) := rfl
theorem myM_LM (I F : Nat → Nat → Int32) (f h s : Int32) : myM (LM I f h s) F = myM I F := rfl
/-- nobody of the set from c on -/
def noB (x : Int32) (c : Nat) : Prop := ∀ i, c ≤ i → i < 6 → sHas x (nI i) = false
theorem noB_n {m c : Nat} (h : m < 2 ^ c) (hc : c ≤ 6) : noB (nI m) c := by
  intro i h1 h2
  have h6 : 2 ^ c ≤ 2 ^ 6 := Nat.pow_le_pow_right (by decide) hc
  rw [has_tb (by omega) (by omega)]
  exact Nat.testBit_lt_two_pow (Nat.lt_of_lt_of_le h (Nat.pow_le_pow_right (by decide) h1))
theorem rndN_cc {my : Nat → Int32} {x : Int32} {c : Nat} (hn : noB x c) (q : Int32 × Int32 × Int32 × Int32) : ∀ k, c + k ≤ 6 → rndN my x q (c + k) = rndN my x q c
  | 0, _ => rfl
  | k + 1, h => by
    show stp my x (c + k) (rndN my x q (c + k)) = _
    rw [rndN_cc hn q k (by omega), stp]
    split
    · rfl
    · rw [if_pos (hn _ (by omega) (by omega))]
/-- what stands in a round's tuple: far within bounds; head and second are of the set -/
def TQ (x : Int32) (q : Int32 × Int32 × Int32 × Int32) : Prop := (∃ f : Nat, f ≤ 18 ∧ q.1 = nI f) ∧ (q.2.1 = -9 ∨ ∃ k, k < 6 ∧ q.2.1 = nI k ∧ sHas x (nI k) = true) ∧ (q.2.2.1 = -9 ∨ ∃ k, k < 6 ∧ q.2.2.1 = nI k ∧ sHas x (nI k) = true) ∧ (q.2.2.2 = 0 ∨ q.2.2.2 = 1)
theorem stp_TQ {my : Nat → Int32} {x : Int32} {i : Nat} {q : Int32 × Int32 × Int32 × Int32} (hi : i < 6) (hm : sHas x (nI i) = true → my i ≤ 18) (h : TQ x q) : TQ x (stp my x i q) := by
  unfold stp
  split
  · exact h
  · split
    · exact h
    · rename_i h1 h2
      split
      · exact h
      · rename_i h3
        have h2 : sHas x (nI i) = true := by simpa using h2
        obtain ⟨⟨f, hf, e⟩, hh, hs, hb⟩ := h
        refine ⟨⟨f + 1, ?_, ?_⟩, Or.inr ⟨i, hi, rfl, h2⟩, hh, Or.inr rfl⟩
        · have h4 := hm h2
          rw [e] at h3
          rw [Int32.le_iff_toInt_le] at h3 h4
          rw [nI_toInt (by omega)] at h3
          have h18 : (18 : Int32).toInt = 18 := by decide
          rw [h18] at h4
          omega
        · show q.1 + 1 = _
          rw [e, nI_1]
theorem rndN_TQ {my : Nat → Int32} {x : Int32} {q : Int32 × Int32 × Int32 × Int32} (hm : ∀ i, i < 6 → sHas x (nI i) = true → my i ≤ 18) (h : TQ x q) : ∀ i, i ≤ 6 → TQ x (rndN my x q i)
  | 0, _ => h
  | i + 1, h6 => stp_TQ (by omega) (hm i (by omega)) (rndN_TQ hm h i (by omega))
theorem itN_TQ {my : Nat → Int32} {x : Int32} (hm : ∀ i, i < 6 → sHas x (nI i) = true → my i ≤ 18) : ∀ r, TQ x (itN my x r)
  | 0 => ⟨⟨0, by decide, rfl⟩, Or.inl rfl, Or.inl rfl, Or.inr rfl⟩
  | r + 1 => by
    rw [itN]
    have h := itN_TQ hm r
    split
    · exact h
    · have h2 : TQ x ((itN my x r).1, (itN my x r).2.1, (itN my x r).2.2.1, 0) := ⟨h.1, h.2.1, h.2.2.1, Or.inl rfl⟩
      generalize ((itN my x r).1, (itN my x r).2.1, (itN my x r).2.2.1, (0 : Int32)) = q at h2 ⊢
      exact rndN_TQ hm h2 6 (by omega)
/-- a round in which somebody stepped raises far -/
theorem rndN_up {my : Nat → Int32} {x : Int32} {q : Int32 × Int32 × Int32 × Int32} {f : Nat} (hf : q.1 = nI f) (hb : q.2.2.2 = 0) : ∀ i, ∃ g : Nat, (rndN my x q i).1 = nI g ∧ f ≤ g ∧ g ≤ f + i ∧ (((rndN my x q i).2.2.2 = 0 ∧ g = f) ∨ f < g)
  | 0 => ⟨f, hf, Nat.le_refl _, Nat.le_refl _, Or.inl ⟨hb, rfl⟩⟩
  | i + 1 => by
    obtain ⟨g, hg, h1, h4, h2⟩ := rndN_up (my := my) (x := x) hf hb i
    show ∃ g : Nat, (stp my x i (rndN my x q i)).1 = nI g ∧ f ≤ g ∧ g ≤ f + (i + 1) ∧ (((stp my x i (rndN my x q i)).2.2.2 = 0 ∧ g = f) ∨ f < g)
    unfold stp
    split
    · exact ⟨g, hg, h1, by omega, h2⟩
    · split
      · exact ⟨g, hg, h1, by omega, h2⟩
      · split
        · exact ⟨g, hg, h1, by omega, h2⟩
        · refine ⟨g + 1, ?_, by omega, by omega, Or.inr (by omega)⟩
          show (rndN my x q i).1 + 1 = _
          rw [hg, nI_1]
theorem itN_up {my : Nat → Int32} {x : Int32} (hm : ∀ i, i < 6 → sHas x (nI i) = true → my i ≤ 18) : ∀ r, (itN my x r).2.2.2 = 0 ∨ ∃ g : Nat, (itN my x r).1 = nI g ∧ r ≤ g ∧ g ≤ 18
  | 0 => Or.inr ⟨0, rfl, Nat.le_refl _, by omega⟩
  | r + 1 => by
    have h8 := itN_TQ hm (r + 1)
    rw [itN] at h8 ⊢
    by_cases q0 : (itN my x r).2.2.2 = 0
    · rw [if_pos q0]
      exact Or.inl q0
    · rw [if_neg q0] at h8 ⊢
      rcases itN_up hm r with h | ⟨g, hg, hr, hr2⟩
      · contradiction
      · obtain ⟨g2, h1, h2, h4, h3⟩ := rndN_up (my := my) (x := x) (q := ((itN my x r).1, (itN my x r).2.1, (itN my x r).2.2.1, 0)) hg rfl 6
        obtain ⟨⟨f2, hf2, e2⟩, _⟩ := h8
        have e4 : g2 = f2 := (nI_eq (by omega) (by omega)).mp (h1.symm.trans e2)
        rcases h3 with h3 | h3
        · exact Or.inl h3.1
        · exact Or.inr ⟨g2, h1, by omega, by omega⟩
theorem itN_19 {my : Nat → Int32} {x : Int32} (hm : ∀ i, i < 6 → sHas x (nI i) = true → my i ≤ 18) : (itN my x 19).2.2.2 = 0 := by
  rcases itN_up hm 19 with h | ⟨g, _, h1, h2⟩
  · exact h
  · omega
theorem lstN_ex {x : Int32} : ∀ m i k, i + m = 6 → i ≤ k → k < 6 → sHas x (nI k) = true → ∃ j, j < 6 ∧ lstN x i m = nI j ∧ sHas x (nI j) = true
  | 0, i, k, h1, h2, h3, _ => by omega
  | m + 1, i, k, h1, h2, h3, h4 => by
    rw [lstN]
    by_cases q : sHas x (nI i) = true
    · rw [if_pos q]
      exact ⟨i, by omega, rfl, q⟩
    · rw [if_neg q]
      have : i ≠ k := fun e => q (e ▸ h4)
      exact lstN_ex m (i + 1) k (by omega) (by omega) h3 h4
theorem bit_ex {m : Nat} (h0 : m ≠ 0) (h6 : m < 64) : ∃ k, k < 6 ∧ sHas (nI m) (nI k) = true := by
  obtain ⟨k, hk⟩ := Nat.exists_testBit_of_ne_zero h0
  have hk6 : k < 6 := by
    rcases Nat.lt_or_ge k 6 with q | q
    · exact q
    · have : m.testBit k = false := Nat.testBit_lt_two_pow (Nat.lt_of_lt_of_le (show m < 2 ^ 6 by omega) (Nat.pow_le_pow_right (by decide) q))
      rw [this] at hk
      cases hk
  refine ⟨k, hk6, ?_⟩
  rw [has_tb (by omega) (by omega)]
  exact hk
theorem sCall_TQ {my : Nat → Int32} {x : Int32} (hm : ∀ i, i < 6 → sHas x (nI i) = true → my i ≤ 18) : TQ x (sCall my x) := by
  have h := itN_TQ hm 19
  rw [← sCall] at h
  exact h
/-- who goes down is of the set -/
theorem sDown_ex {my : Nat → Int32} {m : Nat} (hm : ∀ i, i < 6 → sHas (nI m) (nI i) = true → my i ≤ 18) (h0 : m ≠ 0) (h6 : m < 64) : ∃ d, d < 6 ∧ sDown my (nI m) = nI d ∧ sHas (nI m) (nI d) = true := by
  unfold sDown
  have hT := sCall_TQ hm
  generalize sCall my (nI m) = w at hT ⊢
  by_cases q : w.2.1 = -9
  · rw [if_pos q]
    obtain ⟨k, h1, h2⟩ := bit_ex h0 h6
    exact lstN_ex 6 0 k rfl (Nat.zero_le _) h1 h2
  · rw [if_neg q]
    rcases hT.2.1 with h | ⟨k, h1, h2, h3⟩
    · exact absurd h q
    · exact ⟨k, h1, h2, h3⟩
theorem sSec_ex {my : Nat → Int32} {m : Nat} (hm : ∀ i, i < 6 → sHas (nI m) (nI i) = true → my i ≤ 18) : (sCall my (nI m)).2.2.1 = -9 ∨ ∃ d, d < 6 ∧ (sCall my (nI m)).2.2.1 = nI d ∧ sHas (nI m) (nI d) = true := (sCall_TQ hm).2.2.1
theorem lt_c {c m k : Nat} (hc : c ≤ 6) (hm : m < 2 ^ c) (hk : k < 6) (h : sHas (nI m) (nI k) = true) : k < c := by
  rcases Nat.lt_or_ge k c with q | q
  · exact q
  · rw [noB_n hm hc k q hk] at h
    cases h
/-- hastes are digits -/
def HH (F : Nat → Nat → Int32) (c : Nat) : Prop := ∀ p, p < c → ∃ a : Nat, a ≤ 9 ∧ F 5 p = nI a
theorem sWo_le {k : Int32} {a : Nat} (ha : a ≤ 9) : sWo k (nI a) ≤ 18 := by
  unfold sWo
  have hd : ∀ a : Fin 10, nI a.1 ≤ 18 ∧ (2 : Int32) * nI a.1 ≤ 18 ∧ nI a.1 / 2 ≤ 18 := by decide +kernel
  have := hd ⟨a, by omega⟩
  split
  · exact this.1
  · split
    · exact this.2.1
    · exact this.2.2
theorem sMayM_le (k h r g : Int32) : sMayM k h r g ≤ sWo k h := by
  unfold sMayM
  split
  · assumption
  · exact Int32.le_refl _
theorem myM_le {I F : Nat → Nat → Int32} {c m : Nat} (hc : c ≤ 6) (hH : HH F c) (hm : m < 2 ^ c) : ∀ i, i < 6 → sHas (nI m) (nI i) = true → myM I F i ≤ 18 := by
  intro i hi h
  obtain ⟨a, ha, e⟩ := hH i (lt_c hc hm hi h)
  have h1 := sMayM_le (F 4 i) (F 5 i) (F 6 i) (I 0 6)
  have h2 := sWo_le (k := F 4 i) ha
  rw [← e] at h2
  exact Int32.le_trans h1 h2

