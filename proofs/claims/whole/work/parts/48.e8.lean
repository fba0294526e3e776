theorem sumN_sub (f h : Nat → Int32) : ∀ c, sumN (fun i => f i - h i) c = sumN f c - sumN h c
  | 0 => (Int32.sub_self 0).symm
  | c + 1 => by
    rw [sumN, sumN, sumN, sumN_sub f h c]
    simp only [Int32.sub_eq_add_neg, Int32.neg_add]
    ac_rfl
theorem sumN_sw (d : Nat → Nat → Int32) (m : Nat) : ∀ c, sumN (fun p => sumN (fun q => d p q) m) c = sumN (fun q => sumN (fun p => d p q) c) m
  | 0 => by
    have : ∀ m, sumN (fun _ => (0 : Int32)) m = 0 := fun m => by
      induction m with
      | zero => rfl
      | succ m ih => rw [sumN, ih]; rfl
    exact (this m).symm
  | c + 1 => by
    rw [sumN, sumN_sw d m c, ← sumN_add]
    rfl
theorem bal_sum (H : Nat → Nat → Int32) (c : Nat) : sumN (blM H c) c = 0 := by
  have h1 : sumN (blM H c) c = sumN (fun p => suN H false p c - suN H true p c) c := rfl
  rw [h1, sumN_sub]
  have h2 : sumN (fun p => suN H false p c) c = sumN (fun p => suN H true p c) c := by
    unfold suN
    exact sumN_sw (fun p q => H 7 (6 * q + p)) c c
  rw [h2]
  exact Int32.sub_self _
theorem unN_tb (b : Nat → Int32) : ∀ c p, (unN b c).testBit p = (decide (p < c) && !decide (b p = 0))
  | 0, p => by
    rw [unN, Nat.zero_testBit]
    simp
  | c + 1, p => by
    rw [unN, Nat.testBit_or, unN_tb b c p]
    by_cases e : p = c
    · subst e
      by_cases q : b p = 0
      · rw [if_pos q, Nat.zero_testBit]
        simp [q]
      · rw [if_neg q, tb_p]
        simp [q]
    · have h1 : (if b c = 0 then 0 else 2 ^ c).testBit p = false := by
        split
        · exact Nat.zero_testBit _
        · rw [tb_p]
          simp [Ne.symm e]
      rw [h1, Bool.or_false]
      by_cases w : p < c
      · simp [w, show p < c + 1 by omega]
      · simp [w, show ¬ p < c + 1 by omega]
theorem evS_bc {b b' : Nat → Int32} (h : ∀ p, p < 6 → b p = b' p) (s : Nat) : evS b 6 s = evS b' 6 s := by
  unfold evS
  exact sumN_c 6 (fun i hi => by rw [h i hi])
theorem GS_c {b b' : Nat → Int32} {f : Nat → Nat} (h : ∀ p, p < 6 → b p = b' p) (hf : GS b f) : GS b' f := by
  have hz : ∀ s, zz b' s = zz b s := fun s => by
    unfold zz
    rw [evS_bc h]
  refine ⟨hf.1, fun s hs h0 => ?_⟩
  rw [hz]
  exact hf.2 s hs h0

theorem e_cleared {l : Launch} {D : va_G} {tc : Nat → ClassId} {pk : Nat → Nat} {G : Nat → Option Nat} {I F : Nat → Nat → Int32} {n c : Nat} {g : Nat → Nat} {x r : Nat} {J H : Nat → Nat → Int32} (hn : 30 ≤ n) (hR : Rel pk G I F n c g x r J H) (w : Int32) : EQ l D tc yX8_cleared cX8_cleared 2 (some .int) 6 131 0 0 yX9_cleared cX9_cleared 5 4 93 [.int w] pk G I F n J H := by
  obtain ⟨hP, hN, hO, hD, hS⟩ := id hR
  obtain ⟨b1, b2, b3, b4, b5, b6, b7, b8, b9, b10, b11, b12⟩ := id hN
  have hW := hP.1
  have hc := hW.1
  have h64 : x < 64 := by
    have h6 : 2 ^ c ≤ 2 ^ 6 := Nat.pow_le_pow_right (by decide) hc
    omega
  have hmy := my_eq (J := J) hP b3
  have hH := rP_HH hP
  refine eq_ss (c := c) (g := g) (x := x) (r := r) (c_X8_cleared pk G I F n hn w) (c_X9_cleared J H hc b2 w) ?_ ?_
  · rw [b1, b2]
    cases h1 : sW w 0 1
    · simp only [Bool.false_eq_true, ↓reduceIte]
    · simp only [↓reduceIte]
      by_cases h2 : nI c = 0
      · rw [if_pos h2, if_pos h2]
      · rw [if_neg h2, if_neg h2]
        by_cases h3 : w = 0
        · rw [if_pos h3, if_pos (Or.inl h3), steps_eq hc hO]
        · rw [if_neg h3]
          have hb0 : ∀ p, c ≤ p → p < 6 → blM H c p = 0 := fun p hp h6 => bal_0 hc hO h6 hp
          have hbb : ∀ p, p < 6 → blN F (F 15) 6 p = blM H c p := fun p hp => by
            unfold blN
            rw [if_pos hp, bal_eq hc hO hp]
          have hU6 : unN (blM H c) c < 64 := by
            have h4 := unN_lt (blM H c) c
            have h6 : 2 ^ c ≤ 2 ^ 6 := Nat.pow_le_pow_right (by decide) hc
            omega
          have hU : ∀ p, p < 6 → (unN (blM H c) c).testBit p = false → blM H c p = 0 := fun p hp h4 => by
            rw [unN_tb] at h4
            by_cases q : p < c
            · simpa [q] using h4
            · exact hb0 p (by omega) hp
          have hev : evS (blM H c) 6 (unN (blM H c) c) = 0 := by
            rw [← evS_6 hc hb0]
            unfold evS
            rw [sumN_c (g := blM H c) c (fun i hi => by
              cases q : (unN (blM H c) c).testBit i
              · rw [hU i (by omega) q]; rfl
              · rfl)]
            exact bal_sum H c
          obtain ⟨ge, gr⟩ := groups_eq hU6 hU hev (GS_c hbb (gp_GS (F 16) (blN F (F 15) 6))) (gm_RS (b := blM H c) (H 11) hc hb0 hU6)
          have hg := gp_all (F 16) (blN F (F 15) 6) 63 (by decide)
          have hg6 : szN 6 63 = 6 := by decide
          rw [hg.1]
          have hg2 := hg.2.1
          rw [hg6] at hg2
          generalize (gpN (F 16) (blN F (F 15) 6) 63 63).toNatClampNeg = v at ge hg2 ⊢
          by_cases hu0 : unN (blM H c) c = 0
          · rw [if_pos (Or.inr hu0)]
            rw [if_pos hu0, hu0, show szN 6 0 = 0 by decide] at ge
            have hv : v = 6 := by omega
            have hz : ∀ p, p < c → (fun p => if blM H c p ≤ 0 then 0 else blM H c p) p = (fun _ => 0) p := fun p hp => by
              have := hU p (by omega) (by rw [hu0, Nat.zero_testBit])
              simp only
              rw [this]
              exact if_pos (Int32.le_refl _)
            rw [sumN_c c hz, hv]
            have : ∀ m, sumN (fun _ => (0 : Int32)) m = 0 := fun m => by
              induction m with
              | zero => rfl
              | succ m ih => rw [sumN, ih]; rfl
            rw [this]
            rfl
          · rw [if_neg (fun q => q.elim h3 hu0)]
            rw [if_neg hu0] at ge
            have hr1 := gr hu0
            obtain ⟨o1, _⟩ := gm_all (b := blM H c) (H 11) hc hb0 hU6 (unN (blM H c) c) (Nat.le_refl _) hu0
            obtain ⟨p1, p2, p3⟩ := okv_eq (sz_6 hU6) o1
            have e9 := p2.resolve_left (fun q => by
              rw [q] at hr1
              exact absurd hr1 (by decide))
            have hs6 := sz_6 hU6
            rw [e9]
            generalize (gmN (blM H c) c (H 11) (unN (blM H c) c) (unN (blM H c) c)).toNatClampNeg = u at ge p1 ⊢
            rw [show (6 : Int32) = nI 6 from rfl, pk_sub hg2, pk_sub p1]
            congr 2
            omega
  · exact hR
