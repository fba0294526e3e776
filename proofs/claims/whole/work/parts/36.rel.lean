/-! the relation of the two states -/
theorem am_mono {l : Launch} {D : va_G} {tc : Nat → ClassId} {y : MethodName} {cc : ByteArray} {nL : Nat} {ret : Option FieldType} {fr lo mc ms : Nat} {av : List Value} {n : Nat} {h : aw_H} {Q Q' : Option Value → Nat → aw_H → Prop} (hM : AM l D tc y cc nL ret fr lo mc ms av n h Q) (hQ : ∀ v n1 h1, Q v n1 h1 → Q' v n1 h1) : AM l D tc y cc nL ret fr lo mc ms av n h Q' := by
  intro ad A sz hA p e h1 h2 h3 s m args below h4 h5 h6 h7
  obtain ⟨k, o, a1, a2, a3, ⟨⟨v, n', h', ad', b1, b2, b3, b4, b5, b6⟩, b7⟩, b8⟩ := hM ad A sz hA p e h1 h2 h3 s m args below h4 h5 h6 h7
  exact ⟨k, o, a1, a2, a3, ⟨⟨v, n', h', ad', b1, hQ _ _ _ b2, b3, b4, b5, b6⟩, b7⟩, b8⟩
/-- people -/
def rP (pk : Nat → Nat) (G : Nat → Option Nat) (I : Nat → Nat → Int32) (n c : Nat) (g : Nat → Nat) (H : Nat → Nat → Int32) : Prop := WP pk G n c g ∧ HG G n ∧ (∀ p q, p < c → q < c → g p = g q → p = q) ∧ ∀ p, p < c → kd (pk (g p)) = H 4 p ∧ I (g p + 30) 0 = nI p ∧ I (g p + 30) 1 = H 5 p ∧ I (g p + 30) 2 = H 6 p ∧ ∃ a : Nat, a ≤ 9 ∧ H 5 p = nI a
/-- numbers -/
def rN (I J : Nat → Nat → Int32) (c x r : Nat) : Prop := I 0 7 = nI c ∧ J 0 5 = nI c ∧ I 0 8 = J 0 6 ∧ x < 2 ^ c ∧ I 0 9 = nI x ∧ J 0 7 = nI x ∧ I 0 10 = J 0 8 ∧ I 0 11 = J 0 0 ∧ I 21 0 = J 0 1 ∧ r ≤ 8 ∧ I 17 3 = nI r ∧ J 0 24 = nI r
/-- debts -/
def rO (F H : Nat → Nat → Int32) (c : Nat) : Prop := ∀ p q, p < 6 → q < 6 → F (9 + p) q = H 7 (6 * p + q) ∧ (c ≤ p ∨ c ≤ q → H 7 (6 * p + q) = 0)
/-- readings -/
def rR (F H : Nat → Nat → Int32) (c r : Nat) : Prop := ∀ k, k < r → F 18 k = H 12 k ∧ F 19 k = H 13 k ∧ F 20 k = H 14 k ∧ ∃ w : Nat, w < c ∧ H 12 k = nI w
/-- sheets -/
def rS1 (I F H : Nat → Nat → Int32) (k : Nat) : Prop := (∃ z : Nat, z ≤ 60 ∧ I (22 + k) 3 = nI z) ∧ (∃ z : Nat, z ≤ 60 ∧ H 2 k = nI z) ∧ ((I (22 + k) 1 = 0 ∧ H 1 k = -9) ∨ (I (22 + k) 1 = 1 ∧ H 1 k = I (22 + k) 2 ∧ sW (H 1 k) 0 2 = true ∧ H 2 k = I (22 + k) 3 ∧ ∀ i : Nat, i < (H 2 k).toNatClampNeg → F (26 + k) i = H 3 (60 * k + i)))
def rS (I F H : Nat → Nat → Int32) : Prop := ∀ k, k < 4 → rS1 I F H k
def Rel (pk : Nat → Nat) (G : Nat → Option Nat) (I F : Nat → Nat → Int32) (n c : Nat) (g : Nat → Nat) (x r : Nat) (J H : Nat → Nat → Int32) : Prop := rP pk G I n c g H ∧ rN I J c x r ∧ rO F H c ∧ rR F H c r ∧ rS I F H
theorem Rel_SC {pk : Nat → Nat} {G : Nat → Option Nat} {I F I1 F1 : Nat → Nat → Int32} {n c : Nat} {g : Nat → Nat} {x r : Nat} {J H : Nat → Nat → Int32} (hS : SC I F I1 F1) (h : Rel pk G I F n c g x r J H) : Rel pk G I1 F1 n c g x r J H := by
  obtain ⟨⟨a1, a2, a3, a4⟩, ⟨b1, b2, b3, b4, b5, b6, b7, b8, b9, b10, b11, b12⟩, ho, hr, hs⟩ := h
  have i0 := hS.1 0 (by decide)
  have i17 := hS.1 17 (by decide)
  have i21 := hS.1 21 (by decide)
  refine ⟨⟨a1, a2, a3, fun p hp => ?_⟩, ⟨?_, b2, ?_, b4, ?_, b6, ?_, ?_, ?_, b10, ?_, b12⟩, fun p q hp hq => ?_, fun k hk => ?_, fun k hk => ?_⟩
  · rw [hS.1 (g p + 30) (by omega)]
    exact a4 p hp
  · rw [i0]; exact b1
  · rw [i0]; exact b3
  · rw [i0]; exact b5
  · rw [i0]; exact b7
  · rw [i0]; exact b8
  · rw [i21]; exact b9
  · rw [i17]; exact b11
  · rw [hS.2 (9 + p) (by omega) (by omega) (by omega) (by omega) (by omega)]
    exact ho p q hp hq
  · rw [hS.2 18 (by decide) (by decide) (by decide) (by decide) (by decide), hS.2 19 (by decide) (by decide) (by decide) (by decide) (by decide), hS.2 20 (by decide) (by decide) (by decide) (by decide) (by decide)]
    exact hr k hk
  · have := hs k hk
    unfold rS1 at this ⊢
    rw [hS.1 (22 + k) (by omega), hS.2 (26 + k) (by omega) (by omega) (by omega) (by omega) (by omega)]
    exact this
theorem Rel_SM {pk : Nat → Nat} {G : Nat → Option Nat} {I F : Nat → Nat → Int32} {n c : Nat} {g : Nat → Nat} {x r : Nat} {J H J1 H1 : Nat → Nat → Int32} (hS : SM J H J1 H1) (h : Rel pk G I F n c g x r J H) : Rel pk G I F n c g x r J1 H1 := by
  obtain ⟨⟨a1, a2, a3, a4⟩, ⟨b1, b2, b3, b4, b5, b6, b7, b8, b9, b10, b11, b12⟩, ho, hr, hs⟩ := h
  have f (k : Nat) (h1 : k ≠ 13 := by decide) (h2 : k ≠ 14 := by decide) (h3 : k ≠ 15 := by decide) (h4 : k ≠ 17 := by decide) (h5 : k ≠ 18 := by decide) (h6 : k ≠ 19 := by decide) (h7 : k ≠ 22 := by decide) : J1 0 k = J 0 k := hS.1 k h1 h2 h3 h4 h5 h6 h7
  have q (k : Nat) (h1 : k ≠ 8 := by decide) (h2 : k ≠ 9 := by decide) (h3 : k ≠ 10 := by decide) (h4 : k ≠ 11 := by decide) : H1 k = H k := hS.2 k h1 h2 h3 h4
  refine ⟨⟨a1, a2, a3, fun p hp => ?_⟩, ⟨b1, ?_, ?_, b4, b5, ?_, ?_, ?_, ?_, b10, b11, ?_⟩, fun p q' hp hq => ?_, fun k hk => ?_, fun k hk => ?_⟩
  · rw [q 4, q 5, q 6]
    exact a4 p hp
  · rw [f 5]; exact b2
  · rw [f 6]; exact b3
  · rw [f 7]; exact b6
  · rw [f 8]; exact b7
  · rw [f 0]; exact b8
  · rw [f 1]; exact b9
  · rw [f 24]; exact b12
  · rw [q 7]; exact ho p q' hp hq
  · rw [q 12, q 13, q 14]; exact hr k hk
  · have := hs k hk
    unfold rS1 at this ⊢
    rw [q 1, q 2, q 3]
    exact this
/-- an answer of the method's own type -/
def isN : Option FieldType → Value → Bool
  | some .int, .int _ => true
  | some .long, .long _ => true
  | _, _ => false
/-- a call of the one and of the other from related states: the same answer, related states -/
def EQ (l : Launch) (D : va_G) (tc : Nat → ClassId) (y : MethodName) (cc : ByteArray) (nL : Nat) (ret : Option FieldType) (fr lo mc ms : Nat) (y' : MethodName) (cc' : ByteArray) (nL' : Nat) (fr' lo' : Nat) (av : List Value) (pk : Nat → Nat) (G : Nat → Option Nat) (I F : Nat → Nat → Int32) (n : Nat) (J H : Nat → Nat → Int32) : Prop :=
  ∃ (w : Value) (pk1 : Nat → Nat) (G1 : Nat → Option Nat) (I1 F1 : Nat → Nat → Int32) (n1 c1 : Nat) (g1 : Nat → Nat) (x1 r1 : Nat) (J1 H1 : Nat → Nat → Int32),
    AM l D tc y cc nL ret fr lo mc ms (.ref 0 :: av) n (hC pk G I F) (fun v n' h' => v = some w ∧ n' = n1 ∧ ∃ I2 F2, h' = hC pk1 G1 I2 F2 ∧ SC I1 F1 I2 F2) ∧
    AM l D tc y' cc' nL' ret fr' lo' 0 0 (.ref 0 :: av) 15 (hM J H) (fun v n' h' => n' = 15 ∧ (v = some w ∧ ∃ J2 H2, h' = hM J2 H2 ∧ SM J1 H1 J2 H2)) ∧
    Rel pk1 G1 I1 F1 n1 c1 g1 x1 r1 J1 H1 ∧ n ≤ n1 ∧ isN ret w = true
theorem SC_refl (I F : Nat → Nat → Int32) : SC I F I F := ⟨fun _ _ => rfl, fun _ _ _ _ _ _ => rfl⟩
section EQR
variable {l : Launch} {D : va_G} {tc : Nat → ClassId} {y : MethodName} {cc : ByteArray} {nL : Nat} {ret : Option FieldType} {fr lo mc ms : Nat} {y' : MethodName} {cc' : ByteArray} {nL' : Nat} {fr' lo' : Nat} {av : List Value} {pk : Nat → Nat} {G : Nat → Option Nat} {I F I1 F1 : Nat → Nat → Int32} {n : Nat} {J H J1 H1 : Nat → Nat → Int32} {w w' : Value} {c : Nat} {g : Nat → Nat} {x r : Nat}
/-- both ways plain -/
theorem eq_pp (h1 : AM l D tc y cc nL ret fr lo 0 0 (.ref 0 :: av) n (hC pk G I F) (fun v n' h' => n' = n ∧ (v = some w ∧ h' = hC pk G I1 F1))) (h2 : AM l D tc y' cc' nL' ret fr' lo' 0 0 (.ref 0 :: av) 15 (hM J H) (fun v n' h' => n' = 15 ∧ (v = some w' ∧ h' = hM J1 H1))) (hw : w = w') (hR : Rel pk G I1 F1 n c g x r J1 H1) (hN : isN ret w = true := by first | rfl | (split <;> rfl)) : EQ l D tc y cc nL ret fr lo 0 0 y' cc' nL' fr' lo' av pk G I F n J H := by
  subst hw
  exact ⟨w, pk, G, I1, F1, n, c, g, x, r, J1, H1, am_mono h1 (fun v n' h' q => ⟨q.2.1, q.1, I1, F1, q.2.2, SC_refl _ _⟩), am_mono h2 (fun v n' h' q => ⟨q.1, q.2.1, J1, H1, q.2.2, SM_refl _ _⟩), hR, Nat.le_refl _, hN⟩
/-- the first with scratch, the second plain -/
theorem eq_sp (h1 : AM l D tc y cc nL ret fr lo 0 0 (.ref 0 :: av) n (hC pk G I F) (fun v n' h' => n' = n ∧ (∃ I2 F2, SC I1 F1 I2 F2 ∧ h' = hC pk G I2 F2 ∧ v = some w))) (h2 : AM l D tc y' cc' nL' ret fr' lo' 0 0 (.ref 0 :: av) 15 (hM J H) (fun v n' h' => n' = 15 ∧ (v = some w' ∧ h' = hM J1 H1))) (hw : w = w') (hR : Rel pk G I1 F1 n c g x r J1 H1) (hN : isN ret w = true := by first | rfl | (split <;> rfl)) : EQ l D tc y cc nL ret fr lo 0 0 y' cc' nL' fr' lo' av pk G I F n J H := by
  subst hw
  refine ⟨w, pk, G, I1, F1, n, c, g, x, r, J1, H1, am_mono h1 (fun v n' h' q => ?_), am_mono h2 (fun v n' h' q => ⟨q.1, q.2.1, J1, H1, q.2.2, SM_refl _ _⟩), hR, Nat.le_refl _, hN⟩
  obtain ⟨e, I2, F2, a, b, d⟩ := q
  exact ⟨d, e, I2, F2, b, a⟩
/-- both with scratch -/
theorem eq_ss (h1 : AM l D tc y cc nL ret fr lo 0 0 (.ref 0 :: av) n (hC pk G I F) (fun v n' h' => n' = n ∧ (∃ I2 F2, SC I1 F1 I2 F2 ∧ h' = hC pk G I2 F2 ∧ v = some w))) (h2 : AM l D tc y' cc' nL' ret fr' lo' 0 0 (.ref 0 :: av) 15 (hM J H) (fun v n' h' => n' = 15 ∧ (∃ J2 H2, h' = hM J2 H2 ∧ SM J1 H1 J2 H2 ∧ v = some w'))) (hw : w = w') (hR : Rel pk G I1 F1 n c g x r J1 H1) (hN : isN ret w = true := by first | rfl | (split <;> rfl)) : EQ l D tc y cc nL ret fr lo 0 0 y' cc' nL' fr' lo' av pk G I F n J H := by
  subst hw
  refine ⟨w, pk, G, I1, F1, n, c, g, x, r, J1, H1, am_mono h1 (fun v n' h' q => ?_), am_mono h2 (fun v n' h' q => ?_), hR, Nat.le_refl _, hN⟩
  · obtain ⟨e, I2, F2, a, b, d⟩ := q
    exact ⟨d, e, I2, F2, b, a⟩
  · obtain ⟨e, J2, H2, a, b, d⟩ := q
    exact ⟨e, d, J2, H2, a, b⟩
end EQR

