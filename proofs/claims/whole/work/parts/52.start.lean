/-! the worlds at the start -/
def I0 : Nat → Nat → Int32 := fun _ _ => 0
def H0 : Nat → Nat → Int32
  | 1 => upd (upd (upd (upd (fun _ => 0) (0 : Int32).toNatClampNeg (-9)) (1 : Int32).toNatClampNeg (-9)) (2 : Int32).toNatClampNeg (-9)) (3 : Int32).toNatClampNeg (-9)
  | _ => fun _ => 0
def pk0 : Nat → Nat := fun _ => 0
def G0 : Nat → Option Nat := fun _ => none
theorem up4 {a b c d : Nat} : va_up (va_up (va_up (va_up (fun _ => none) (0 : Int32).toNatClampNeg (some a)) (1 : Int32).toNatClampNeg (some b)) (2 : Int32).toNatClampNeg (some c)) (3 : Int32).toNatClampNeg (some d) = fun j => (if j < 4 then some (22 + j) else none : Option Nat).map (fun k => if k = 22 then a else if k = 23 then b else if k = 24 then c else d) := by
  funext j
  have e0 : (0 : Int32).toNatClampNeg = 0 := by decide
  have e1 : (1 : Int32).toNatClampNeg = 1 := by decide
  have e2 : (2 : Int32).toNatClampNeg = 2 := by decide
  have e3 : (3 : Int32).toNatClampNeg = 3 := by decide
  rw [e0, e1, e2, e3]
  match j with
  | 0 => simp [va_up]
  | 1 => simp [va_up]
  | 2 => simp [va_up]
  | 3 => simp [va_up]
  | j + 4 => simp [va_up]
set_option maxRecDepth 100000 in
set_option maxHeartbeats 4000000 in
theorem x8_ws {tc : Nat → ClassId} (q a1 a2 a3 a4 b5 b6 a7 b8 b9 b10 a11 b12 b13 b14 a15 a16 b17 a18 b19 a20 b21 a22 b23 : Nat) : ∃ ad : Nat → Nat, ad 0 = q ∧ ∀ (D : va_G) (A : Nat → Prop) (H : Heap), va_P D vwCl [(q, .inr (8, [.ref a1, .ref a2, .ref a3, .ref a4, .ref a7, .ref a11, .ref a15, .int 0, .int 0, .int 0, .int 0, .int 0])), (a1, .inl (tc 2, 4, .inr (.inr (.inr (.inr (va_up (va_up (va_up (va_up (fun _ => none) (0 : Int32).toNatClampNeg (some a16)) (1 : Int32).toNatClampNeg (some a18)) (2 : Int32).toNatClampNeg (some a20)) (3 : Int32).toNatClampNeg (some a22))))))), (a2, .inl (tc 3, 6, .inr (.inr (.inr (.inr (fun _ => none)))))), (a3, .inl (tc 0, 6, .inl (fun _ => 0))), (a4, .inr (2, [.ref b5, .ref b6, .int 0, .int 0, .int 0])), (b5, .inl (tc 0, 6, .inl (fun _ => 0))), (b6, .inl (tc 0, 6, .inl (fun _ => 0))), (a7, .inr (0, [.ref b8, .ref b9, .ref b10])), (b8, .inl (tc 4, 6, .inr (.inr (.inr (.inr (fun j => if j < 6 then some (b8 + 1 + j) else none)))))), (b8 + 1, .inl (tc 0, 6, .inl (fun _ => 0))), (b8 + 2, .inl (tc 0, 6, .inl (fun _ => 0))), (b8 + 3, .inl (tc 0, 6, .inl (fun _ => 0))), (b8 + 4, .inl (tc 0, 6, .inl (fun _ => 0))), (b8 + 5, .inl (tc 0, 6, .inl (fun _ => 0))), (b8 + 6, .inl (tc 0, 6, .inl (fun _ => 0))), (b9, .inl (tc 0, 6, .inl (fun _ => 0))), (b10, .inl (tc 0, 64, .inl (fun _ => 0))), (a11, .inr (5, [.ref b12, .ref b13, .ref b14, .int 0])), (b12, .inl (tc 0, 8, .inl (fun _ => 0))), (b13, .inl (tc 0, 8, .inl (fun _ => 0))), (b14, .inl (tc 1, 8, .inl (fun _ => 0))), (a15, .inr (7, [.int 0])), (a16, .inr (6, [.ref b17, .int 0, .int 0, .int 0])), (b17, .inl (tc 0, 60, .inl (fun _ => 0))), (a18, .inr (6, [.ref b19, .int 0, .int 0, .int 0])), (b19, .inl (tc 0, 60, .inl (fun _ => 0))), (a20, .inr (6, [.ref b21, .int 0, .int 0, .int 0])), (b21, .inl (tc 0, 60, .inl (fun _ => 0))), (a22, .inr (6, [.ref b23, .int 0, .int 0, .int 0])), (b23, .inl (tc 0, 60, .inl (fun _ => 0)))] H → va_D A [(q, .inr (8, [.ref a1, .ref a2, .ref a3, .ref a4, .ref a7, .ref a11, .ref a15, .int 0, .int 0, .int 0, .int 0, .int 0])), (a1, .inl (tc 2, 4, .inr (.inr (.inr (.inr (va_up (va_up (va_up (va_up (fun _ => none) (0 : Int32).toNatClampNeg (some a16)) (1 : Int32).toNatClampNeg (some a18)) (2 : Int32).toNatClampNeg (some a20)) (3 : Int32).toNatClampNeg (some a22))))))), (a2, .inl (tc 3, 6, .inr (.inr (.inr (.inr (fun _ => none)))))), (a3, .inl (tc 0, 6, .inl (fun _ => 0))), (a4, .inr (2, [.ref b5, .ref b6, .int 0, .int 0, .int 0])), (b5, .inl (tc 0, 6, .inl (fun _ => 0))), (b6, .inl (tc 0, 6, .inl (fun _ => 0))), (a7, .inr (0, [.ref b8, .ref b9, .ref b10])), (b8, .inl (tc 4, 6, .inr (.inr (.inr (.inr (fun j => if j < 6 then some (b8 + 1 + j) else none)))))), (b8 + 1, .inl (tc 0, 6, .inl (fun _ => 0))), (b8 + 2, .inl (tc 0, 6, .inl (fun _ => 0))), (b8 + 3, .inl (tc 0, 6, .inl (fun _ => 0))), (b8 + 4, .inl (tc 0, 6, .inl (fun _ => 0))), (b8 + 5, .inl (tc 0, 6, .inl (fun _ => 0))), (b8 + 6, .inl (tc 0, 6, .inl (fun _ => 0))), (b9, .inl (tc 0, 6, .inl (fun _ => 0))), (b10, .inl (tc 0, 64, .inl (fun _ => 0))), (a11, .inr (5, [.ref b12, .ref b13, .ref b14, .int 0])), (b12, .inl (tc 0, 8, .inl (fun _ => 0))), (b13, .inl (tc 0, 8, .inl (fun _ => 0))), (b14, .inl (tc 1, 8, .inl (fun _ => 0))), (a15, .inr (7, [.int 0])), (a16, .inr (6, [.ref b17, .int 0, .int 0, .int 0])), (b17, .inl (tc 0, 60, .inl (fun _ => 0))), (a18, .inr (6, [.ref b19, .int 0, .int 0, .int 0])), (b19, .inl (tc 0, 60, .inl (fun _ => 0))), (a20, .inr (6, [.ref b21, .int 0, .int 0, .int 0])), (b21, .inl (tc 0, 60, .inl (fun _ => 0))), (a22, .inr (6, [.ref b23, .int 0, .int 0, .int 0])), (b23, .inl (tc 0, 60, .inl (fun _ => 0)))] → va_P D vwCl (aw_ws tc ad 30 (hC pk0 G0 I0 I0)) H ∧ va_D A (aw_ws tc ad 30 (hC pk0 G0 I0 I0)) := by
  refine ⟨fun k => [q, a1, a2, a3, a4, b5, b6, a7, b8, b8 + 1, b8 + 2, b8 + 3, b8 + 4, b8 + 5, b8 + 6, b9, b10, a11, b12, b13, b14, a15, a16, a18, a20, a22, b17, b19, b21, b23].getD k 0, rfl, fun D A H hP hD => ?_⟩
  have f1 : (va_up (va_up (va_up (va_up (fun _ => none) (0 : Int32).toNatClampNeg (some a16)) (1 : Int32).toNatClampNeg (some a18)) (2 : Int32).toNatClampNeg (some a20)) (3 : Int32).toNatClampNeg (some a22) : Nat → Option Nat) = fun j => (if j < 4 then some (22 + j) else none : Option Nat).map (fun k => [q, a1, a2, a3, a4, b5, b6, a7, b8, b8 + 1, b8 + 2, b8 + 3, b8 + 4, b8 + 5, b8 + 6, b9, b10, a11, b12, b13, b14, a15, a16, a18, a20, a22, b17, b19, b21, b23].getD k 0) := by
    rw [up4]
    funext j
    match j with
    | 0 => rfl
    | 1 => rfl
    | 2 => rfl
    | 3 => rfl
    | j + 4 => rw [if_neg (by omega)]; rfl
  have f8 : (fun j => if j < 6 then some (b8 + 1 + j) else none : Nat → Option Nat) = fun j => (if j < 6 then some (9 + j) else none : Option Nat).map (fun k => [q, a1, a2, a3, a4, b5, b6, a7, b8, b8 + 1, b8 + 2, b8 + 3, b8 + 4, b8 + 5, b8 + 6, b9, b10, a11, b12, b13, b14, a15, a16, a18, a20, a22, b17, b19, b21, b23].getD k 0) := by
    funext j
    match j with
    | 0 => rfl
    | 1 => rfl
    | 2 => rfl
    | 3 => rfl
    | 4 => rfl
    | 5 => rfl
    | j + 6 => rw [if_neg (by omega), if_neg (by omega)]; rfl
  rw [f1, f8] at hP hD
  exact ⟨hP.sub [0, 1, 2, 3, 4, 5, 6, 7, 8, 9, 10, 11, 12, 13, 14, 15, 16, 17, 18, 19, 20, 21, 22, 24, 26, 28, 23, 25, 27, 29] rfl, hD.sub [0, 1, 2, 3, 4, 5, 6, 7, 8, 9, 10, 11, 12, 13, 14, 15, 16, 17, 18, 19, 20, 21, 22, 24, 26, 28, 23, 25, 27, 29] (by decide) rfl⟩
set_option maxRecDepth 100000 in
set_option maxHeartbeats 4000000 in
theorem x9_ws {tc : Nat → ClassId} (q a1 a2 a3 a4 a5 a6 a7 a8 a9 a10 a11 a12 a13 a14 : Nat) : ∃ ad : Nat → Nat, ad 0 = q ∧ [(q, .inr (9, [.int 0, .int 0, .ref a1, .ref a2, .ref a3, .int 0, .int 0, .int 0, .int 0, .ref a4, .ref a5, .ref a6, .ref a7, .int 0, .int 0, .int 0, .ref a8, .int 0, .int 0, .int 0, .ref a9, .ref a10, .int 0, .ref a11, .int 0, .ref a12, .ref a13, .ref a14])), (a1, .inl (tc 0, 4, .inl (upd (upd (upd (upd (fun _ => 0) (0 : Int32).toNatClampNeg (-9)) (1 : Int32).toNatClampNeg (-9)) (2 : Int32).toNatClampNeg (-9)) (3 : Int32).toNatClampNeg (-9)))), (a2, .inl (tc 0, 4, .inl (fun _ => 0))), (a3, .inl (tc 0, 240, .inl (fun _ => 0))), (a4, .inl (tc 0, 6, .inl (fun _ => 0))), (a5, .inl (tc 0, 6, .inl (fun _ => 0))), (a6, .inl (tc 0, 6, .inl (fun _ => 0))), (a7, .inl (tc 0, 36, .inl (fun _ => 0))), (a8, .inl (tc 0, 18, .inl (fun _ => 0))), (a9, .inl (tc 0, 6, .inl (fun _ => 0))), (a10, .inl (tc 0, 6, .inl (fun _ => 0))), (a11, .inl (tc 0, 64, .inl (fun _ => 0))), (a12, .inl (tc 0, 8, .inl (fun _ => 0))), (a13, .inl (tc 0, 8, .inl (fun _ => 0))), (a14, .inl (tc 0, 8, .inl (fun _ => 0)))] = aw_ws tc ad 15 (hM I0 H0) := ⟨fun k => [q, a1, a2, a3, a4, a5, a6, a7, a8, a9, a10, a11, a12, a13, a14].getD k 0, rfl, rfl⟩
theorem Rel0 : Rel pk0 G0 I0 I0 30 0 (fun _ => 0) 0 0 I0 H0 := by
  refine ⟨⟨⟨by decide, fun p hp => absurd hp (by omega)⟩, fun p a h => (by cases h), fun p q hp => absurd hp (by omega), fun p hp => absurd hp (by omega)⟩, ⟨nI_0.symm, nI_0.symm, rfl, by decide, nI_0.symm, nI_0.symm, rfl, rfl, rfl, by decide, nI_0.symm, nI_0.symm⟩, fun p q hp hq => ⟨rfl, fun _ => rfl⟩, fun k hk => absurd hk (by omega), fun k hk => ⟨⟨0, by decide, nI_0.symm⟩, ⟨0, by decide, nI_0.symm⟩, Or.inl ⟨rfl, ?_⟩⟩⟩
  match k, hk with
  | 0, _ => decide
  | 1, _ => decide
  | 2, _ => decide
  | 3, _ => decide
