/-! the two systems' worlds: every place by number, what its int fields (I) and its int rows (F) hold -/
def b2i (b : Bool) : Int32 := if b then 1 else 0
theorem aw_nb (b : Bool) : narrow .boolean (.int (b2i b)) = .int (b2i b) := by cases b <;> rfl
theorem b2i_eq0 (b : Bool) : b2i b = 0 ↔ b = false := by cases b <;> decide
theorem b2i_ne0 (b : Bool) : ¬ b2i b = 0 ↔ b = true := by cases b <;> decide
def st_I (I : Nat → Nat → Int32) (a k : Nat) (v : Int32) : Nat → Nat → Int32 := fun b => if b = a then upd (I a) k v else I b
def st_F (F : Nat → Nat → Int32) (a : Nat) (g : Nat → Int32) : Nat → Nat → Int32 := fun b => if b = a then g else F b
def st_h (ent : Nat → (Nat → Int32) → (Nat → Int32) → va_E) (I F : Nat → Nat → Int32) : aw_H := fun a => ent a (I a) (F a)
theorem st_hI {ent : Nat → (Nat → Int32) → (Nat → Int32) → va_E} {I F : Nat → Nat → Int32} {o k : Nat} {v : Int32} {e : va_E} (h : ent o (upd (I o) k v) (F o) = e) : aw_up (st_h ent I F) o e = st_h ent (st_I I o k v) F := by
  funext a
  unfold aw_up st_h st_I
  by_cases q : a = o
  · subst q
    simp [h]
  · simp [q]
theorem st_hF {ent : Nat → (Nat → Int32) → (Nat → Int32) → va_E} {I F : Nat → Nat → Int32} {o : Nat} {g : Nat → Int32} {e : va_E} (h : ent o (I o) g = e) : aw_up (st_h ent I F) o e = st_h ent I (st_F F o g) := by
  funext a
  unfold aw_up st_h st_F
  by_cases q : a = o
  · subst q
    simp [h]
  · simp [q]
theorem st_Is (I : Nat → Nat → Int32) (a k : Nat) (v : Int32) : st_I I a k v a k = v := by simp [st_I, upd]
theorem st_In {I : Nat → Nat → Int32} {a k b j : Nat} {v : Int32} (h : ¬ (b = a ∧ j = k)) : st_I I a k v b j = I b j := by
  unfold st_I upd
  by_cases e : b = a
  · subst e
    simp
    intro e2
    exact absurd ⟨rfl, e2⟩ h
  · simp [e]
theorem st_Fs (F : Nat → Nat → Int32) (a : Nat) (g : Nat → Int32) : st_F F a g a = g := by simp [st_F]
theorem st_Fn {F : Nat → Nat → Int32} {a b : Nat} {g : Nat → Int32} (h : b ≠ a) : st_F F a g b = F b := by simp [st_F, h]
section STR
variable {l : Launch} {D : va_G} {tc : Nat → ClassId} {own : String} {cc : ByteArray} {nL : Nat} {ret : Option FieldType} {R : Room} {n0 mc ms : Nat} {Q : Option Value → Nat → aw_H → Prop} {pc : Nat} {L : List (Option Value)} {st rest : List Value} {n : Nat} {h : aw_H} {cells slots : Nat} {ent : Nat → (Nat → Int32) → (Nat → Int32) → va_E} {I I' F F' : Nat → Nat → Int32}
theorem aw_putI {o idx ci k0 : Nat} {C : String} {T : u_T} {N : Nat} {ty : FieldType} {fs : List Value} {x : Int32} (hf : aw_fp own idx ci k0 C T N ty) (d : decode cc pc = .ok (.putfield idx, 3)) (ho : o < n) (he : st_h ent I F o = .inr (ci, fs)) (hn9 : narrow ty (.int x) = .int x) (hfit : fits ty (.int x) = true) (hl : k0 < fs.length) (hh : ent o (upd (I o) k0 x) (F o) = .inr (ci, fs.set k0 (.int x))) (hI : st_I I o k0 x = I') (k : AW l D tc own cc nL ret R n0 mc ms Q (pc + 3) L rest n (st_h ent I' F) cells slots) : AW l D tc own cc nL ret R n0 mc ms Q pc L (.int x :: .ref o :: rest) n (st_h ent I F) cells slots := by
  subst hI
  exact aw_put hf d ho he hn9 hfit hl (st_hI hh) k
theorem aw_puti {o idx ci k0 : Nat} {C : String} {T : u_T} {N : Nat} {ty : FieldType} {fs : List Value} {x : Int32} (hf : aw_fp own idx ci k0 C T N ty) (d : decode cc pc = .ok (.putfield idx, 3)) (ho : o < n) (he : st_h ent I F o = .inr (ci, fs)) (hn9 : narrow ty (.int x) = .int x) (hfit : fits ty (.int x) = true) (hl : k0 < fs.length) (hh : ent o (upd (I o) k0 x) (F o) = .inr (ci, fs.set k0 (.int x))) (k : AW l D tc own cc nL ret R n0 mc ms Q (pc + 3) L rest n (st_h ent (st_I I o k0 x) F) cells slots) : AW l D tc own cc nL ret R n0 mc ms Q pc L (.int x :: .ref o :: rest) n (st_h ent I F) cells slots := aw_put hf d ho he hn9 hfit hl (st_hI hh) k
theorem aw_iasti {o len : Nat} {f : Nat → Int32} {i x : Int32} (d : decode cc pc = .ok (.iastore, 1)) (ho : o < n) (he : st_h ent I F o = .inl (0, len, .inl f)) (hh : ∀ g, ent o (I o) g = .inl (0, len, .inl g)) (hin : vp_in i len) (k : AW l D tc own cc nL ret R n0 mc ms Q (pc + 1) L rest n (st_h ent I (st_F F o (upd f i.toNatClampNeg x))) cells slots) : AW l D tc own cc nL ret R n0 mc ms Q pc L (.int x :: .int i :: .ref o :: rest) n (st_h ent I F) cells slots := aw_iast d ho he hin (st_hF (hh _)) k
theorem aw_iastI {o len : Nat} {f : Nat → Int32} {i x : Int32} (d : decode cc pc = .ok (.iastore, 1)) (ho : o < n) (he : st_h ent I F o = .inl (0, len, .inl f)) (hh : ∀ g, ent o (I o) g = .inl (0, len, .inl g)) (hin : vp_in i len) (hF : st_F F o (upd f i.toNatClampNeg x) = F') (k : AW l D tc own cc nL ret R n0 mc ms Q (pc + 1) L rest n (st_h ent I F') cells slots) : AW l D tc own cc nL ret R n0 mc ms Q pc L (.int x :: .int i :: .ref o :: rest) n (st_h ent I F) cells slots := by
  subst hF
  exact aw_iast d ho he hin (st_hF (hh _)) k
theorem aw_zasti {o len : Nat} {f : Nat → Int32} {i x : Int32} (d : decode cc pc = .ok (.bastore, 1)) (ho : o < n) (he : st_h ent I F o = .inl (1, len, .inl f)) (hh : ∀ g, ent o (I o) g = .inl (1, len, .inl g)) (hin : vp_in i len) (k : AW l D tc own cc nL ret R n0 mc ms Q (pc + 1) L rest n (st_h ent I (st_F F o (upd f i.toNatClampNeg (vp_nar .boolean x)))) cells slots) : AW l D tc own cc nL ret R n0 mc ms Q pc L (.int x :: .int i :: .ref o :: rest) n (st_h ent I F) cells slots := aw_zast d ho he hin (st_hF (hh _)) k
theorem aw_tableC {dflt lo hi : Int} {offs : Array Int} {len : Nat} {x v : Int32} {off : Int} {tgt : Nat} (hx : x = v) (d : decode cc pc = .ok (.tableswitch dflt lo hi offs, len)) (h1 : ¬ v.toInt < lo) (h2 : ¬ hi < v.toInt) (ho : offs[(v.toInt - lo).toNat]? = some off) (ht : (pc : Int) + off = (tgt : Int)) (k : AW l D tc own cc nL ret R n0 mc ms Q tgt L rest n h cells slots) : AW l D tc own cc nL ret R n0 mc ms Q pc L (.int x :: rest) n h cells slots := by
  subst hx
  exact aw_tableIn d h1 h2 ho ht k
theorem aw_lookupC {dflt : Int} {ps : Array (Int × Int)} {len : Nat} {x v : Int32} {off : Int} {tgt : Nat} (hx : x = v) (d : decode cc pc = .ok (.lookupswitch dflt ps, len)) (hp : (ps.toList.zip (ps.toList.drop 1)).all (fun (a, next) => a.1 < next.1) = true) (ho : Op.lookupswitch.offset ps.toList dflt v.toInt = off) (ht : (pc : Int) + off = (tgt : Int)) (k : AW l D tc own cc nL ret R n0 mc ms Q tgt L rest n h cells slots) : AW l D tc own cc nL ret R n0 mc ms Q pc L (.int x :: rest) n h cells slots := by
  subst hx
  exact aw_lookup d hp ho ht k
/-- Math.min and Math.max -/
theorem aw_min {x y : Int32} {idx : Nat} (hl : Cond.methodLink own idx Lib.Math.min.name ∈ aw_gw) (hR : 1 ≤ R.frames ∧ 21 ≤ R.locals) (hc : cells ≤ R.cells ∧ slots ≤ R.slots) (hw : (rest.map fun v => v.category).sum ≤ 8) (d : decode cc pc = .ok (.invokestatic idx, 3)) (k : AW l D tc own cc nL ret R n0 mc ms Q (pc + 3) L (.int (if y < x then y else x) :: rest) n h cells slots) : AW l D tc own cc nL ret R n0 mc ms Q pc L (.int y :: .int x :: rest) n h cells slots := by
  intro p e s m args below meth c H locs ls A ad ad0 X Y
  exact va_mmin X.1 X.2.1 (X.2.2.2.1.trans Y.2.2.2.2.2.1.symm) X.2.2.2.2.1 (X.2.2.2.2.2.1 _ hl) (X.2.2.2.2.2.1 _ sm_Math_min) (X.2.2.2.2.2.1 _ in_J9) (X.2.2.2.2.2.1 _ cd_Math_min) hR.1 (by rw [aw_cats]; omega) hc.1 hc.2 d (k p e s m args below meth c H locs ls A ad ad0 X Y)
theorem aw_max {x y : Int32} {idx : Nat} (hl : Cond.methodLink own idx Lib.Math.max.name ∈ aw_gw) (hR : 1 ≤ R.frames ∧ 21 ≤ R.locals) (hc : cells ≤ R.cells ∧ slots ≤ R.slots) (hw : (rest.map fun v => v.category).sum ≤ 8) (d : decode cc pc = .ok (.invokestatic idx, 3)) (k : AW l D tc own cc nL ret R n0 mc ms Q (pc + 3) L (.int (if x < y then y else x) :: rest) n h cells slots) : AW l D tc own cc nL ret R n0 mc ms Q pc L (.int y :: .int x :: rest) n h cells slots := by
  intro p e s m args below meth c H locs ls A ad ad0 X Y
  exact va_mmax X.1 X.2.1 (X.2.2.2.1.trans Y.2.2.2.2.2.1.symm) X.2.2.2.2.1 (X.2.2.2.2.2.1 _ hl) (X.2.2.2.2.2.1 _ sm_Math_max) (X.2.2.2.2.2.1 _ in_J9) (X.2.2.2.2.2.1 _ cd_Math_max) hR.1 (by rw [aw_cats]; omega) hc.1 hc.2 d (k p e s m args below meth c H locs ls A ad ad0 X Y)
end STR
theorem st_ne {x v : Int32} {z : Int} (hv : v.toInt = z) (h : ¬ x = v) : ¬ x.toInt = z := fun q => h (Int32.toInt_inj.mp (q.trans hv.symm))
theorem aw_out8 {x : Int32} (h0 : ¬ x = 0) (h1 : ¬ x = 1) (h2 : ¬ x = 2) (h3 : ¬ x = 3) (h4 : ¬ x = 4) (h5 : ¬ x = 5) (h6 : ¬ x = 6) (h7 : ¬ x = 7) : x.toInt < 0 ∨ 7 < x.toInt := by
  have := st_ne (z := 0) (by decide) h0
  have := st_ne (z := 1) (by decide) h1
  have := st_ne (z := 2) (by decide) h2
  have := st_ne (z := 3) (by decide) h3
  have := st_ne (z := 4) (by decide) h4
  have := st_ne (z := 5) (by decide) h5
  have := st_ne (z := 6) (by decide) h6
  have := st_ne (z := 7) (by decide) h7
  omega
theorem aw_out5 {x : Int32} (h0 : ¬ x = 0) (h1 : ¬ x = 1) (h2 : ¬ x = 2) (h3 : ¬ x = 3) (h4 : ¬ x = 4) : x.toInt < 0 ∨ 4 < x.toInt := by
  have := st_ne (z := 0) (by decide) h0
  have := st_ne (z := 1) (by decide) h1
  have := st_ne (z := 2) (by decide) h2
  have := st_ne (z := 3) (by decide) h3
  have := st_ne (z := 4) (by decide) h4
  omega
theorem aw_out3 {x : Int32} (h0 : ¬ x = 0) (h1 : ¬ x = 1) (h2 : ¬ x = 2) : x.toInt < 0 ∨ 2 < x.toInt := by
  have := st_ne (z := 0) (by decide) h0
  have := st_ne (z := 1) (by decide) h1
  have := st_ne (z := 2) (by decide) h2
  omega
/-- the class's world: persons stand from place 30 on, pk their kinds' numbers, G who stands in the row of people -/
def entC (pk : Nat → Nat) (G : Nat → Option Nat) : Nat → (Nat → Int32) → (Nat → Int32) → va_E
  | 0, i, _ => .inr (8, [.ref 1, .ref 2, .ref 3, .ref 4, .ref 7, .ref 17, .ref 21, .int (i 7), .int (i 8), .int (i 9), .int (i 10), .int (i 11)])
  | 1, _, _ => .inl (2, 4, .inr (.inr (.inr (.inr (fun k => if k < 4 then some (22 + k) else none)))))
  | 2, _, _ => .inl (3, 6, .inr (.inr (.inr (.inr G))))
  | 3, _, f => .inl (0, 6, .inl f)
  | 4, i, _ => .inr (2, [.ref 5, .ref 6, .int (i 2), .int (i 3), .int (i 4)])
  | 5, _, f => .inl (0, 6, .inl f)
  | 6, _, f => .inl (0, 6, .inl f)
  | 7, _, _ => .inr (0, [.ref 8, .ref 15, .ref 16])
  | 8, _, _ => .inl (4, 6, .inr (.inr (.inr (.inr (fun k => if k < 6 then some (9 + k) else none)))))
  | 9, _, f => .inl (0, 6, .inl f)
  | 10, _, f => .inl (0, 6, .inl f)
  | 11, _, f => .inl (0, 6, .inl f)
  | 12, _, f => .inl (0, 6, .inl f)
  | 13, _, f => .inl (0, 6, .inl f)
  | 14, _, f => .inl (0, 6, .inl f)
  | 15, _, f => .inl (0, 6, .inl f)
  | 16, _, f => .inl (0, 64, .inl f)
  | 17, i, _ => .inr (5, [.ref 18, .ref 19, .ref 20, .int (i 3)])
  | 18, _, f => .inl (0, 8, .inl f)
  | 19, _, f => .inl (0, 8, .inl f)
  | 20, _, f => .inl (1, 8, .inl f)
  | 21, i, _ => .inr (7, [.int (i 0)])
  | 22, i, _ => .inr (6, [.ref 26, .int (i 1), .int (i 2), .int (i 3)])
  | 23, i, _ => .inr (6, [.ref 27, .int (i 1), .int (i 2), .int (i 3)])
  | 24, i, _ => .inr (6, [.ref 28, .int (i 1), .int (i 2), .int (i 3)])
  | 25, i, _ => .inr (6, [.ref 29, .int (i 1), .int (i 2), .int (i 3)])
  | 26, _, f => .inl (0, 60, .inl f)
  | 27, _, f => .inl (0, 60, .inl f)
  | 28, _, f => .inl (0, 60, .inl f)
  | 29, _, f => .inl (0, 60, .inl f)
  | a + 30, i, _ => .inr (pk a, [.int (i 0), .int (i 1), .int (i 2)])
abbrev hC (pk : Nat → Nat) (G : Nat → Option Nat) (I F : Nat → Nat → Int32) : aw_H := st_h (entC pk G) I F
theorem entC_row (pk : Nat → Nat) (G : Nat → Option Nat) {k : Nat} (hk : k < 4) (i f : Nat → Int32) : entC pk G (22 + k) i f = .inr (6, [.ref (26 + k), .int (i 1), .int (i 2), .int (i 3)]) := by
  match k, hk with
  | 0, _ => rfl
  | 1, _ => rfl
  | 2, _ => rfl
  | 3, _ => rfl
theorem entC_cells (pk : Nat → Nat) (G : Nat → Option Nat) {k : Nat} (hk : k < 4) (i f : Nat → Int32) : entC pk G (26 + k) i f = .inl (0, 60, .inl f) := by
  match k, hk with
  | 0, _ => rfl
  | 1, _ => rfl
  | 2, _ => rfl
  | 3, _ => rfl
theorem entC_owed (pk : Nat → Nat) (G : Nat → Option Nat) {k : Nat} (hk : k < 6) (i f : Nat → Int32) : entC pk G (9 + k) i f = .inl (0, 6, .inl f) := by
  match k, hk with
  | 0, _ => rfl
  | 1, _ => rfl
  | 2, _ => rfl
  | 3, _ => rfl
  | 4, _ => rfl
  | 5, _ => rfl
theorem entC_per (pk : Nat → Nat) (G : Nat → Option Nat) (j : Nat) (i f : Nat → Int32) : entC pk G (j + 30) i f = .inr (pk j, [.int (i 0), .int (i 1), .int (i 2)]) := rfl
/-- the reference's world -/
def entM : Nat → (Nat → Int32) → (Nat → Int32) → va_E
  | 0, i, _ => .inr (9, [.int (i 0), .int (i 1), .ref 1, .ref 2, .ref 3, .int (i 5), .int (i 6), .int (i 7), .int (i 8), .ref 4, .ref 5, .ref 6, .ref 7, .int (i 13), .int (i 14), .int (i 15), .ref 8, .int (i 17), .int (i 18), .int (i 19), .ref 9, .ref 10, .int (i 22), .ref 11, .int (i 24), .ref 12, .ref 13, .ref 14])
  | 1, _, f => .inl (0, 4, .inl f)
  | 2, _, f => .inl (0, 4, .inl f)
  | 3, _, f => .inl (0, 240, .inl f)
  | 4, _, f => .inl (0, 6, .inl f)
  | 5, _, f => .inl (0, 6, .inl f)
  | 6, _, f => .inl (0, 6, .inl f)
  | 7, _, f => .inl (0, 36, .inl f)
  | 8, _, f => .inl (0, 18, .inl f)
  | 9, _, f => .inl (0, 6, .inl f)
  | 10, _, f => .inl (0, 6, .inl f)
  | 11, _, f => .inl (0, 64, .inl f)
  | _, _, f => .inl (0, 8, .inl f)
abbrev hM (I F : Nat → Nat → Int32) : aw_H := st_h entM I F
