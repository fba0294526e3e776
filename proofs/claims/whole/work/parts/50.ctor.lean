/-! constructors -/
def an_nw : List Cond := [.methodLinkNest RX8 29 yX2_init RX8, .methodLinkNest RX8 36 yX0_init RX8, .methodLinkNest RX8 43 yX5_init RX8, .methodLinkNest RX8 50 yX7_init RX8, .methodLinkNest RX8 55 yX6_init RX8]
def an_K (D : va_G) (tc : Nat → ClassId) (U : State) : Prop := aw_K D tc U ∧ (∀ w ∈ an_nw, va_Nw w U) ∧ va_AO RX6 U ∧ va_AO RX3 U ∧ mu_AA U
theorem an_nw_on : ∀ w ∈ an_nw, w.onTables = true := by
  intro w hw
  simp only [an_nw, List.mem_cons, List.not_mem_nil, or_false] at hw
  rcases hw with rfl | rfl | rfl | rfl | rfl <;> rfl
theorem an_K.warm {D : va_G} {tc : Nat → ClassId} {s U : State} (hW : s.WarmedH U.vm) (h : an_K D tc s) : an_K D tc U := by
  refine ⟨h.1.warm hW, fun w hw => ?_, h.2.2.1.moved hW.alike, h.2.2.2.1.moved hW.alike, h.2.2.2.2.moved hW.alike⟩
  have h1 := h.2.1 w hw
  simp only [an_nw, List.mem_cons, List.not_mem_nil, or_false] at hw
  rcases hw with rfl | rfl | rfl | rfl | rfl <;> exact va_Nw.warmM hW h1
theorem an_K.call {D : va_G} {tc : Nat → ClassId} {U : State} {g : JFrame} {mk : MethodId} {a : Array Value} (h : an_K D tc U) : an_K D tc (U.calling g mk a) :=
  ⟨h.1.call, fun w hw => va_Nw.same (u := U) (U := U.calling g mk a) (an_nw_on w hw) rfl (h.2.1 w hw), h.2.2.1.moved (Vm.Alike.refl U.vm), h.2.2.2.1.moved (Vm.Alike.refl U.vm), h.2.2.2.2.moved (Vm.Alike.refl U.vm)⟩
theorem an_ai : Cond.arrayClass .int ∈ aw_gw := aw_at 92 (by decide +kernel) (by decide +kernel)
theorem an_az : Cond.arrayClass .boolean ∈ aw_gw := aw_at 131 (by decide +kernel) (by decide +kernel)
def an_Q (D : va_G) (A : Nat → Prop) (Qr : va_W → Prop) : Array Value → State → Outcome → State → Prop := va_Qv Qr (fun w t => va_P D vwCl w t.heap ∧ va_D A w) A
def an_X (D : va_G) (tc : Nat → ClassId) (own : String) (cc : ByteArray) (nL : Nat) (p : Program) (s : State) (m : MethodId) (args : Array Value) (meth : Method) (c : Code) (A : Nat → Prop) : Prop :=
  p.tables.exec = Jvm.exec ∧ c.code = cc ∧ meth.sig.returnType = none ∧ c.maxLocals = nL ∧ s.vm.findClass own = some m.cls ∧ (∀ w ∈ aw_gw, w.before args s = true) ∧ meth.locks = false ∧ an_K D tc s ∧ (∀ q, s.heap.size ≤ q → A q) ∧ meth.name = "<init>"
def an_Y (D : va_G) (nL : Nat) (s : State) (A : Nat → Prop) (H : Heap) (locs : List Loc) (ls : Array Slot) (L : List (Nat × Value)) (w : va_W) : Prop := va_P D vwCl w H ∧ va_D A w ∧ va_S A s.heap H locs ∧ lv_has ls nL L
def AN (l : Launch) (D : va_G) (tc : Nat → ClassId) (own : String) (cc : ByteArray) (nL : Nat) (R : Room) (mc ms : Nat) (Qr : va_W → Prop) (pc : Nat) (L : List (Nat × Value)) (st : List Value) (w : va_W) (cells slots : Nat) : Prop :=
  ∀ (p : Program) (e : Env) (s : State) (m : MethodId) (args : Array Value) (below : List Frame) (meth : Method) (c : Code) (H : Heap) (locs : List Loc) (ls : Array Slot) (A : Nat → Prop),
    an_X D tc own cc nL p s m args meth c A → an_Y D nL s A H locs ls L w → W p l e R s m args below meth c H locs cells slots (MQ below (an_Q D A Qr) args s mc ms A) (F0 m pc ls st)
/-- a constructor's contract -/
def NM (l : Launch) (D : va_G) (tc : Nat → ClassId) (y : MethodName) (cc : ByteArray) (nL fr lo mc ms : Nat) (q : Nat) (w : va_W) (Qr : va_W → Prop) : Prop :=
  ∀ (A : Nat → Prop) (sz : Nat), (∀ q, sz ≤ q → A q) → Met l y (.code y cc nL none :: aw_gw) { frames := fr, cells := mc, slots := ms, locals := lo } (fun v U => v = ([.ref q] : List Value).toArray ∧ U.heap.size = sz ∧ an_K D tc U ∧ va_P D vwCl w U.heap ∧ va_D A w) (an_Q D A Qr) mc ms A
theorem an_blind {D : va_G} {tc : Nat → ClassId} {q sz : Nat} {A : Nat → Prop} {w : va_W} : FrameBlind (fun v U => v = ([.ref q] : List Value).toArray ∧ U.heap.size = sz ∧ an_K D tc U ∧ va_P D vwCl w U.heap ∧ va_D A w) :=
  fun _ _ _ _ q => ⟨q.1, q.2.1, q.2.2.1.call, q.2.2.2.1, q.2.2.2.2⟩
theorem an_at {ws r : va_W} {k : Nat} : (ws ++ r)[ws.length + k]? = r[k]? := by rw [List.getElem?_append_right (by omega)]; congr 1; omega
theorem an_set {ws r : va_W} {k : Nat} {x : Nat × va_E} : (ws ++ r).set (ws.length + k) x = ws ++ r.set k x := by rw [List.set_append_right _ _ (by omega)]; congr 2; omega
section ANR
variable {l : Launch} {D : va_G} {tc : Nat → ClassId} {own : String} {cc : ByteArray} {nL : Nat} {R : Room} {mc ms : Nat} {Qr : va_W → Prop} {pc : Nat} {L L' : List (Nat × Value)} {st rest : List Value} {w w' : va_W} {cells slots : Nat}
theorem nm_of {y : MethodName} {fr lo q : Nat} (hy : plainName y.cls = true) (hn : y.name = "<init>") (hlen : 1 ≤ nL)
    (k : AN l D tc y.cls cc nL { frames := fr, cells := mc, slots := ms, locals := lo } mc ms Qr 0 [(0, .ref q)] [] w 0 0) : NM l D tc y cc nL fr lo mc ms q w Qr := by
  intro A sz hA
  refine Met.ofW (cc := cc) (maxL := nL) (ret := none) hy rfl ?_
  intro p e s m args below meth c s₁ B hml hv
  obtain ⟨rfl, hsz, hK, hP, hD⟩ := hv
  subst hsz
  have hl := lv_entry ([.ref q]) (n := nL) hlen
  rw [lg_entry_eq]
  exact k p e s m _ below meth c s.heap [] _ A ⟨B.exec, B.bytes, B.returns, hml, findClass_of_methodNamed B.named, fun w hw => atoms_spec (ws := .code y cc nL none :: aw_gw) B.pre w (List.mem_cons_of_mem _ hw), B.notSynchronized, hK, hA, (name_of_methodNamed B.named B.method).1.trans hn⟩ ⟨hP, hD, va_S.rf, hl⟩
theorem an_aload {k0 : Fin 4} {i j : Nat} {x : Nat} (d : decode cc pc = .ok (.aload_n k0, 1)) (hi : (k0 : Nat) = i) (hj : L[j]? = some (i, .ref x)) (k : AN l D tc own cc nL R mc ms Qr (pc + 1) L (.ref x :: rest) w cells slots) : AN l D tc own cc nL R mc ms Qr pc L rest w cells slots :=
  fun p e s m args below meth c H locs ls A X Y => lv_aload_n X.1 X.2.1 d hi (lv_at Y.2.2.2 j hj) (k p e s m args below meth c H locs ls A X Y)
theorem an_iload {k0 : Fin 4} {i j : Nat} {x : Int32} (d : decode cc pc = .ok (.iload_n k0, 1)) (hi : (k0 : Nat) = i) (hj : L[j]? = some (i, .int x)) (k : AN l D tc own cc nL R mc ms Qr (pc + 1) L (.int x :: rest) w cells slots) : AN l D tc own cc nL R mc ms Qr pc L rest w cells slots :=
  fun p e s m args below meth c H locs ls A X Y => lv_iload_n X.1 X.2.1 d hi (lv_at Y.2.2.2 j hj) (k p e s m args below meth c H locs ls A X Y)
theorem an_iconst {z : Int} {v : Int32} (d : decode cc pc = .ok (.iconst z, 1)) (hv : Int32.ofInt z = v) (k : AN l D tc own cc nL R mc ms Qr (pc + 1) L (.int v :: rest) w cells slots) : AN l D tc own cc nL R mc ms Qr pc L rest w cells slots :=
  fun p e s m args below meth c H locs ls A X Y => lv_iconst X.1 X.2.1 d hv (k p e s m args below meth c H locs ls A X Y)
theorem an_bipush {z : Int} {v : Int32} (d : decode cc pc = .ok (.bipush z, 2)) (hv : (Int8.ofInt z).toInt32 = v) (k : AN l D tc own cc nL R mc ms Qr (pc + 2) L (.int v :: rest) w cells slots) : AN l D tc own cc nL R mc ms Qr pc L rest w cells slots :=
  fun p e s m args below meth c H locs ls A X Y => lv_bipush X.1 X.2.1 d hv (k p e s m args below meth c H locs ls A X Y)
theorem an_sipush {z : Int} {v : Int32} (d : decode cc pc = .ok (.sipush z, 3)) (hv : (Int16.ofInt z).toInt32 = v) (k : AN l D tc own cc nL R mc ms Qr (pc + 3) L (.int v :: rest) w cells slots) : AN l D tc own cc nL R mc ms Qr pc L rest w cells slots :=
  fun p e s m args below meth c H locs ls A X Y => lv_sipush X.1 X.2.1 d hv (k p e s m args below meth c H locs ls A X Y)
theorem an_dup {v : Value} (d : decode cc pc = .ok (.dup, 1)) (hv : v.category = 1) (k : AN l D tc own cc nL R mc ms Qr (pc + 1) L (v :: v :: rest) w cells slots) : AN l D tc own cc nL R mc ms Qr pc L (v :: rest) w cells slots :=
  fun p e s m args below meth c H locs ls A X Y => lv_dup X.1 X.2.1 d hv (k p e s m args below meth c H locs ls A X Y)
theorem an_goto {off : Int} {tgt : Nat} (d : decode cc pc = .ok (.goto off, 3)) (ht : (pc : Int) + off = (tgt : Int)) (k : AN l D tc own cc nL R mc ms Qr tgt L rest w cells slots) : AN l D tc own cc nL R mc ms Qr pc L rest w cells slots :=
  fun p e s m args below meth c H locs ls A X Y => lv_goto X.1 X.2.1 d ht (k p e s m args below meth c H locs ls A X Y)
theorem an_ge {x y : Int32} {off : Int} {tgt : Nat} (d : decode cc pc = .ok (.if_icmp .ge off, 3)) (ht : (pc : Int) + off = (tgt : Int)) (kt : y ≤ x → AN l D tc own cc nL R mc ms Qr tgt L rest w cells slots) (kf : ¬ y ≤ x → AN l D tc own cc nL R mc ms Qr (pc + 3) L rest w cells slots) : AN l D tc own cc nL R mc ms Qr pc L (.int y :: .int x :: rest) w cells slots :=
  fun p e s m args below meth c H locs ls A X Y => lv_icmp_ge X.1 X.2.1 d ht (fun c9 => kt c9 p e s m args below meth c H locs ls A X Y) (fun c9 => kf c9 p e s m args below meth c H locs ls A X Y)
theorem an_istore {k0 : Fin 4} {i : Nat} {x : Int32} (d : decode cc pc = .ok (.istore_n k0, 1)) (hi : (k0 : Nat) = i) (hn : i < nL) (hl : (i, Value.int x) :: L.filter (fun q => !(q.1 == i) && !(q.1 + 1 == i && q.2.category == 2)) = L') (k : AN l D tc own cc nL R mc ms Qr (pc + 1) L' rest w cells slots) : AN l D tc own cc nL R mc ms Qr pc L (.int x :: rest) w cells slots :=
  fun p e s m args below meth c H locs ls A X Y => lv_istore_n X.1 X.2.1 d hi Y.2.2.2 hn hl (fun ls' h' => k p e s m args below meth c H locs ls' A X ⟨Y.1, Y.2.1, Y.2.2.1, h'⟩)
theorem an_iinc {i j : Nat} {z : Int} {x v : Int32} (d : decode cc pc = .ok (.iinc i z, 3)) (hj : L[j]? = some (i, .int x)) (hv : x + Int32.ofInt z = v) (hn : i < nL) (hl : (i, Value.int v) :: L.filter (fun q => !(q.1 == i) && !(q.1 + 1 == i && q.2.category == 2)) = L') (k : AN l D tc own cc nL R mc ms Qr (pc + 3) L' rest w cells slots) : AN l D tc own cc nL R mc ms Qr pc L rest w cells slots :=
  fun p e s m args below meth c H locs ls A X Y => lv_iinc X.1 X.2.1 d Y.2.2.2 hj hv hn hl (fun ls' h' => k p e s m args below meth c H locs ls' A X ⟨Y.1, Y.2.1, Y.2.2.1, h'⟩)
theorem an_obj {idx : Nat} {x : Nat} (hl : Cond.methodLink own idx Lib.objectInit ∈ aw_gw) (hR : 1 ≤ R.frames ∧ 20 ≤ R.locals) (hw : (rest.map fun v => v.category).sum ≤ 8) (d : decode cc pc = .ok (.invokespecial idx, 3)) (k : AN l D tc own cc nL R mc ms Qr (pc + 3) L rest w cells slots) : AN l D tc own cc nL R mc ms Qr pc L (.ref x :: rest) w cells slots := by
  intro p e s m args below meth c H locs ls A X Y
  refine W.objInit X.1 X.2.1 X.2.2.2.2.1 (X.2.2.2.2.2.1 _ hl) (X.2.2.2.2.2.1 _ im_objectInit) (X.2.2.2.2.2.1 _ cd_objectInit) rfl (by rw [X.2.2.2.1]; exact Y.2.2.2.1) rfl d hR.1 (by show 2 * (F0 m pc ls (.ref x :: rest)).monitorRoom + _ + _ ≤ _; have : 2 * (F0 m pc ls (.ref x :: rest)).monitorRoom = 0 := rfl; omega) ?_
  exact k p e s m args below meth c H locs ls A X Y
theorem an_newi {n : Int32} {N' : Nat} (d : decode cc pc = .ok (.newarray .int, 2)) (hn : ¬ n < 0) (hN : n.toNatClampNeg = N') (hb : N' ≤ 1000) (hc : cells + 1 ≤ R.cells ∧ slots + N' ≤ R.slots) (k : ∀ q, AN l D tc own cc nL R mc ms Qr (pc + 2) L (.ref q :: rest) (w ++ [(q, .inl (tc 0, N', .inl (fun _ => 0)))]) (cells + 1) (slots + N')) : AN l D tc own cc nL R mc ms Qr pc L (.int n :: rest) w cells slots := by
  intro p e s m args below meth c H locs ls A X Y
  have hK := X.2.2.2.2.2.2.2.1.1.1
  refine va_newa (atype := .int) (a0 := (N', .inl (fun _ => 0))) (ty := .int) X.1 X.2.1 (X.2.2.2.2.2.1 _ an_ai) rfl hK Y.1 Y.2.1 Y.2.2.1 X.2.2.2.2.2.2.2.2.1 (fun _ => rfl) hn hN (by show N' * 4 ≤ _; omega) hc.1 hc.2 d (fun q cA H1 hK1 hP hD hS => ?_)
  have e1 : cA = tc 0 := Option.some.inj ((show s.vm.findClass "[I" = some cA from (hK1.2 5 (cA, .int) rfl).2).symm.trans (hK.2 0 (tc 0, .int) rfl).2)
  subst e1
  exact k q p e s m args below meth c H1 locs ls A X ⟨hP, hD, hS, Y.2.2.2⟩
theorem an_newz {n : Int32} {N' : Nat} (d : decode cc pc = .ok (.newarray .boolean, 2)) (hn : ¬ n < 0) (hN : n.toNatClampNeg = N') (hb : N' ≤ 1000) (hc : cells + 1 ≤ R.cells ∧ slots + N' ≤ R.slots) (k : ∀ q, AN l D tc own cc nL R mc ms Qr (pc + 2) L (.ref q :: rest) (w ++ [(q, .inl (tc 1, N', .inl (fun _ => 0)))]) (cells + 1) (slots + N')) : AN l D tc own cc nL R mc ms Qr pc L (.int n :: rest) w cells slots := by
  intro p e s m args below meth c H locs ls A X Y
  have hK := X.2.2.2.2.2.2.2.1.1.1
  refine va_newa (atype := .boolean) (a0 := (N', .inl (fun _ => 0))) (ty := .boolean) X.1 X.2.1 (X.2.2.2.2.2.1 _ an_az) rfl hK Y.1 Y.2.1 Y.2.2.1 X.2.2.2.2.2.2.2.2.1 (fun _ => rfl) hn hN (by show N' * 1 ≤ _; omega) hc.1 hc.2 d (fun q cA H1 hK1 hP hD hS => ?_)
  have e1 : cA = tc 1 := Option.some.inj ((show s.vm.findClass "[Z" = some cA from (hK1.2 5 (cA, .boolean) rfl).2).symm.trans (hK.2 1 (tc 1, .boolean) rfl).2)
  subst e1
  exact k q p e s m args below meth c H1 locs ls A X ⟨hP, hD, hS, Y.2.2.2⟩
theorem an_newq {idx : Nat} {C : String} {t : Nat} {n : Int32} {N' : Nat} (hC : (t = 2 ∧ C = RX6) ∨ (t = 3 ∧ C = RX3)) (hl : Cond.classLink own idx C ∈ aw_gw) (d : decode cc pc = .ok (.anewarray idx, 3)) (hn : ¬ n < 0) (hN : n.toNatClampNeg = N') (hb : N' ≤ 1000) (hc : cells + 1 ≤ R.cells ∧ slots + N' ≤ R.slots) (k : ∀ q, AN l D tc own cc nL R mc ms Qr (pc + 3) L (.ref q :: rest) (w ++ [(q, .inl (tc t, N', .inr (.inr (.inr (.inr (fun _ => none))))))]) (cells + 1) (slots + N')) : AN l D tc own cc nL R mc ms Qr pc L (.int n :: rest) w cells slots := by
  intro p e s m args below meth c H locs ls A X Y
  have hK := X.2.2.2.2.2.2.2.1.1.1
  have hO : va_AO C s := by
    rcases hC with ⟨-, rfl⟩ | ⟨-, rfl⟩
    · exact X.2.2.2.2.2.2.2.1.2.2.1
    · exact X.2.2.2.2.2.2.2.1.2.2.2.1
  have hT : (aw_ty tc)[t]? = some (tc t, .object C) := by
    rcases hC with ⟨rfl, rfl⟩ | ⟨rfl, rfl⟩ <;> rfl
  refine va_newq X.1 X.2.1 X.2.2.2.2.1 (X.2.2.2.2.2.1 _ hl) hO hK Y.1 Y.2.1 Y.2.2.1 X.2.2.2.2.2.2.2.2.1 hn hN (by omega) hc.1 hc.2 d (fun q cA H1 hK1 hP hD hS => ?_)
  obtain ⟨_, _, _, _, _, z1⟩ := (hK1.2 5 (cA, .object C) rfl).2
  obtain ⟨_, _, _, _, _, z2⟩ := (hK.2 t _ hT).2
  have e1 : cA = tc t := Option.some.inj (z1.symm.trans z2)
  subst e1
  exact k q p e s m args below meth c H1 locs ls A X ⟨hP, hD, hS, Y.2.2.2⟩
theorem an_new {ci idx N : Nat} {C : String} {T : u_T} {fs : List Value} {ty : Nat → FieldType} (hl : Cond.classLink own idx C ∈ aw_gw) (hit : Cond.instantiable C N ∈ aw_gw) (hini : Cond.initialized C ∈ aw_gw) (hin : ∀ w ∈ u_ws C T N, w ∈ aw_gw) (hty : ∀ k, k < N → parseFieldDescriptor (T k).2.2.1 = some (ty k)) (hcl : vwCl[ci]? = some (C, T, N)) (hfs : ∀ j, j < N → defaultValue (ty j) = vp_V fs j) (hc : cells + 1 ≤ R.cells ∧ slots + N ≤ R.slots) (d : decode cc pc = .ok (.new idx, 3)) (k : ∀ q, AN l D tc own cc nL R mc ms Qr (pc + 3) L (.ref q :: rest) (w ++ [(q, .inr (ci, fs))]) (cells + 1) (slots + N)) : AN l D tc own cc nL R mc ms Qr pc L rest w cells slots := by
  intro p e s m args below meth c H locs ls A X Y
  exact va_new (ci := ci) (fs := fs) (D := D) (c0 := c) X.1 X.2.1 X.2.2.2.2.2.1 hin ty hty X.2.2.2.2.1 (X.2.2.2.2.2.1 _ hl) (X.2.2.2.2.2.1 _ hit) (X.2.2.2.2.2.1 _ hini) X.2.2.2.2.2.2.2.1.1.1 Y.1 Y.2.1 Y.2.2.1 X.2.2.2.2.2.2.2.2.1 hcl hfs hc.1 hc.2 d (fun q H1 hP hD hS => k q p e s m args below meth c H1 locs ls A X ⟨hP, hD, hS, Y.2.2.2⟩)
def an_fp (own : String) (idx ci k : Nat) (C : String) (T : u_T) (N : Nat) (ty : FieldType) : Prop := aw_fd own idx ci k C T N ∧ (∃ ty0 : Nat → FieldType, ∀ k, k < N → parseFieldDescriptor (T k).2.2.1 = some (ty0 k)) ∧ (∀ a, a < N → ∀ b, b < N → a ≠ b → (T a).2.1 ≠ (T b).2.1) ∧ (T k).2.2.2 = true ∧ (T k).1 = own ∧ parseFieldDescriptor (T k).2.2.1 = some ty
theorem an_put {o a idx ci k0 : Nat} {C : String} {T : u_T} {N : Nat} {ty : FieldType} {fs : List Value} {v : Value} (hf : an_fp own idx ci k0 C T N ty) (d : decode cc pc = .ok (.putfield idx, 3)) (he : w[o]? = some (a, .inr (ci, fs))) (hn9 : narrow ty v = v) (hfit : fits ty v = true) (hl : k0 < fs.length) (hw : w.set o (a, .inr (ci, fs.set k0 v)) = w') (k : AN l D tc own cc nL R mc ms Qr (pc + 3) L rest w' cells slots) : AN l D tc own cc nL R mc ms Qr pc L (v :: .ref a :: rest) w cells slots := by
  subst hw
  intro p e s m args below meth c H locs ls A X Y
  obtain ⟨hfd, ⟨ty0, hty⟩, hnm, hfin, hdec, hd⟩ := hf
  exact va_putF X.1 X.2.1 X.2.2.2.2.2.1 hfd.1 ty0 hty hnm X.2.2.2.2.1 X.2.2.2.2.2.2.2.1.1.1 Y.1 Y.2.1 Y.2.2.1 o he hfd.2.1 k0 hfd.2.2.1 (X.2.2.2.2.2.1 _ hfd.2.2.2) (fun _ h9 => h9) hfin X.2.2.2.2.2.2.2.2.2 hdec hd hn9 hfit hl d (fun H1 locs1 hP hD hS => k p e s m args below meth c H1 locs1 ls A X ⟨hP, hD, hS, Y.2.2.2⟩)
theorem an_get {o a idx ci k0 : Nat} {C : String} {T : u_T} {N : Nat} {fs : List Value} {v : Value} (hf : aw_fd own idx ci k0 C T N) (d : decode cc pc = .ok (.getfield idx, 3)) (he : w[o]? = some (a, .inr (ci, fs))) (hv : fs[k0]? = some v) (k : AN l D tc own cc nL R mc ms Qr (pc + 3) L (v :: rest) w cells slots) : AN l D tc own cc nL R mc ms Qr pc L (.ref a :: rest) w cells slots := by
  intro p e s m args below meth c H locs ls A X Y
  exact va_get X.1 X.2.1 X.2.2.2.2.2.1 hf.1 X.2.2.2.2.1 X.2.2.2.2.2.2.2.1.1.1 Y.1 o he hf.2.1 k0 hf.2.2.1 (X.2.2.2.2.2.1 _ hf.2.2.2) (fun _ h9 => h9) hv d (k p e s m args below meth c H locs ls A X Y)
theorem an_iast {o a len : Nat} {f : Nat → Int32} {i x : Int32} (d : decode cc pc = .ok (.iastore, 1)) (he : w[o]? = some (a, .inl (tc 0, len, .inl f))) (hin : vp_in i len) (hw : w.set o (a, .inl (tc 0, len, .inl (upd f i.toNatClampNeg x))) = w') (k : AN l D tc own cc nL R mc ms Qr (pc + 1) L rest w' cells slots) : AN l D tc own cc nL R mc ms Qr pc L (.int x :: .int i :: .ref a :: rest) w cells slots := by
  subst hw
  intro p e s m args below meth c H locs ls A X Y
  exact va_iast X.1 X.2.1 X.2.2.2.2.2.2.2.1.1.1 Y.1 Y.2.1 Y.2.2.1 o 0 he rfl hin d (fun H1 locs1 hP hD hS => k p e s m args below meth c H1 locs1 ls A X ⟨hP, hD, hS, Y.2.2.2⟩)
theorem an_aast {o v a b len : Nat} {f : Nat → Option Nat} {vs : List Value} {i : Int32} (d : decode cc pc = .ok (.aastore, 1)) (he : w[o]? = some (a, .inl (tc 2, len, .inr (.inr (.inr (.inr f)))))) (he2 : w[v]? = some (b, .inr (6, vs))) (hin : vp_in i len) (hw : w.set o (a, .inl (tc 2, len, .inr (.inr (.inr (.inr (va_up f i.toNatClampNeg (some b))))))) = w') (k : AN l D tc own cc nL R mc ms Qr (pc + 1) L rest w' cells slots) : AN l D tc own cc nL R mc ms Qr pc L (.ref b :: .int i :: .ref a :: rest) w cells slots := by
  subst hw
  intro p e s m args below meth c H locs ls A X Y
  exact va_astq X.1 X.2.1 X.2.2.2.2.2.2.2.1.1.1 Y.1 Y.2.1 Y.2.2.1 o 2 v 6 (r := (RX6, TX6, 4)) he rfl he2 rfl hin d (fun H1 locs1 hP hD hS => k p e s m args below meth c H1 locs1 ls A X ⟨hP, hD, hS, Y.2.2.2⟩)
theorem an_call {y : MethodName} {cc' : ByteArray} {nL' fr' lo' mc' ms' idx q : Nat} {Q' : va_W → Prop} (hcw : aw_cw y cc' nL' none 0) (hl : Cond.methodLinkNest own idx y RX8 ∈ an_nw) (hi : Cond.instanceMethod y ∈ aw_gw) (hy : y.name = "<init>") (hM : NM l D tc y cc' nL' fr' lo' mc' ms' q w Q') (hR : fr' + 1 ≤ R.frames ∧ 8 + (nL' + 11) + lo' ≤ R.locals) (hc : cells + mc' ≤ R.cells ∧ slots + ms' ≤ R.slots) (hw : (rest.map fun v => v.category).sum ≤ 8) (d : decode cc pc = .ok (.invokespecial idx, 3)) (k : ∀ w1, Q' w1 → AN l D tc own cc nL R mc ms Qr (pc + 3) L rest w1 (cells + mc') (slots + ms')) : AN l D tc own cc nL R mc ms Qr pc L (.ref q :: rest) w cells slots := by
  intro p e s m args below meth c H locs ls A X Y
  obtain ⟨hx, hb, hr0, hml, hown, hts, hlk, hK, hA, hnm⟩ := id X
  obtain ⟨hP, hD, hS, hL⟩ := Y
  obtain ⟨w3, w4, g1, g2, g3⟩ := hcw
  have hM' := hM A H.size (fun q hq => hA q (Nat.le_trans hS.1 hq))
  have hB := va_cnB (R := R) (own := own) (index := idx) (mc := mc') (ms := ms') (rm := { frames := fr', cells := mc', slots := ms', locals := lo' }) 0 hts (aw_good w4) rfl rfl rfl (hK.2.1 _ hl) (hts _ w3) ⟨g1, g2, g3⟩ hR
  have hr := va_runIN (b := q) (R := R) (e := e) (below := below) (meth := meth) (locs := locs) (cells := cells) (slots := slots) (As := []) (rest := rest) (g := F0 m pc ls (.ref q :: rest)) ⟨hx, hb, hml, hown, hts⟩ hM' ⟨hB, hy, hts _ hi⟩ ⟨an_blind, fun U hU hW => ⟨rfl, by rw [hU], hK.warm hW, by rw [hU]; exact hP, hD⟩⟩ rfl rfl hL.1 rfl (lv_room hw) d hc
  refine va_callv hr hS (fun _ _ h => h) (fun _ h => h) (fun w1 t H1 locs1 ht hvm hq hB hz1 hk1 hS1 => ?_)
  obtain ⟨hP1, hD1⟩ := hB
  rw [ht] at hP1
  exact k w1 hq p e s m args below meth c H1 locs1 ls A X ⟨hP1, hD1, hS1, hL⟩
theorem an_vret (d : decode cc pc = .ok (.return_, 1)) (hc : cells ≤ mc ∧ slots ≤ ms) (hq : Qr w) : AN l D tc own cc nL R mc ms Qr pc L [] w cells slots := by
  intro p e s m args below meth c H locs ls A X Y
  obtain ⟨hx, hb, hr, hml, hown, hts, hlocks, hK, hA, hnm⟩ := X
  refine W.widen hc.1 hc.2 ?_
  exact W.vret hx hb hr (fun t ht hW => ⟨⟨w, rfl, hq, by rw [ht]; exact Y.1, Y.2.1⟩, Y.2.2.1.F ht⟩) Y.2.2.1.2.2 d hlocks
/-- six rows of six ints, and the row of them -/
def sq_W (tc : Nat → ClassId) (h : Nat) : va_W := [(h, .inl (tc 4, 6, .inr (.inr (.inr (.inr (fun j => if j < 6 then some (h + 1 + j) else none)))))), (h + 1, .inl (tc 0, 6, .inl (fun _ => 0))), (h + 2, .inl (tc 0, 6, .inl (fun _ => 0))), (h + 3, .inl (tc 0, 6, .inl (fun _ => 0))), (h + 4, .inl (tc 0, 6, .inl (fun _ => 0))), (h + 5, .inl (tc 0, 6, .inl (fun _ => 0))), (h + 6, .inl (tc 0, 6, .inl (fun _ => 0)))]
theorem an_multi {idx : Nat} (hl : Cond.classLink own idx "[[I" ∈ aw_gw) (hc : cells + 7 ≤ R.cells ∧ slots + 42 ≤ R.slots) (d : decode cc pc = .ok (.multianewarray idx 2, 4)) (k : ∀ h, AN l D tc own cc nL R mc ms Qr (pc + 4) L (.ref h :: rest) (w ++ sq_W tc h) (cells + 7) (slots + 42)) : AN l D tc own cc nL R mc ms Qr pc L (.int 6 :: .int 6 :: rest) w cells slots := by
  intro p e s m args below meth c H locs ls A X Y
  obtain ⟨hx, hb, hr, hml, hown, hts, hlocks, hK, hA, hnm⟩ := id X
  refine mu_W hx hb hown (hts _ hl) hK.2.2.2.2 hc.1 hc.2 d (fun cA comp H1 locs1 f1 f2 hH hlo => ?_)
  obtain rfl : cA = tc 4 := Option.some.inj (f1.symm.trans (hK.1.1.2 4 (tc 4, .array .int) rfl).2)
  obtain rfl : comp = tc 0 := Option.some.inj (f2.symm.trans (hK.1.1.2 0 (tc 0, .int) rfl).2)
  obtain ⟨h1, h2, h3, h4⟩ := hH
  obtain ⟨hP, hD, hS, hL⟩ := Y
  have hk : ∀ (k : Nat) (x : Nat × va_E), w[k]? = some x → H1[x.1]? = H[x.1]? := fun k x hx => h4 x.1 ((hP k x hx).lt)
  have hlt : ∀ (k : Nat) (x : Nat × va_E), w[k]? = some x → x.1 < H.size := fun k x hx => (hP k x hx).lt
  have hrow : ∀ j, j < 6 → H1[H.size + 1 + j]? = some (vp_cell (tc 0) (6, .inl (fun _ => 0))) := fun j hj => h3 j hj
  have hat : ∀ (k : Nat) (x : Nat × va_E), (sq_W tc H.size)[k]? = some x → k < 7 ∧ x.1 = H.size + k ∧ va_at D vwCl x H1 := by
    intro k x hx
    match k, hx with
    | 0, hx =>
      cases hx
      refine ⟨by omega, rfl, ?_⟩
      show H1[H.size]? = some (vp_cell _ _)
      rw [h2, vp_cell_q]
      congr 2
      funext j
      by_cases q : j < 6
      · rw [if_pos q, if_pos q]; rfl
      · rw [if_neg q, if_neg q]; rfl
    | 1, hx => cases hx; exact ⟨by omega, rfl, hrow 0 (by omega)⟩
    | 2, hx => cases hx; exact ⟨by omega, rfl, hrow 1 (by omega)⟩
    | 3, hx => cases hx; exact ⟨by omega, rfl, hrow 2 (by omega)⟩
    | 4, hx => cases hx; exact ⟨by omega, rfl, hrow 3 (by omega)⟩
    | 5, hx => cases hx; exact ⟨by omega, rfl, hrow 4 (by omega)⟩
    | 6, hx => cases hx; exact ⟨by omega, rfl, hrow 5 (by omega)⟩
    | k + 7, hx => simp [sq_W] at hx
  have hP1 : va_P D vwCl (w ++ sq_W tc H.size) H1 := (hP.kept hk).app (fun k x hx => (hat k x hx).2.2)
  have hD1 : va_D A (w ++ sq_W tc H.size) := by
    refine va_D.app hD ⟨fun i j x y hx hy e => ?_, fun k x hx => ?_⟩ (fun i j x y hx hy e => ?_)
    · have a1 := (hat i x hx).2.1
      have a2 := (hat j y hy).2.1
      omega
    · have a1 := (hat k x hx).2.1
      exact hA _ (by have := hS.1; omega)
    · have a1 := hlt i x hx
      have a2 := (hat j y hy).2.1
      omega
  exact k H.size p e s m args below meth c H1 locs1 ls A X ⟨hP1, hD1, ⟨by have := hS.1; omega, fun q hq hn => (h4 q (Nat.lt_of_lt_of_le hq hS.1)).trans (hS.2.1 q hq hn), fun q hq => by
    rcases hlo q hq with h9 | h9
    · exact hS.2.2 q h9
    · rw [h9]; exact hA _ hS.1⟩, hL⟩
end ANR
