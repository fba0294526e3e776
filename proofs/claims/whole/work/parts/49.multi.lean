/-! a square of ints: multianewarray with 6 and 6 -/
section MUL
variable {E : CtlPost} {e : Env} {d : Bool} {acts : List Action} {s : State}
/-- six cells of one default value -/
theorem mu_six {c comp : ClassId} {k : Class} {ty : FieldType} {v : Value} (hk : s.vm.classes[c]? = some k) (hkind : k.kind = .array comp ty) (hp : 6 ≤ e.platform.arrayLengthLimit ∧ 6 * componentBytes ty ≤ e.platform.maxHeapBytes) (hv : fits ty v = true ∧ v.isDefault = true) {Q : Addr → Pre} (hr : s.heap.size + 1 ≤ e.platform.maxCells ∧ s.slotsUsed + 6 ≤ e.platform.maxSlots)
    (hq : Q s.heap.size d acts (s.pushCell (arrV c 6 (fun _ => v)))) : wp (Jvm.newArray c 6 v) Q E e d acts s := by
  have a1 : ¬ 6 > e.platform.arrayLengthLimit := by omega
  have a2 : ¬ 6 * componentBytes ty > e.platform.maxHeapBytes := by omega
  have a3 : ¬ 6 > e.platform.maxSlots := by omega
  have a4 : ∀ (i : Nat) (w : Value), (Array.replicate 6 v)[i]? = some w → s.fitsSlot c .none i w = true := fun i w hw => by
    rw [Array.getElem?_replicate] at hw
    by_cases q : i < 6
    · rw [if_pos q] at hw
      cases hw
      simp [State.fitsSlot, State.slotType?, hk, hkind, hv.1]
    · rw [if_neg q] at hw
      cases hw
  have a5 : allocActs (Array.replicate 6 v) s.heap.size acts = acts := if_pos (by rw [Array.all_replicate]; simp [hv.2])
  rw [← arrV_new] at hq
  simp only [Jvm.newArray, Jvm.arrayFits, wp_bind', Jvm.W.ask, Jvm.W.ite, a1, if_false, wp_pure', Jvm.W.theClass, hk, hkind, a2, a3, Jvm.W.alloc, Option.some.injEq, exists_eq_left', Array.size_replicate, a5]
  exact ⟨hr.1, hr.2, a4, hq⟩
theorem mu_row {c comp : ClassId} {k : Class} (hk : s.vm.classes[c]? = some k) (hkind : k.kind = .array comp .int) (hp : 6 ≤ e.platform.arrayLengthLimit ∧ 24 ≤ e.platform.maxHeapBytes) {Q : Addr → Pre} (hr : s.heap.size + 1 ≤ e.platform.maxCells ∧ s.slotsUsed + 6 ≤ e.platform.maxSlots)
    (hq : Q s.heap.size d acts (s.pushCell (arrV c 6 (fun _ => .int 0)))) : wp (multianewarray.make c [6]) Q E e d acts s := by
  rw [multianewarray.make]
  simp only [wp_bind', Jvm.W.ite, show ¬ ((6 : Int32) < 0) by decide, if_false, wp_pure', Jvm.W.theClass, hk, hkind, Option.some.injEq, exists_eq_left']
  exact mu_six hk hkind ⟨hp.1, hp.2⟩ ⟨rfl, rfl⟩ hr hq
end MUL
section MUW
variable {p : Program} {l : Launch} {e : Env} {R : Room} {s : State} {m : MethodId} {args : Array Value} {below : List Frame} {meth : Method} {c : Code} {H : Heap} {locs : List Loc} {cells slots : Nat} {Q : State → Prop}
/-- the heap with i rows of the square made -/
def mu_H (cA comp : ClassId) (i : Nat) (H U : Heap) : Prop := U.size = H.size + 1 + i ∧ U[H.size]? = some (arrV cA 6 (fun j => if j < i then .ref (H.size + 1 + j) else .null)) ∧ (∀ j, j < i → U[H.size + 1 + j]? = some (arrV comp 6 (fun _ => .int 0))) ∧ ∀ q, q < H.size → U[q]? = H[q]?
theorem mu_0 {T : State} {cA comp : ClassId} : mu_H cA comp 0 T.heap (T.pushCell (arrV cA 6 (fun _ => .null))).heap :=
  ⟨by simp, by rw [State.heap_pushCell_size]; simp, fun j hj => by omega, fun q hq => State.heap_pushCell_of_lt _ _ hq⟩
theorem mu_1 {U : State} {cA comp : ClassId} {i : Nat} {H : Heap} (h : mu_H cA comp i H U.heap) : mu_H cA comp (i + 1) H ((U.pushCell (arrV comp 6 (fun _ => .int 0))).setCell H.size ((arrV cA 6 (fun j => if j < i then .ref (H.size + 1 + j) else .null)).setSlot i (.ref (H.size + 1 + i)))).heap := by
  obtain ⟨h1, h2, h3, h4⟩ := h
  have g0 : H.size < U.heap.size := by omega
  have g2 : (U.pushCell (arrV comp 6 (fun _ => .int 0))).heap[H.size]? = some (arrV cA 6 (fun j => if j < i then .ref (H.size + 1 + j) else .null)) := by
    rw [State.heap_pushCell_of_lt (h := g0)]
    exact h2
  refine ⟨?_, ?_, fun j hj => ?_, fun q hq => ?_⟩
  · simp [State.setCell, h1]
    omega
  · rw [State.heap_setCell_self g2, arrV_store]
    congr 2
    funext j
    unfold updV
    by_cases e1 : j = i
    · subst e1
      simp
    · rw [if_neg e1]
      show (if j < i then _ else _) = _
      by_cases e2 : j < i
      · rw [if_pos e2, if_pos (by omega)]
      · rw [if_neg e2, if_neg (by omega)]
  · rw [State.heap_setCell_other (show H.size ≠ H.size + 1 + j by omega)]
    by_cases e1 : j < i
    · rw [State.heap_pushCell_of_lt (h := show H.size + 1 + j < U.heap.size by omega)]
      exact h3 j e1
    · rw [show H.size + 1 + j = U.heap.size by omega]
      exact State.heap_pushCell_size _ _
  · rw [State.heap_setCell_other (show H.size ≠ q by omega), State.heap_pushCell_of_lt (h := show q < U.heap.size by omega)]
    exact h4 q hq
/-- the machine with i rows of the square made -/
def mu_U (T : State) (cA comp : ClassId) : Nat → State
  | 0 => T.pushCell (arrV cA 6 (fun _ => .null))
  | i + 1 => ((mu_U T cA comp i).pushCell (arrV comp 6 (fun _ => .int 0))).setCell T.heap.size ((arrV cA 6 (fun j => if j < i then .ref (T.heap.size + 1 + j) else .null)).setSlot i (.ref (T.heap.size + 1 + i)))
theorem mu_UH (T : State) (cA comp : ClassId) : ∀ i, mu_H cA comp i T.heap (mu_U T cA comp i).heap
  | 0 => mu_0
  | i + 1 => mu_1 (mu_UH T cA comp i)
theorem mu_Uvm (T : State) (cA comp : ClassId) : ∀ i, (mu_U T cA comp i).vm = T.vm
  | 0 => rfl
  | i + 1 => mu_Uvm T cA comp i
theorem mu_Uat (T : State) (cA comp : ClassId) (i : Nat) : ((mu_U T cA comp i).pushCell (arrV comp 6 (fun _ => .int 0))).heap[T.heap.size]? = some (arrV cA 6 (fun j => if j < i then .ref (T.heap.size + 1 + j) else .null)) := by
  have hU := mu_UH T cA comp i
  rw [State.heap_pushCell_of_lt (h := show T.heap.size < (mu_U T cA comp i).heap.size by have := hU.1; omega)]
  exact hU.2.1
theorem mu_US {T : State} (X : Stand p l e R s m args below meth c T locs cells slots) (cA comp : ClassId) : ∀ i, ∃ locs1 : List Loc, Stand p l e R s m args below meth c (mu_U T cA comp i) locs1 (cells + 1 + i) (slots + 6 + 6 * i) ∧ ∀ q ∈ locs1, q ∈ locs ∨ q.base = T.heap.size
  | 0 => by
    have := X.pushed (arrV cA 6 (fun _ => .null))
    rw [arrV_size] at this
    exact ⟨locs, this, fun q hq => Or.inl hq⟩
  | i + 1 => by
    obtain ⟨locs1, XU, hlo⟩ := mu_US X cA comp i
    have XV := (XU.pushed (arrV comp 6 (fun _ => .int 0))).stored (mu_Uat T cA comp i) i (.ref (T.heap.size + 1 + i))
    rw [arrV_size, show slots + 6 + 6 * i + 6 = slots + 6 + 6 * (i + 1) by omega, show cells + 1 + i + 1 = cells + 1 + (i + 1) by omega] at XV
    refine ⟨_, XV, fun q hq => ?_⟩
    rcases List.mem_append.mp hq with h | h
    · exact hlo q h
    · rw [List.mem_singleton.mp h]
      exact Or.inr rfl
/-- the whole square -/
theorem mu_make {T : State} (X : Stand p l e R s m args below meth c T locs cells slots) {cA comp el : ClassId} {kA kC : Class} (hkA : T.vm.classes[cA]? = some kA) (hA : kA.kind = .array comp (.array .int)) (hkC : T.vm.classes[comp]? = some kC) (hC : kC.kind = .array el .int) (hcells : cells + 7 ≤ R.cells) (hslots : slots + 42 ≤ R.slots) {E : CtlPost} {d : Bool} {acts : List Action} (f : JFrame) {Qa : Addr → Pre}
    (hq : ∀ (d1 : Bool) (acts1 : List Action), Qa T.heap.size d1 acts1 ((mu_U T cA comp 6).setTop f)) : wp (multianewarray.make cA [6, 6]) Qa E e d acts (T.setTop f) := by
  have p1 : 6 ≤ e.platform.arrayLengthLimit := by rw [Launch.admits_arrayLengthLimit X.admits]; decide
  have p2 : 24 ≤ e.platform.maxHeapBytes := by rw [Launch.admits_maxHeapBytes X.admits]; decide
  have n6 : ¬ ((6 : Int32) < 0) := by decide
  have c6 : (6 : Int32).toNatClampNeg = 6 := by decide
  rw [multianewarray.make]
  simp only [wp_bind', Jvm.W.ite, n6, if_false, wp_pure', Jvm.W.theClass, State.vm_setTop, hkA, hA, Option.some.injEq, exists_eq_left', c6]
  obtain ⟨r1, r2⟩ := X.roomAbove (a := 1) (b := 6) (by omega) (by omega)
  refine mu_six (s := T.setTop f) hkA hA ⟨p1, p2⟩ ⟨rfl, rfl⟩ ⟨r1, r2⟩ ?_
  rw [if_neg (by decide), wp_bind', Std.Legacy.Range.forIn_eq_forIn_range']
  show wp (forIn (List.range' 0 6 1) PUnit.unit _) _ E e d acts _
  refine wp_forIn_inv (fun rs z => ∃ i : Nat, i ≤ 6 ∧ rs = List.range' i (6 - i) ∧ z = (mu_U T cA comp i).setTop f) _ _ ⟨0, Nat.zero_le _, rfl, rfl⟩ ?_ ?_
  · rintro j rs z d1 acts1 Q1 ⟨i, hi, hl, rfl⟩ next
    have h6 : i < 6 := by
      rcases Nat.lt_or_ge i 6 with h | h
      · exact h
      · rw [show 6 - i = 0 by omega] at hl
        cases hl
    rw [show 6 - i = (6 - (i + 1)) + 1 by omega, List.range'_succ] at hl
    obtain ⟨rfl, hl⟩ := List.cons.inj hl
    obtain ⟨locs1, XU, -⟩ := mu_US X cA comp j
    have hvm := mu_Uvm T cA comp j
    obtain ⟨r3, r4⟩ := XU.roomAbove (a := 1) (b := 6) (by omega) (by omega)
    simp only [wp_bind']
    refine mu_row (s := (mu_U T cA comp j).setTop f) (by rw [State.vm_setTop, hvm]; exact hkC) hC ⟨p1, p2⟩ ⟨r3, r4⟩ ?_
    rw [wp_bind', Jvm.W.writeLoc]
    simp only [wp_pure']
    refine ⟨_, mu_Uat T cA comp j, by simp [arrV], by rw [arrV_size]; exact h6, ?_, next _ _ _ ⟨j + 1, h6, hl, ?_⟩⟩
    · simp [State.fitsSlot, State.slotType?, arrV, hvm, hkA, hA, fits]
    · rw [show ((mu_U T cA comp j).setTop f).heap.size = T.heap.size + 1 + j from (mu_UH T cA comp j).1]
      rfl
  · rintro z d1 acts1 ⟨i, hi, hl, rfl⟩
    have h6 : i = 6 := by
      rcases Nat.lt_or_ge i 6 with h | h
      · rw [show 6 - i = (6 - (i + 1)) + 1 by omega, List.range'_succ] at hl
        cases hl
      · omega
    subst h6
    simp only [wp_pure']
    exact hq _ _
/-- what the tables say of rows of rows of ints -/
def mu_AA (U : State) : Prop := ∃ (cA comp el : ClassId) (kA kC : Class), U.vm.findClass "[[I" = some cA ∧ U.vm.findClass "[I" = some comp ∧ U.vm.classes[cA]? = some kA ∧ kA.kind = .array comp (.array .int) ∧ U.vm.classes[comp]? = some kC ∧ kC.kind = .array el .int
theorem mu_AA.of {U : State} {A1 A2 : Array Value} (hover : (Cond.arrayOver (.array .int)).before A1 U = true) (harr : (Cond.arrayClass .int).before A2 U = true) : mu_AA U := by
  obtain ⟨comp, cA, kA, f1, -, f2, f3, f4⟩ := arrayOverA_spec hover
  obtain ⟨comp2, kC, el, f5, f6, f7⟩ := Cond.arrayClass_spec harr
  obtain rfl : comp2 = comp := Option.some.inj (f5.symm.trans f1)
  exact ⟨cA, comp2, el, kA, kC, f4, f5, f2, f3, f6, f7⟩
theorem mu_AA.moved {u U : State} (hvm : u.vm.Alike U.vm) (h : mu_AA u) : mu_AA U := by
  obtain ⟨cA, comp, el, kA, kC, f1, f2, f3, f4, f5, f6⟩ := h
  obtain ⟨kA1, e1, e2⟩ := hvm.2.2 _ _ f3
  obtain ⟨kC1, e3, e4⟩ := hvm.2.2 _ _ f5
  exact ⟨cA, comp, el, kA1, kC1, by rw [hvm.findClass]; exact f1, by rw [hvm.findClass]; exact f2, e1, by rw [e2]; exact f4, e3, by rw [e4]; exact f6⟩
/-- the instruction -/
theorem mu_W {cc : ByteArray} (hexec : p.tables.exec = Jvm.exec) (hb : c.code = cc) {own : String} {index pc : Nat} {ls : Array Slot} {rest : List Value} (hown : s.vm.findClass own = some m.cls) (hlink : (Cond.classLink own index "[[I").before args s = true) (hAA : mu_AA s) (hcells : cells + 7 ≤ R.cells) (hslots : slots + 42 ≤ R.slots) (hdg : decode cc pc = .ok (.multianewarray index 2, 4))
    (kk : ∀ (cA comp : ClassId) (H1 : Heap) (locs1 : List Loc), s.vm.findClass "[[I" = some cA → s.vm.findClass "[I" = some comp → mu_H cA comp 6 H H1 → (∀ q ∈ locs1, q ∈ locs ∨ q.base = H.size) → W p l e R s m args below meth c H1 locs1 (cells + 7) (slots + 42) Q (F0 m (pc + 4) ls (.ref H.size :: rest))) : W p l e R s m args below meth c H locs cells slots Q (F0 m pc ls (.int 6 :: .int 6 :: rest)) := by
  intro T hT X
  subst hT; subst hb
  have hpl : e.platform.magicAccessors = ({} : Platform).magicAccessors := by rw [X.admits.platform]
  obtain ⟨cA, comp2, el, kA, kC, f4, f5, f2, f3, f6, f7⟩ := hAA
  obtain ⟨c9, f8, f9⟩ := Cond.classLink_spec hown hlink e.platform hpl
  obtain rfl : cA = c9 := Option.some.inj (f4.symm.trans f8)
  obtain ⟨g1, g2, g3⟩ := State.classEntry (e := e) X.warmed f9
  generalize T.vm.noted m.cls index (.cls cA) = vm1 at g1 g2 g3
  obtain ⟨kA1, e1, e2⟩ := g2.alike.2.2 _ _ f2
  obtain ⟨kC1, e3, e4⟩ := g2.alike.2.2 _ _ f6
  have X1 := X.noted g2
  obtain ⟨locs1, XU, hlo⟩ := mu_US X1 cA comp2 6
  obtain ⟨t, a1, b1⟩ := kk cA comp2 _ locs1 f4 f5 (mu_UH (T.setVm vm1) cA comp2 6) hlo _ rfl XU
  refine ⟨t, ?_, b1⟩
  have hm : (F0 m pc ls (.int 6 :: .int 6 :: rest)).method = m := rfl
  have HH : At T (F0 m pc ls (.int 6 :: .int 6 :: rest)).method c below := X.here
  jvm_step HH [hexec, hdg]
  simp only [multianewarray.sem, wp_bind', W.resolveClassAt_links (State.method?_setTop (F0 m pc ls (.int 6 :: .int 6 :: rest)) X.here.top) g1]
  rw [Jvm.W.popN, if_neg (by decide)]
  refine ⟨_, State.topJava?_setTop' (s := T.setVm vm1) (F0 m pc ls (.int 6 :: .int 6 :: rest)) X1.here.top, [.int 6, .int 6], rest, rfl, rfl, ?_⟩
  simp only [List.mapM_cons, List.mapM_nil, wp_bind', wp_pure']
  have e9 : ((T.setTop (F0 m pc ls (.int 6 :: .int 6 :: rest))).setVm vm1).setTop { F0 m pc ls (.int 6 :: .int 6 :: rest) with stack := rest } = (T.setVm vm1).setTop { F0 m pc ls (.int 6 :: .int 6 :: rest) with stack := rest } := State.setTop_setTop (s := T.setVm vm1) ..
  rw [e9]
  refine mu_make X1 (kA := kA1) (kC := kC1) (el := el) e1 (by rw [e2]; exact f3) e3 (by rw [e4]; exact f7) hcells hslots _ (fun d1 acts1 => ?_)
  simp only [wp_bind', Jvm.W.mark, Jvm.W.pushRef, State.topJava?_setTop' _ XU.here.top, Option.some.injEq, exists_eq_left', State.setTop_setTop]
  intro acts
  simp [jvm, XU.here.top]
  exact a1
end MUW
