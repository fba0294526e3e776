def R_law : String := "StepBackLaw"
def lw_P (b : Addr) (xs : List Int32) (args : Array Value) (s : State) : Prop := args = #[.ref b] ∧ s.IntsAt b xs ∧ xs.length ≤ 3072 ∧ (Jvm.Cond.and given_1 narrow_1).before args s = true
def lw_Q (_ : Array Value) (s : State) (o : Outcome) (t : State) : Prop := o = .returned (some (.int 1)) ∧ Framed s o t [] 600000 7302250
def lw_Z (below : List Frame) (a : Array Value) (s : State) : State → Prop := fun t => ∃ o, t.status = .running ∧ Ended t below o ∧ lw_Q a s o t
/-- the law's own end, with 1 on the stack, nothing written that was there before, its room as the claim has it -/
theorem lw_ret {p : Program} {l : Launch} {e : Env} {s : State} {m : MethodId} {below : List Frame} {meth : Method} {c : Code} {b : Nat} (hx : p.tables.exec = Jvm.exec) (hb : c.code = code) (hr : meth.sig.returnType = ret) (hlocks : meth.locks = false) {pc : Nat} {H : Heap} {ls : Array Slot} (hdg : decode code pc = .ok (.ireturn, 1)) : W p l e room_1 s m #[Value.ref b] below meth c H [] 600000 7302250 (lw_Z below #[Value.ref b] s) (F0 m pc ls [.int 1]) := by
  intro T hT X
  obtain ⟨fs, hret, hrun, hended, hW, hframe⟩ := X.leave (v := some (.int 1)) (hlocks := hlocks) (fun h => by rw [hr] at h; cases h)
  have hmeth' : T.vm.method? m = some meth := X.method'
  refine ⟨T.setFrames fs, ?_, .returned (some (.int 1)), hrun, hended, rfl, ⟨_, rfl⟩, hW, hframe⟩
  jvm_step X.here [X.here.top, hx, hb, hdg, hmeth', hr, ret, narrow_b1]
  (try refine ⟨rfl, ?_⟩); (try refine ⟨rfl, ?_⟩)
  first | (intro acts; rw [hret _ acts rfl rfl rfl]) | rw [hret _ _ rfl rfl rfl]
  exact Steps.refl _
/-- what holds at the law's entry: the machine, the code, the tables' words (any of lw_tbl by 'hts w (by decide +kernel)'), the script of L ints xs at the cell b, what the Statement gives of the start (any of its parts by flat_of_before) -/
def lw_At (p : Program) (s : State) (m : MethodId) (meth : Method) (c : Code) (b L : Nat) (xs : Nat → Int32) : Prop :=
  p.tables.exec = Jvm.exec ∧ c.code = code ∧ meth.sig.returnType = ret ∧ c.maxLocals = 4 ∧ s.vm.findClass R_law = some m.cls ∧ (∀ w ∈ lw_tbl, w.before #[Value.ref b] s = true) ∧ va_X b L xs s s.heap ∧ b < s.heap.size ∧ meth.locks = false ∧ (Jvm.Cond.and given_1 narrow_1).before #[Value.ref b] s = true
/-! two worlds side by side -/
theorem ww_l {a b : va_W} {k : Nat} {q : Nat × va_E} (h : a[k]? = some q) : (a ++ b)[k]? = some q := by
  rw [List.getElem?_append_left (List.getElem?_eq_some_iff.mp h).1]
  exact h
theorem ww_r {a b : va_W} {k : Nat} {q : Nat × va_E} (h : b[k]? = some q) : (a ++ b)[a.length + k]? = some q := an_at.trans h
theorem ww_Pl {D : va_G} {cl : List vw_C} {a b : va_W} {H : Heap} (h : va_P D cl (a ++ b) H) : va_P D cl a H := fun k q hk => h k q (ww_l hk)
theorem ww_Pr {D : va_G} {cl : List vw_C} {a b : va_W} {H : Heap} (h : va_P D cl (a ++ b) H) : va_P D cl b H := fun k q hk => h _ q (ww_r hk)
theorem ww_lt {a : va_W} {k : Nat} {q : Nat × va_E} (h : a[k]? = some q) : k < a.length := (List.getElem?_eq_some_iff.mp h).1
theorem ww_Dl {A : Nat → Prop} {a b : va_W} (h : va_D A (a ++ b)) : va_D A a := ⟨fun i j p q hp hq e => h.1 i j p q (ww_l hp) (ww_l hq) e, fun k q hk => h.2 k q (ww_l hk)⟩
theorem ww_Dr {A : Nat → Prop} {a b : va_W} (h : va_D A (a ++ b)) : va_D A b := ⟨fun i j p q hp hq e => by have := h.1 _ _ p q (ww_r (a := a) hp) (ww_r (a := a) hq) e; omega, fun k q hk => h.2 _ q (ww_r hk)⟩
theorem ww_Dx {A : Nat → Prop} {a b : va_W} (h : va_D A (a ++ b)) (i j : Nat) (p q : Nat × va_E) (hp : a[i]? = some p) (hq : b[j]? = some q) : p.1 ≠ q.1 := fun e => by
  have h1 := h.1 _ _ p q (ww_l hp) (ww_r (a := a) hq) e
  have h2 := ww_lt hp
  omega
theorem ww_Ps {D : va_G} {cl : List vw_C} {a b : va_W} {H : Heap} (h : va_P D cl (a ++ b) H) : va_P D cl (b ++ a) H := (ww_Pr h).app (ww_Pl h)
theorem ww_Ds {A : Nat → Prop} {a b : va_W} (h : va_D A (a ++ b)) : va_D A (b ++ a) := va_D.app (ww_Dr h) (ww_Dl h) (fun i j p q hp hq e => ww_Dx h j i q p hq hp e.symm)
theorem ww_join {A0 : Nat → Prop} {D : va_G} {cl : List vw_C} {wc wr w1 : va_W} {H H1 : Heap} (hP : va_P D cl (wc ++ wr) H) (hD : va_D A0 (wc ++ wr)) (hk : ∀ q : Nat, q < H.size → ¬ va_A wc H.size q → H1[q]? = H[q]?) (hF : ∀ q, va_A wc H.size q → A0 q) (hP1 : va_P D cl w1 H1) (hD1 : va_D (va_A wc H.size) w1) : va_P D cl (w1 ++ wr) H1 ∧ va_D A0 (w1 ++ wr) := by
  have ap : ∀ (k : Nat) (q : Nat × va_E), wr[k]? = some q → q.1 < H.size ∧ ¬ va_A wc H.size q.1 := fun k q hq => by
    have hl := (ww_Pr hP k q hq).lt
    refine ⟨hl, fun h => ?_⟩
    rcases h with ⟨k2, e, h⟩ | h
    · exact ww_Dx hD k2 k _ q h hq rfl
    · omega
  refine ⟨hP1.app (fun k q hq => ?_), va_D.app (hD1.weaken (fun _ q _ h => hF q.1 h)) (ww_Dr hD) (fun i j p q hp hq e => ?_)⟩
  · obtain ⟨g1, g2⟩ := ap k q hq
    exact (ww_Pr hP k q hq).kept (hk q.1 g1 g2)
  · exact (ap j q hq).2 (by rw [← e]; exact hD1.2 i p hp)
/-- what the law's world is made of -/
def LA (s : State) : Nat → Prop := fun q => s.heap.size ≤ q
def LI (D : va_G) (tc : Nat → ClassId) (s : State) (H : Heap) (locs : List Loc) (n : Nat) (h : aw_H) (ad : Nat → Nat) (wr : va_W) : Prop := va_P D vwCl (aw_ws tc ad n h ++ wr) H ∧ va_D (LA s) (aw_ws tc ad n h ++ wr) ∧ va_S (LA s) s.heap H locs
section LAW
variable {p : Program} {l : Launch} {e : Env} {s : State} {m : MethodId} {below : List Frame} {meth : Method} {c : Code} {b L : Nat} {xs : Nat → Int32} {D : va_G} {tc : Nat → ClassId} {H : Heap} {locs : List Loc} {cells slots : Nat} {Q : State → Prop}
theorem lw_call {y : MethodName} {cc : ByteArray} {nL nA fr lo mc ms idx ci N n pc : Nat} {ret : Option FieldType} {av rest : List Value} {C : String} {T : u_T} {fs : List Value} {h : aw_H} {Qx : Option Value → Nat → aw_H → Prop} {ad : Nat → Nat} {wr : va_W} {ls : Array Slot} (C0 : lw_At p s m meth c b L xs) (hK : aw_K D tc s) (hI : LI D tc s H locs n h ad wr) (hM : AM l D tc y cc nL ret fr lo mc ms (.ref 0 :: av) n h Qx) (hcw : aw_cw y cc nL ret nA) (hl : Cond.methodLink RL idx y ∈ aw_gw) (hi : Cond.instanceMethod y ∈ aw_gw) (hs : Cond.selects C y y ∈ aw_gw) (hcl : vwCl[ci]? = some (C, T, N)) (hn0 : 0 < n) (h0 : h 0 = .inr (ci, fs)) (hav : ∀ a, av.map (aw_mv a) = av) (hn : av.length = nA) (hR : fr + 1 ≤ 9 ∧ 8 + (nL + 11) + lo ≤ 332) (hc : cells + mc ≤ 600000 ∧ slots + ms ≤ 7302250) (hw8 : (rest.map fun v => v.category).sum ≤ 8) (hsz : ls.size = 4) (d : decode code pc = .ok (.invokevirtual idx, 3))
    (k : ∀ (v : Option Value) (n1 : Nat) (h1 : aw_H) (ad1 : Nat → Nat) (H1 : Heap) (locs1 : List Loc), Qx v n1 h1 → n ≤ n1 → (∀ j, ¬ (n ≤ j ∧ j < n1) → ad1 j = ad j) → LI D tc s H1 locs1 n1 h1 ad1 wr → W p l e room_1 s m #[Value.ref b] below meth c H1 locs1 (cells + mc) (slots + ms) Q (F0 m (pc + 3) ls ((v.map (aw_mv ad1)).toList ++ rest))) :
    W p l e room_1 s m #[Value.ref b] below meth c H locs cells slots Q (F0 m pc ls (av.reverse ++ .ref (ad 0) :: rest)) := by
  obtain ⟨hx, hb, hr0, hml, hown, hts0, hX, hbl, hlk, hgv⟩ := C0
  obtain ⟨hP, hD, hS⟩ := hI
  obtain ⟨w3, w4, g1, g2, g3⟩ := hcw
  have hts : ∀ w ∈ aw_gw, w.before #[Value.ref b] s = true := fun w hw => hts0 w (List.mem_filter.mp hw).1
  have hPc := ww_Pl hP
  have hDc : va_D (va_A (aw_ws tc ad n h) H.size) (aw_ws tc ad n h) := (ww_Dl hD).self
  have hF : ∀ q, va_A (aw_ws tc ad n h) H.size q → LA s q := fun q hq => by
    rcases hq with ⟨k9, e9, h9⟩ | h9
    · exact (ww_Dl hD).2 k9 (q, e9) h9
    · exact Nat.le_trans hS.1 h9
  have hM' := hM ad (va_A (aw_ws tc ad n h) H.size) H.size (fun q hq => Or.inr hq)
  have hw9 := aw_ws_at (tc := tc) (ad := ad) (h := h) hn0
  rw [h0] at hw9
  have hB := callB_of (R := room_1) (own := RL) (index := idx) (mc := mc) (ms := ms) (rm := { frames := fr, cells := mc, slots := ms, locals := lo }) nA hts (aw_good w4) rfl rfl rfl (hts _ w3) (hts _ hl) ⟨g1, g2, g3⟩ hR
  have hr := va_runV (C := C) (b := ad 0) (R := room_1) (e := e) (below := below) (meth := meth) (locs := locs) (cells := cells) (slots := slots) (As := av.map (aw_mv ad)) (rest := rest) (g := F0 m pc ls (av.reverse ++ .ref (ad 0) :: rest)) ⟨hx, hb, hml, hown, hts⟩ hM' ⟨hB, hts _ hi, hts _ hs⟩ ⟨aw_blind, va_recv hK.1 hPc hcl hw9, fun U hU hW => ⟨rfl, by rw [hU], aw_K.warm hW hK, by rw [hU]; exact hPc, hDc⟩⟩ rfl (by rw [List.length_map]; exact hn) hsz (by rw [hav]) (lv_room hw8) d hc
  intro T9 hT X
  obtain ⟨v, st0, t, T', L9, e0, X', hL, e1, e2, ⟨⟨v1, n1, h1, ad1, hv, hq, hn1, had1, hP1, hD1⟩, hz, hk⟩, go⟩ := hr T9 hT X
  obtain rfl : v = v1.map (aw_mv ad1) := by cases hv; rfl
  rw [e0] at hz hk
  have hP2 : va_P D vwCl (aw_ws tc ad1 n1 h1) T'.heap := by rw [e1]; exact hP1
  obtain ⟨hP3, hD3⟩ := ww_join hP hD (fun q z1 z2 => by rw [e1]; exact hk q z1 z2) hF hP2 hD1
  obtain ⟨t2, a1, b1⟩ := k v1 n1 h1 ad1 T'.heap (locs ++ L9) hq hn1 had1 ⟨hP3, hD3, Nat.le_trans hS.1 (by rw [e1]; exact hz), fun q z1 z2 => by
    rw [e1, hk q (Nat.lt_of_lt_of_le z1 hS.1) (fun z => z2 (hF q z))]
    exact hS.2.1 q z1 z2, fun q hq9 => by
    rcases List.mem_append.mp hq9 with z | z
    · exact hS.2.2 q z
    · exact hF _ (hL q z)⟩ T' rfl X'
  exact ⟨t2, go t2 a1, b1⟩
end LAW
theorem isN_i {w : Value} (h : isN (some .int) w = true) : ∃ z, w = .int z := by
  cases w <;> first | exact ⟨_, rfl⟩ | cases h
theorem isN_l {w : Value} (h : isN (some .long) w = true) : ∃ z, w = .long z := by
  cases w <;> first | exact ⟨_, rfl⟩ | cases h
