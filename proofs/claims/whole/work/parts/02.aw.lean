/-! a world by numbers: cells stand at places 0 .. n-1, references are places; 'ad' says where each place lies in the heap -/
abbrev aw_H : Type := Nat → va_E
def aw_mv (ad : Nat → Nat) : Value → Value
  | .ref a => .ref (ad a)
  | v => v
theorem aw_mv_cat (ad : Nat → Nat) (v : Value) : (aw_mv ad v).category = v.category := by cases v <;> rfl
def aw_px (ad : Nat → Nat) : ((Nat → Int32) ⊕ (Nat → Int64) ⊕ (Nat → UInt32) ⊕ (Nat → UInt64) ⊕ (Nat → Option Nat)) → ((Nat → Int32) ⊕ (Nat → Int64) ⊕ (Nat → UInt32) ⊕ (Nat → UInt64) ⊕ (Nat → Option Nat))
  | .inl f => .inl f
  | .inr (.inl f) => .inr (.inl f)
  | .inr (.inr (.inl f)) => .inr (.inr (.inl f))
  | .inr (.inr (.inr (.inl f))) => .inr (.inr (.inr (.inl f)))
  | .inr (.inr (.inr (.inr f))) => .inr (.inr (.inr (.inr (fun j => (f j).map ad))))
def aw_pe (tc : Nat → ClassId) (ad : Nat → Nat) : va_E → va_E
  | .inl q => .inl (tc q.1, q.2.1, aw_px ad q.2.2)
  | .inr q => .inr (q.1, q.2.map (aw_mv ad))
def aw_up (h : aw_H) (k : Nat) (e : va_E) : aw_H := fun j => if j = k then e else h j
def aw_ws (tc : Nat → ClassId) (ad : Nat → Nat) (n : Nat) (h : aw_H) : va_W := (List.range n).map (fun k => (ad k, aw_pe tc ad (h k)))
theorem aw_ws_at {tc : Nat → ClassId} {ad : Nat → Nat} {n : Nat} {h : aw_H} {k : Nat} (hk : k < n) : (aw_ws tc ad n h)[k]? = some (ad k, aw_pe tc ad (h k)) := by
  simp [aw_ws, hk]
theorem aw_ws_le {tc : Nat → ClassId} {ad : Nat → Nat} {n : Nat} {h : aw_H} {k : Nat} (hk : n ≤ k) : (aw_ws tc ad n h)[k]? = none := by
  simp [aw_ws, hk]
theorem aw_ws_len {tc : Nat → ClassId} {ad : Nat → Nat} {n : Nat} {h : aw_H} : (aw_ws tc ad n h).length = n := by simp [aw_ws]
theorem aw_ws_set {tc : Nat → ClassId} {ad : Nat → Nat} {n : Nat} {h : aw_H} {k : Nat} {e : va_E} : (aw_ws tc ad n h).set k (ad k, aw_pe tc ad e) = aw_ws tc ad n (aw_up h k e) := by
  apply List.ext_getElem?
  intro j
  rw [List.getElem?_set, aw_ws_len]
  by_cases hj : j < n
  · rw [aw_ws_at hj, aw_ws_at hj]
    by_cases e1 : k = j
    · subst e1
      simp [aw_up, hj]
    · have e2 : ¬ j = k := fun q => e1 q.symm
      simp [aw_up, e1, e2]
  · rw [aw_ws_le (Nat.not_lt.mp hj), aw_ws_le (Nat.not_lt.mp hj)]
    by_cases e1 : k = j
    · subst e1
      simp [hj]
    · simp [e1]
def aw_ty (tc : Nat → ClassId) : List (ClassId × FieldType) := [(tc 0, .int), (tc 1, .boolean), (tc 2, .object RX6), (tc 3, .object RX3), (tc 4, .array .int)]
def aw_nw : List Cond := [.methodLinkNest RX0 23 yX8_isWithin RX8, .methodLinkNest RX2 36 yX8_has RX8, .methodLinkNest RX2 44 yX8_bit RX8, .methodLinkNest RX0 53 yX8_has RX8, .methodLinkNest RX0 56 yX8_bit RX8, .methodLinkNest RX5 26 yX8_isWithin RX8, .castable RX1 RX4, .castable RX4 RX3, .castable RX1 RX3]
def aw_nc : List (String × String) := [(RX3, RX4), (RX4, RX1), (RX3, RX1)]
def aw_K (D : va_G) (tc : Nat → ClassId) (U : State) : Prop := va_K D vwCl (aw_ty tc) U ∧ (∀ w ∈ aw_nw, va_Nw w U) ∧ ∀ q ∈ aw_nc, va_Nc q.1 q.2 U
theorem aw_nw_on : ∀ w ∈ aw_nw, w.onTables = true := by
  intro w hw
  simp only [aw_nw, List.mem_cons, List.not_mem_nil, or_false] at hw
  rcases hw with rfl | rfl | rfl | rfl | rfl | rfl | rfl | rfl | rfl <;> rfl
theorem aw_K.warm {D : va_G} {tc : Nat → ClassId} {s U : State} (hW : s.WarmedH U.vm) (h : aw_K D tc s) : aw_K D tc U := by
  refine ⟨va_K.moved hW.alike h.1, fun w hw => ?_, fun q hq => va_Nc.moved hW.alike (h.2.2 q hq)⟩
  have h1 := h.2.1 w hw
  simp only [aw_nw, List.mem_cons, List.not_mem_nil, or_false] at hw
  rcases hw with rfl | rfl | rfl | rfl | rfl | rfl | rfl | rfl | rfl <;> first | exact va_Nw.warmM hW h1 | exact va_Nw.warmC hW h1
theorem aw_K.call {D : va_G} {tc : Nat → ClassId} {U : State} {g : JFrame} {mk : MethodId} {a : Array Value} (h : aw_K D tc U) : aw_K D tc (U.calling g mk a) :=
  ⟨va_K.moved (u := U) (U := U.calling g mk a) (Vm.Alike.refl U.vm) h.1, fun w hw => va_Nw.same (u := U) (U := U.calling g mk a) (aw_nw_on w hw) rfl (h.2.1 w hw), fun q hq => va_Nc.moved (u := U) (U := U.calling g mk a) (Vm.Alike.refl U.vm) (h.2.2 q hq)⟩
/-- the words that stay -/
def aw_gw : List Cond := lw_tbl.filter goodWord
theorem aw_in {w : Cond} (h : w ∈ lw_tbl) (hg : goodWord w = true) : w ∈ aw_gw := List.mem_filter.mpr ⟨h, hg⟩
theorem aw_at {w : Cond} (i : Nat) (h : lw_tbl[i]? = some w) (hg : goodWord w = true) : w ∈ aw_gw := aw_in (List.mem_of_getElem? h) hg
theorem aw_good {w : Cond} (h : w ∈ aw_gw) : GoodIn aw_gw (w :: aw_gw) := by
  intro v hv
  have hm : v ∈ aw_gw := by
    rcases List.mem_cons.mp hv with rfl | hv
    · exact h
    · exact hv
  exact ⟨hm, good_of_word (List.mem_filter.mp hm).2⟩
/-- locals -/
def aw_L (ad : Nat → Nat) (ls : Array Slot) (nL : Nat) (L : List (Option Value)) : Prop := ls.size = nL ∧ lv_wf ls ∧ ∀ (i : Nat) (v : Value), L[i]? = some (some v) → ls[i]? = some (.val (aw_mv ad v))
def aw_ll (ad : Nat → Nat) (L : List (Option Value)) : List (Nat × Value) := (List.range L.length).filterMap (fun i => (L[i]?.join).map (fun v => (i, aw_mv ad v)))
theorem aw_ll_mem {ad : Nat → Nat} {L : List (Option Value)} {q : Nat × Value} : q ∈ aw_ll ad L ↔ ∃ v, L[q.1]? = some (some v) ∧ q.2 = aw_mv ad v := by
  unfold aw_ll
  rw [List.mem_filterMap]
  constructor
  · rintro ⟨i, -, he⟩
    cases hL : L[i]? with
    | none => simp [hL] at he
    | some o =>
      cases o with
      | none => simp [hL] at he
      | some v =>
        simp [hL] at he
        subst he
        exact ⟨v, hL, rfl⟩
  · rintro ⟨v, h1, h2⟩
    refine ⟨q.1, List.mem_range.mpr (List.getElem?_eq_some_iff.mp h1).1, ?_⟩
    simp [h1, ← h2]
theorem aw_L.has {ad : Nat → Nat} {ls : Array Slot} {nL : Nat} {L : List (Option Value)} (h : aw_L ad ls nL L) : lv_has ls nL (aw_ll ad L) :=
  ⟨h.1, h.2.1, fun q hq => by
    obtain ⟨v, h1, h2⟩ := aw_ll_mem.mp hq
    rw [h2]
    exact h.2.2 _ _ h1⟩
def aw_ok (L : List (Option Value)) : Nat → Bool
  | 0 => true
  | j + 1 => match L[j]? with
    | some (some w) => w.category == 1
    | _ => true
theorem aw_ok_spec {L : List (Option Value)} {j i : Nat} {w : Value} (h : aw_ok L i = true) (hj : L[j]? = some (some w)) (e : j + 1 = i) : w.category = 1 := by
  subst e
  simpa [aw_ok, hj] using h
theorem aw_L.store1 {ad : Nat → Nat} {ls' : Array Slot} {nL : Nat} {L : List (Option Value)} {i : Nat} {v : Value} (ho : aw_ok L i = true) (h' : lv_has ls' nL ((i, aw_mv ad v) :: (aw_ll ad L).filter (fun q => !(q.1 == i) && !(q.1 + 1 == i && q.2.category == 2)))) : aw_L ad ls' nL (L.set i (some v)) := by
  refine ⟨h'.1, h'.2.1, fun j w hj => ?_⟩
  rw [List.getElem?_set] at hj
  by_cases e : i = j
  · subst e
    by_cases hl : i < L.length
    · simp [hl] at hj
      subst hj
      exact h'.2.2 _ List.mem_cons_self
    · simp [hl] at hj
  · rw [if_neg e] at hj
    refine h'.2.2 (j, aw_mv ad w) (List.mem_cons_of_mem _ (List.mem_filter.mpr ⟨aw_ll_mem.mpr ⟨w, hj, rfl⟩, ?_⟩))
    have e2 : ¬ j = i := fun q => e q.symm
    by_cases e3 : j + 1 = i
    · have := aw_ok_spec ho hj e3
      simp [e2, e3, aw_mv_cat, this]
    · simp [e2, e3]
theorem aw_L.store2 {ad : Nat → Nat} {ls' : Array Slot} {nL : Nat} {L : List (Option Value)} {i : Nat} {v : Value} (ho : aw_ok L i = true) (h' : lv_has ls' nL ((i, aw_mv ad v) :: (aw_ll ad L).filter (fun q => !(q.1 == i) && (!(q.1 == i + 1) && !(q.1 + 1 == i && q.2.category == 2))))) : aw_L ad ls' nL ((L.set i (some v)).set (i + 1) none) := by
  refine ⟨h'.1, h'.2.1, fun j w hj => ?_⟩
  rw [List.getElem?_set] at hj
  by_cases e0 : i + 1 = j
  · rw [if_pos e0] at hj
    split at hj <;> simp at hj
  rw [if_neg e0, List.getElem?_set] at hj
  by_cases e : i = j
  · subst e
    by_cases hl : i < L.length
    · simp [hl] at hj
      subst hj
      exact h'.2.2 _ List.mem_cons_self
    · simp [hl] at hj
  · rw [if_neg e] at hj
    refine h'.2.2 (j, aw_mv ad w) (List.mem_cons_of_mem _ (List.mem_filter.mpr ⟨aw_ll_mem.mpr ⟨w, hj, rfl⟩, ?_⟩))
    have e2 : ¬ j = i := fun q => e q.symm
    have e4 : ¬ j = i + 1 := fun q => e0 q.symm
    by_cases e3 : j + 1 = i
    · have := aw_ok_spec ho hj e3
      simp [e2, e3, e4, aw_mv_cat, this]
    · simp [e2, e3, e4]
def aw_ar : List Value → List (Option Value)
  | [] => []
  | v :: vs => if v.category = 2 then some v :: none :: aw_ar vs else some v :: aw_ar vs
theorem aw_ar_args (ad : Nat → Nat) : ∀ (av : List Value) (j i : Nat) (v : Value), (aw_ar av)[i]? = some (some v) → (j + i, aw_mv ad v) ∈ lv_args j (av.map (aw_mv ad))
  | [], j, i, v, h => by simp [aw_ar] at h
  | a :: as, j, i, v, h => by
    rw [List.map_cons, lv_args, aw_mv_cat]
    unfold aw_ar at h
    by_cases hc : a.category = 2
    · rw [if_pos hc] at h ⊢
      match i, h with
      | 0, h =>
        simp at h
        subst h
        exact List.mem_cons_self
      | 1, h => simp at h
      | i + 2, h =>
        have h1 : (aw_ar as)[i]? = some (some v) := by simpa using h
        have := aw_ar_args ad as (j + 2) i v h1
        rw [show j + (i + 2) = j + 2 + i by omega]
        exact List.mem_cons_of_mem _ this
    · rw [if_neg hc] at h ⊢
      match i, h with
      | 0, h =>
        simp at h
        subst h
        exact List.mem_cons_self
      | i + 1, h =>
        have h1 : (aw_ar as)[i]? = some (some v) := by simpa using h
        have := aw_ar_args ad as (j + 1) i v h1
        rw [show j + (i + 1) = j + 1 + i by omega]
        exact List.mem_cons_of_mem _ this
theorem aw_ar_sl (ad : Nat → Nat) : ∀ av : List Value, (lg_sl (av.map (aw_mv ad))).length = (aw_ar av).length
  | [] => rfl
  | a :: as => by
    have ih := aw_ar_sl ad as
    unfold lg_sl at ih
    rw [List.map_cons]
    unfold lg_sl aw_ar
    rw [List.flatMap_cons, List.length_append, ih, aw_mv_cat]
    by_cases hc : a.category = 2
    · simp [hc]; omega
    · simp [hc]; omega
/-- a method's end -/
def aw_Q (D : va_G) (tc : Nat → ClassId) (n0 : Nat) (ad0 : Nat → Nat) (A : Nat → Prop) (Q : Option Value → Nat → aw_H → Prop) : Array Value → State → Outcome → State → Prop := fun _ st o t =>
  (∃ (v : Option Value) (n' : Nat) (h' : aw_H) (ad' : Nat → Nat), o = .returned (v.map (aw_mv ad')) ∧ Q v n' h' ∧ n0 ≤ n' ∧ (∀ k, ¬ (n0 ≤ k ∧ k < n') → ad' k = ad0 k) ∧ va_P D vwCl (aw_ws tc ad' n' h') t.heap ∧ va_D A (aw_ws tc ad' n' h')) ∧ va_F A st t
/-- what stays through a method -/
def aw_X (D : va_G) (tc : Nat → ClassId) (own : String) (cc : ByteArray) (nL : Nat) (ret : Option FieldType) (p : Program) (s : State) (m : MethodId) (args : Array Value) (meth : Method) (c : Code) (A : Nat → Prop) : Prop :=
  p.tables.exec = Jvm.exec ∧ c.code = cc ∧ meth.sig.returnType = ret ∧ c.maxLocals = nL ∧ s.vm.findClass own = some m.cls ∧ (∀ w ∈ aw_gw, w.before args s = true) ∧ meth.locks = false ∧ aw_K D tc s ∧ ∀ q, s.heap.size ≤ q → A q
/-- what moves -/
def aw_Y (D : va_G) (tc : Nat → ClassId) (nL n0 : Nat) (s : State) (A : Nat → Prop) (ad ad0 : Nat → Nat) (H : Heap) (locs : List Loc) (ls : Array Slot) (L : List (Option Value)) (n : Nat) (h : aw_H) : Prop :=
  n0 ≤ n ∧ (∀ k, ¬ (n0 ≤ k ∧ k < n) → ad k = ad0 k) ∧ va_P D vwCl (aw_ws tc ad n h) H ∧ va_D A (aw_ws tc ad n h) ∧ va_S A s.heap H locs ∧ aw_L ad ls nL L
def AW (l : Launch) (D : va_G) (tc : Nat → ClassId) (own : String) (cc : ByteArray) (nL : Nat) (ret : Option FieldType) (R : Room) (n0 mc ms : Nat) (Q : Option Value → Nat → aw_H → Prop) (pc : Nat) (L : List (Option Value)) (st : List Value) (n : Nat) (h : aw_H) (cells slots : Nat) : Prop :=
  ∀ (p : Program) (e : Env) (s : State) (m : MethodId) (args : Array Value) (below : List Frame) (meth : Method) (c : Code) (H : Heap) (locs : List Loc) (ls : Array Slot) (A : Nat → Prop) (ad ad0 : Nat → Nat),
    aw_X D tc own cc nL ret p s m args meth c A → aw_Y D tc nL n0 s A ad ad0 H locs ls L n h →
    W p l e R s m args below meth c H locs cells slots (MQ below (aw_Q D tc n0 ad0 A Q) args s mc ms A) (F0 m pc ls (st.map (aw_mv ad)))
/-- a method's contract -/
def AM (l : Launch) (D : va_G) (tc : Nat → ClassId) (y : MethodName) (cc : ByteArray) (nL : Nat) (ret : Option FieldType) (fr lo mc ms : Nat) (av : List Value) (n : Nat) (h : aw_H) (Q : Option Value → Nat → aw_H → Prop) : Prop :=
  ∀ (ad : Nat → Nat) (A : Nat → Prop) (sz : Nat), (∀ q, sz ≤ q → A q) →
    Met l y (.code y cc nL ret :: aw_gw) { frames := fr, cells := mc, slots := ms, locals := lo } (fun v U => v = (av.map (aw_mv ad)).toArray ∧ U.heap.size = sz ∧ aw_K D tc U ∧ va_P D vwCl (aw_ws tc ad n h) U.heap ∧ va_D A (aw_ws tc ad n h)) (aw_Q D tc n ad A Q) mc ms A
theorem aw_blind {D : va_G} {tc : Nat → ClassId} {av : List Value} {ad : Nat → Nat} {A : Nat → Prop} {sz n : Nat} {h : aw_H} : FrameBlind (fun v U => v = (av.map (aw_mv ad)).toArray ∧ U.heap.size = sz ∧ aw_K D tc U ∧ va_P D vwCl (aw_ws tc ad n h) U.heap ∧ va_D A (aw_ws tc ad n h)) :=
  fun _ _ _ _ q => ⟨q.1, q.2.1, aw_K.call q.2.2.1, q.2.2.2.1, q.2.2.2.2⟩
section AWR
variable {l : Launch} {D : va_G} {tc : Nat → ClassId} {own : String} {cc : ByteArray} {nL : Nat} {ret : Option FieldType} {R : Room} {n0 mc ms : Nat} {Q : Option Value → Nat → aw_H → Prop} {pc : Nat} {L : List (Option Value)} {st rest : List Value} {n : Nat} {h : aw_H} {cells slots : Nat}
theorem am_of {y : MethodName} {fr lo : Nat} {av : List Value} (hy : plainName y.cls = true) (hlen : (aw_ar av).length ≤ nL) (hL : aw_ar av ++ List.replicate (nL - (aw_ar av).length) none = L)
    (k : AW l D tc y.cls cc nL ret { frames := fr, cells := mc, slots := ms, locals := lo } n mc ms Q 0 L [] n h 0 0) : AM l D tc y cc nL ret fr lo mc ms av n h Q := by
  intro ad A sz hA
  refine Met.ofW (cc := cc) (maxL := nL) (ret := ret) hy rfl ?_
  intro p e s m args below meth c s₁ B hml hv
  obtain ⟨rfl, hsz, hK, hP, hD⟩ := hv
  subst hsz
  have hl := lv_entry (av.map (aw_mv ad)) (n := nL) (by rw [aw_ar_sl]; exact hlen)
  rw [lg_entry_eq]
  refine k p e s m _ below meth c s.heap [] _ A ad ad ⟨B.exec, B.bytes, B.returns, hml, findClass_of_methodNamed B.named, fun w hw => atoms_spec (ws := .code y cc nL ret :: aw_gw) B.pre w (List.mem_cons_of_mem _ hw), B.notSynchronized, hK, hA⟩ ⟨Nat.le_refl _, fun _ _ => rfl, hP, hD, va_S.rf, hl.1, hl.2.1, fun i v hi => ?_⟩
  subst hL
  by_cases h1 : i < (aw_ar av).length
  · rw [List.getElem?_append_left h1] at hi
    have := hl.2.2 _ (aw_ar_args ad av 0 i v hi)
    simpa using this
  · rw [List.getElem?_append_right (by omega)] at hi
    have := List.mem_of_getElem? hi
    simp at this
theorem aw_pc {pc' : Nat} (e : pc = pc') (k : AW l D tc own cc nL ret R n0 mc ms Q pc' L st n h cells slots) : AW l D tc own cc nL ret R n0 mc ms Q pc L st n h cells slots := e ▸ k

theorem aw_iconst {z : Int} {v : Int32} (d : decode cc pc = .ok (.iconst z, 1)) (hv : Int32.ofInt z = v) (k : AW l D tc own cc nL ret R n0 mc ms Q (pc + 1) (L) (.int v :: rest) n h cells slots) : AW l D tc own cc nL ret R n0 mc ms Q (pc) (L) (rest) n h cells slots :=
  fun p e s m args below meth c H locs ls A ad ad0 X Y => lv_iconst X.1 X.2.1 d hv (k p e s m args below meth c H locs ls A ad ad0 X Y)
theorem aw_bipush {z : Int} {v : Int32} (d : decode cc pc = .ok (.bipush z, 2)) (hv : (Int8.ofInt z).toInt32 = v) (k : AW l D tc own cc nL ret R n0 mc ms Q (pc + 2) (L) (.int v :: rest) n h cells slots) : AW l D tc own cc nL ret R n0 mc ms Q (pc) (L) (rest) n h cells slots :=
  fun p e s m args below meth c H locs ls A ad ad0 X Y => lv_bipush X.1 X.2.1 d hv (k p e s m args below meth c H locs ls A ad ad0 X Y)
theorem aw_sipush {z : Int} {v : Int32} (d : decode cc pc = .ok (.sipush z, 3)) (hv : (Int16.ofInt z).toInt32 = v) (k : AW l D tc own cc nL ret R n0 mc ms Q (pc + 3) (L) (.int v :: rest) n h cells slots) : AW l D tc own cc nL ret R n0 mc ms Q (pc) (L) (rest) n h cells slots :=
  fun p e s m args below meth c H locs ls A ad ad0 X Y => lv_sipush X.1 X.2.1 d hv (k p e s m args below meth c H locs ls A ad ad0 X Y)
theorem aw_lconst {z : Fin 2} {v : Int64} (d : decode cc pc = .ok (.lconst z, 1)) (hv : Int64.ofNat (z : Nat) = v) (k : AW l D tc own cc nL ret R n0 mc ms Q (pc + 1) (L) (.long v :: rest) n h cells slots) : AW l D tc own cc nL ret R n0 mc ms Q (pc) (L) (rest) n h cells slots :=
  fun p e s m args below meth c H locs ls A ad ad0 X Y => lv_lconst X.1 X.2.1 d hv (k p e s m args below meth c H locs ls A ad ad0 X Y)
theorem aw_null  (d : decode cc pc = .ok (.aconst_null, 1)) (k : AW l D tc own cc nL ret R n0 mc ms Q (pc + 1) (L) (.null :: rest) n h cells slots) : AW l D tc own cc nL ret R n0 mc ms Q (pc) (L) (rest) n h cells slots :=
  fun p e s m args below meth c H locs ls A ad ad0 X Y => lv_null X.1 X.2.1 d (k p e s m args below meth c H locs ls A ad ad0 X Y)
theorem aw_ldc2 {idx : Nat} {v : Int64} (d : decode cc pc = .ok (.ldc2_w idx, 3)) (hw : Cond.constantLong own idx v ∈ aw_gw) (k : AW l D tc own cc nL ret R n0 mc ms Q (pc + 3) (L) (.long v :: rest) n h cells slots) : AW l D tc own cc nL ret R n0 mc ms Q (pc) (L) (rest) n h cells slots :=
  fun p e s m args below meth c H locs ls A ad ad0 X Y => lv_ldc2 X.1 X.2.1 X.2.2.2.2.1 (X.2.2.2.2.2.1 _ hw) d (k p e s m args below meth c H locs ls A ad ad0 X Y)
theorem aw_ldcw {idx : Nat} {v : Int32} (d : decode cc pc = .ok (.ldc_w idx, 3)) (hw : Cond.constant own idx v ∈ aw_gw) (k : AW l D tc own cc nL ret R n0 mc ms Q (pc + 3) (L) (.int v :: rest) n h cells slots) : AW l D tc own cc nL ret R n0 mc ms Q (pc) (L) (rest) n h cells slots :=
  fun p e s m args below meth c H locs ls A ad ad0 X Y => lv_ldcw X.1 X.2.1 X.2.2.2.2.1 (X.2.2.2.2.2.1 _ hw) d (k p e s m args below meth c H locs ls A ad ad0 X Y)
theorem aw_iload_n {k0 : Fin 4} {i : Nat} {x : Int32} (d : decode cc pc = .ok (.iload_n k0, 1)) (hi : (k0 : Nat) = i) (hv : L[i]? = some (some (.int x))) (k : AW l D tc own cc nL ret R n0 mc ms Q (pc + 1) (L) (.int x :: rest) n h cells slots) : AW l D tc own cc nL ret R n0 mc ms Q (pc) (L) (rest) n h cells slots :=
  fun p e s m args below meth c H locs ls A ad ad0 X Y => lv_iload_n X.1 X.2.1 d hi (Y.2.2.2.2.2.2.2 _ _ hv) (k p e s m args below meth c H locs ls A ad ad0 X Y)
theorem aw_iload {i : Nat} {x : Int32} (d : decode cc pc = .ok (.iload i, 2)) (hv : L[i]? = some (some (.int x))) (k : AW l D tc own cc nL ret R n0 mc ms Q (pc + 2) (L) (.int x :: rest) n h cells slots) : AW l D tc own cc nL ret R n0 mc ms Q (pc) (L) (rest) n h cells slots :=
  fun p e s m args below meth c H locs ls A ad ad0 X Y => lv_iload X.1 X.2.1 d (Y.2.2.2.2.2.2.2 _ _ hv) (k p e s m args below meth c H locs ls A ad ad0 X Y)
theorem aw_lload_n {k0 : Fin 4} {i : Nat} {x : Int64} (d : decode cc pc = .ok (.lload_n k0, 1)) (hi : (k0 : Nat) = i) (hv : L[i]? = some (some (.long x))) (k : AW l D tc own cc nL ret R n0 mc ms Q (pc + 1) (L) (.long x :: rest) n h cells slots) : AW l D tc own cc nL ret R n0 mc ms Q (pc) (L) (rest) n h cells slots :=
  fun p e s m args below meth c H locs ls A ad ad0 X Y => lv_lload_n X.1 X.2.1 d hi (Y.2.2.2.2.2.2.2 _ _ hv) (k p e s m args below meth c H locs ls A ad ad0 X Y)
theorem aw_lload {i : Nat} {x : Int64} (d : decode cc pc = .ok (.lload i, 2)) (hv : L[i]? = some (some (.long x))) (k : AW l D tc own cc nL ret R n0 mc ms Q (pc + 2) (L) (.long x :: rest) n h cells slots) : AW l D tc own cc nL ret R n0 mc ms Q (pc) (L) (rest) n h cells slots :=
  fun p e s m args below meth c H locs ls A ad ad0 X Y => lv_lload X.1 X.2.1 d (Y.2.2.2.2.2.2.2 _ _ hv) (k p e s m args below meth c H locs ls A ad ad0 X Y)
theorem aw_aload_n {k0 : Fin 4} {i : Nat} {x : Nat} (d : decode cc pc = .ok (.aload_n k0, 1)) (hi : (k0 : Nat) = i) (hv : L[i]? = some (some (.ref x))) (k : AW l D tc own cc nL ret R n0 mc ms Q (pc + 1) (L) (.ref x :: rest) n h cells slots) : AW l D tc own cc nL ret R n0 mc ms Q (pc) (L) (rest) n h cells slots :=
  fun p e s m args below meth c H locs ls A ad ad0 X Y => lv_aload_n X.1 X.2.1 d hi (Y.2.2.2.2.2.2.2 _ _ hv) (k p e s m args below meth c H locs ls A ad ad0 X Y)
theorem aw_aload {i : Nat} {x : Nat} (d : decode cc pc = .ok (.aload i, 2)) (hv : L[i]? = some (some (.ref x))) (k : AW l D tc own cc nL ret R n0 mc ms Q (pc + 2) (L) (.ref x :: rest) n h cells slots) : AW l D tc own cc nL ret R n0 mc ms Q (pc) (L) (rest) n h cells slots :=
  fun p e s m args below meth c H locs ls A ad ad0 X Y => lv_aload X.1 X.2.1 d (Y.2.2.2.2.2.2.2 _ _ hv) (k p e s m args below meth c H locs ls A ad ad0 X Y)
theorem aw_aload_nN {k0 : Fin 4} {i : Nat} (d : decode cc pc = .ok (.aload_n k0, 1)) (hi : (k0 : Nat) = i) (hv : L[i]? = some (some .null)) (k : AW l D tc own cc nL ret R n0 mc ms Q (pc + 1) (L) (.null :: rest) n h cells slots) : AW l D tc own cc nL ret R n0 mc ms Q (pc) (L) (rest) n h cells slots :=
  fun p e s m args below meth c H locs ls A ad ad0 X Y => lv_aload_nN X.1 X.2.1 d hi (Y.2.2.2.2.2.2.2 _ _ hv) (k p e s m args below meth c H locs ls A ad ad0 X Y)
theorem aw_aloadN {i : Nat} (d : decode cc pc = .ok (.aload i, 2)) (hv : L[i]? = some (some .null)) (k : AW l D tc own cc nL ret R n0 mc ms Q (pc + 2) (L) (.null :: rest) n h cells slots) : AW l D tc own cc nL ret R n0 mc ms Q (pc) (L) (rest) n h cells slots :=
  fun p e s m args below meth c H locs ls A ad ad0 X Y => lv_aloadN X.1 X.2.1 d (Y.2.2.2.2.2.2.2 _ _ hv) (k p e s m args below meth c H locs ls A ad ad0 X Y)
theorem aw_istore_n {k0 : Fin 4} {i : Nat} {x : Int32} (d : decode cc pc = .ok (.istore_n k0, 1)) (hi : (k0 : Nat) = i) (hb : i < nL) (ho : aw_ok L i = true) (k : AW l D tc own cc nL ret R n0 mc ms Q (pc + 1) (L.set i (some (.int x))) (rest) n h cells slots) : AW l D tc own cc nL ret R n0 mc ms Q (pc) (L) (.int x :: rest) n h cells slots :=
  fun p e s m args below meth c H locs ls A ad ad0 X Y => lv_istore_n X.1 X.2.1 d hi Y.2.2.2.2.2.has hb rfl (fun ls' h' => k p e s m args below meth c H locs ls' A ad ad0 X ⟨Y.1, Y.2.1, Y.2.2.1, Y.2.2.2.1, Y.2.2.2.2.1, aw_L.store1 (v := .int x) ho h'⟩)
theorem aw_istore {i : Nat} {x : Int32} (d : decode cc pc = .ok (.istore i, 2)) (hb : i < nL) (ho : aw_ok L i = true) (k : AW l D tc own cc nL ret R n0 mc ms Q (pc + 2) (L.set i (some (.int x))) (rest) n h cells slots) : AW l D tc own cc nL ret R n0 mc ms Q (pc) (L) (.int x :: rest) n h cells slots :=
  fun p e s m args below meth c H locs ls A ad ad0 X Y => lv_istore X.1 X.2.1 d Y.2.2.2.2.2.has hb rfl (fun ls' h' => k p e s m args below meth c H locs ls' A ad ad0 X ⟨Y.1, Y.2.1, Y.2.2.1, Y.2.2.2.1, Y.2.2.2.2.1, aw_L.store1 (v := .int x) ho h'⟩)
theorem aw_astore_n {k0 : Fin 4} {i : Nat} {x : Nat} (d : decode cc pc = .ok (.astore_n k0, 1)) (hi : (k0 : Nat) = i) (hb : i < nL) (ho : aw_ok L i = true) (k : AW l D tc own cc nL ret R n0 mc ms Q (pc + 1) (L.set i (some (.ref x))) (rest) n h cells slots) : AW l D tc own cc nL ret R n0 mc ms Q (pc) (L) (.ref x :: rest) n h cells slots :=
  fun p e s m args below meth c H locs ls A ad ad0 X Y => lv_astore_n X.1 X.2.1 d hi Y.2.2.2.2.2.has hb rfl (fun ls' h' => k p e s m args below meth c H locs ls' A ad ad0 X ⟨Y.1, Y.2.1, Y.2.2.1, Y.2.2.2.1, Y.2.2.2.2.1, aw_L.store1 (v := .ref x) ho h'⟩)
theorem aw_astore {i : Nat} {x : Nat} (d : decode cc pc = .ok (.astore i, 2)) (hb : i < nL) (ho : aw_ok L i = true) (k : AW l D tc own cc nL ret R n0 mc ms Q (pc + 2) (L.set i (some (.ref x))) (rest) n h cells slots) : AW l D tc own cc nL ret R n0 mc ms Q (pc) (L) (.ref x :: rest) n h cells slots :=
  fun p e s m args below meth c H locs ls A ad ad0 X Y => lv_astore X.1 X.2.1 d Y.2.2.2.2.2.has hb rfl (fun ls' h' => k p e s m args below meth c H locs ls' A ad ad0 X ⟨Y.1, Y.2.1, Y.2.2.1, Y.2.2.2.1, Y.2.2.2.2.1, aw_L.store1 (v := .ref x) ho h'⟩)
theorem aw_lstore_n {k0 : Fin 4} {i : Nat} {x : Int64} (d : decode cc pc = .ok (.lstore_n k0, 1)) (hi : (k0 : Nat) = i) (hb : i + 1 < nL) (ho : aw_ok L i = true) (k : AW l D tc own cc nL ret R n0 mc ms Q (pc + 1) ((L.set i (some (.long x))).set (i + 1) none) (rest) n h cells slots) : AW l D tc own cc nL ret R n0 mc ms Q (pc) (L) (.long x :: rest) n h cells slots :=
  fun p e s m args below meth c H locs ls A ad ad0 X Y => lv_lstore_n X.1 X.2.1 d hi Y.2.2.2.2.2.has hb rfl (fun ls' h' => k p e s m args below meth c H locs ls' A ad ad0 X ⟨Y.1, Y.2.1, Y.2.2.1, Y.2.2.2.1, Y.2.2.2.2.1, aw_L.store2 (v := .long x) ho h'⟩)
theorem aw_lstore {i : Nat} {x : Int64} (d : decode cc pc = .ok (.lstore i, 2)) (hb : i + 1 < nL) (ho : aw_ok L i = true) (k : AW l D tc own cc nL ret R n0 mc ms Q (pc + 2) ((L.set i (some (.long x))).set (i + 1) none) (rest) n h cells slots) : AW l D tc own cc nL ret R n0 mc ms Q (pc) (L) (.long x :: rest) n h cells slots :=
  fun p e s m args below meth c H locs ls A ad ad0 X Y => lv_lstore X.1 X.2.1 d Y.2.2.2.2.2.has hb rfl (fun ls' h' => k p e s m args below meth c H locs ls' A ad ad0 X ⟨Y.1, Y.2.1, Y.2.2.1, Y.2.2.2.1, Y.2.2.2.2.1, aw_L.store2 (v := .long x) ho h'⟩)
theorem aw_astore_nN {k0 : Fin 4} {i : Nat} (d : decode cc pc = .ok (.astore_n k0, 1)) (hi : (k0 : Nat) = i) (hb : i < nL) (ho : aw_ok L i = true) (k : AW l D tc own cc nL ret R n0 mc ms Q (pc + 1) (L.set i (some .null)) (rest) n h cells slots) : AW l D tc own cc nL ret R n0 mc ms Q (pc) (L) (.null :: rest) n h cells slots :=
  fun p e s m args below meth c H locs ls A ad ad0 X Y => lv_astore_nN X.1 X.2.1 d hi Y.2.2.2.2.2.has hb rfl (fun ls' h' => k p e s m args below meth c H locs ls' A ad ad0 X ⟨Y.1, Y.2.1, Y.2.2.1, Y.2.2.2.1, Y.2.2.2.2.1, aw_L.store1 (v := .null) ho h'⟩)
theorem aw_astoreN {i : Nat} (d : decode cc pc = .ok (.astore i, 2)) (hb : i < nL) (ho : aw_ok L i = true) (k : AW l D tc own cc nL ret R n0 mc ms Q (pc + 2) (L.set i (some .null)) (rest) n h cells slots) : AW l D tc own cc nL ret R n0 mc ms Q (pc) (L) (.null :: rest) n h cells slots :=
  fun p e s m args below meth c H locs ls A ad ad0 X Y => lv_astoreN X.1 X.2.1 d Y.2.2.2.2.2.has hb rfl (fun ls' h' => k p e s m args below meth c H locs ls' A ad ad0 X ⟨Y.1, Y.2.1, Y.2.2.1, Y.2.2.2.1, Y.2.2.2.2.1, aw_L.store1 (v := .null) ho h'⟩)
theorem aw_iinc {i : Nat} {z : Int} {x v : Int32} (d : decode cc pc = .ok (.iinc i z, 3)) (hv : L[i]? = some (some (.int x))) (hz : Int32.ofInt z = v) (hb : i < nL) (ho : aw_ok L i = true) (k : AW l D tc own cc nL ret R n0 mc ms Q (pc + 3) (L.set i (some (.int (x + v)))) (st) n h cells slots) : AW l D tc own cc nL ret R n0 mc ms Q (pc) (L) (st) n h cells slots := by
  subst hz
  intro p e s m args below meth c H locs ls A ad ad0 X Y
  obtain ⟨k9, hk9⟩ := List.getElem?_of_mem (aw_ll_mem (ad := ad) (q := (i, .int x)).mpr ⟨.int x, hv, rfl⟩)
  exact lv_iinc X.1 X.2.1 d Y.2.2.2.2.2.has hk9 rfl hb rfl (fun ls' h' => k p e s m args below meth c H locs ls' A ad ad0 X ⟨Y.1, Y.2.1, Y.2.2.1, Y.2.2.2.1, Y.2.2.2.2.1, aw_L.store1 (v := .int (x + Int32.ofInt z)) ho h'⟩)
theorem aw_iadd {x y : Int32} (d : decode cc pc = .ok (.iadd, 1)) (k : AW l D tc own cc nL ret R n0 mc ms Q (pc + 1) (L) (.int (x + y) :: rest) n h cells slots) : AW l D tc own cc nL ret R n0 mc ms Q (pc) (L) (.int y :: .int x :: rest) n h cells slots :=
  fun p e s m args below meth c H locs ls A ad ad0 X Y => lv_iadd X.1 X.2.1 d (k p e s m args below meth c H locs ls A ad ad0 X Y)
theorem aw_isub {x y : Int32} (d : decode cc pc = .ok (.isub, 1)) (k : AW l D tc own cc nL ret R n0 mc ms Q (pc + 1) (L) (.int (x - y) :: rest) n h cells slots) : AW l D tc own cc nL ret R n0 mc ms Q (pc) (L) (.int y :: .int x :: rest) n h cells slots :=
  fun p e s m args below meth c H locs ls A ad ad0 X Y => lv_isub X.1 X.2.1 d (k p e s m args below meth c H locs ls A ad ad0 X Y)
theorem aw_imul {x y : Int32} (d : decode cc pc = .ok (.imul, 1)) (k : AW l D tc own cc nL ret R n0 mc ms Q (pc + 1) (L) (.int (x * y) :: rest) n h cells slots) : AW l D tc own cc nL ret R n0 mc ms Q (pc) (L) (.int y :: .int x :: rest) n h cells slots :=
  fun p e s m args below meth c H locs ls A ad ad0 X Y => lv_imul X.1 X.2.1 d (k p e s m args below meth c H locs ls A ad ad0 X Y)
theorem aw_iand {x y : Int32} (d : decode cc pc = .ok (.iand, 1)) (k : AW l D tc own cc nL ret R n0 mc ms Q (pc + 1) (L) (.int (x &&& y) :: rest) n h cells slots) : AW l D tc own cc nL ret R n0 mc ms Q (pc) (L) (.int y :: .int x :: rest) n h cells slots :=
  fun p e s m args below meth c H locs ls A ad ad0 X Y => lv_iand X.1 X.2.1 d (k p e s m args below meth c H locs ls A ad ad0 X Y)
theorem aw_ior {x y : Int32} (d : decode cc pc = .ok (.ior, 1)) (k : AW l D tc own cc nL ret R n0 mc ms Q (pc + 1) (L) (.int (x ||| y) :: rest) n h cells slots) : AW l D tc own cc nL ret R n0 mc ms Q (pc) (L) (.int y :: .int x :: rest) n h cells slots :=
  fun p e s m args below meth c H locs ls A ad ad0 X Y => lv_ior X.1 X.2.1 d (k p e s m args below meth c H locs ls A ad ad0 X Y)
theorem aw_ixor {x y : Int32} (d : decode cc pc = .ok (.ixor, 1)) (k : AW l D tc own cc nL ret R n0 mc ms Q (pc + 1) (L) (.int (x ^^^ y) :: rest) n h cells slots) : AW l D tc own cc nL ret R n0 mc ms Q (pc) (L) (.int y :: .int x :: rest) n h cells slots :=
  fun p e s m args below meth c H locs ls A ad ad0 X Y => lv_ixor X.1 X.2.1 d (k p e s m args below meth c H locs ls A ad ad0 X Y)
theorem aw_idiv {x y : Int32} (d : decode cc pc = .ok (.idiv, 1)) (hne : ¬ y = 0) (k : AW l D tc own cc nL ret R n0 mc ms Q (pc + 1) (L) (.int (x / y) :: rest) n h cells slots) : AW l D tc own cc nL ret R n0 mc ms Q (pc) (L) (.int y :: .int x :: rest) n h cells slots :=
  fun p e s m args below meth c H locs ls A ad ad0 X Y => lv_idiv X.1 X.2.1 d hne (k p e s m args below meth c H locs ls A ad ad0 X Y)
theorem aw_irem {x y : Int32} (d : decode cc pc = .ok (.irem, 1)) (hne : ¬ y = 0) (k : AW l D tc own cc nL ret R n0 mc ms Q (pc + 1) (L) (.int (x - x / y * y) :: rest) n h cells slots) : AW l D tc own cc nL ret R n0 mc ms Q (pc) (L) (.int y :: .int x :: rest) n h cells slots :=
  fun p e s m args below meth c H locs ls A ad ad0 X Y => lv_irem X.1 X.2.1 d hne (k p e s m args below meth c H locs ls A ad ad0 X Y)
theorem aw_ishl {x y : Int32} (d : decode cc pc = .ok (.ishl, 1)) (k : AW l D tc own cc nL ret R n0 mc ms Q (pc + 1) (L) (.int (x <<< (y &&& 31)) :: rest) n h cells slots) : AW l D tc own cc nL ret R n0 mc ms Q (pc) (L) (.int y :: .int x :: rest) n h cells slots :=
  fun p e s m args below meth c H locs ls A ad ad0 X Y => lv_ishl X.1 X.2.1 d (k p e s m args below meth c H locs ls A ad ad0 X Y)
theorem aw_ishr {x y : Int32} (d : decode cc pc = .ok (.ishr, 1)) (k : AW l D tc own cc nL ret R n0 mc ms Q (pc + 1) (L) (.int (x >>> (y &&& 31)) :: rest) n h cells slots) : AW l D tc own cc nL ret R n0 mc ms Q (pc) (L) (.int y :: .int x :: rest) n h cells slots :=
  fun p e s m args below meth c H locs ls A ad ad0 X Y => lv_ishr X.1 X.2.1 d (k p e s m args below meth c H locs ls A ad ad0 X Y)
theorem aw_ineg {x : Int32} (d : decode cc pc = .ok (.ineg, 1)) (k : AW l D tc own cc nL ret R n0 mc ms Q (pc + 1) (L) (.int (-x) :: rest) n h cells slots) : AW l D tc own cc nL ret R n0 mc ms Q (pc) (L) (.int x :: rest) n h cells slots :=
  fun p e s m args below meth c H locs ls A ad ad0 X Y => lv_ineg X.1 X.2.1 d (k p e s m args below meth c H locs ls A ad ad0 X Y)
theorem aw_i2b {x : Int32} (d : decode cc pc = .ok (.i2b, 1)) (k : AW l D tc own cc nL ret R n0 mc ms Q (pc + 1) (L) (.int x.toInt8.toInt32 :: rest) n h cells slots) : AW l D tc own cc nL ret R n0 mc ms Q (pc) (L) (.int x :: rest) n h cells slots :=
  fun p e s m args below meth c H locs ls A ad ad0 X Y => lv_i2b X.1 X.2.1 d rfl (k p e s m args below meth c H locs ls A ad ad0 X Y)
theorem aw_i2s {x : Int32} (d : decode cc pc = .ok (.i2s, 1)) (k : AW l D tc own cc nL ret R n0 mc ms Q (pc + 1) (L) (.int x.toInt16.toInt32 :: rest) n h cells slots) : AW l D tc own cc nL ret R n0 mc ms Q (pc) (L) (.int x :: rest) n h cells slots :=
  fun p e s m args below meth c H locs ls A ad ad0 X Y => lv_i2s X.1 X.2.1 d rfl (k p e s m args below meth c H locs ls A ad ad0 X Y)
theorem aw_i2l {x : Int32} (d : decode cc pc = .ok (.i2l, 1)) (k : AW l D tc own cc nL ret R n0 mc ms Q (pc + 1) (L) (.long x.toInt64 :: rest) n h cells slots) : AW l D tc own cc nL ret R n0 mc ms Q (pc) (L) (.int x :: rest) n h cells slots :=
  fun p e s m args below meth c H locs ls A ad ad0 X Y => lv_i2l X.1 X.2.1 d rfl (k p e s m args below meth c H locs ls A ad ad0 X Y)
theorem aw_iushr {x y : Int32} (d : decode cc pc = .ok (.iushr, 1)) (k : AW l D tc own cc nL ret R n0 mc ms Q (pc + 1) (L) (.int (x.toUInt32 >>> (y.toUInt32 &&& Int32.toUInt32 31)).toInt32 :: rest) n h cells slots) : AW l D tc own cc nL ret R n0 mc ms Q (pc) (L) (.int y :: .int x :: rest) n h cells slots :=
  fun p e s m args below meth c H locs ls A ad ad0 X Y => lv_iushr X.1 X.2.1 d rfl (k p e s m args below meth c H locs ls A ad ad0 X Y)
theorem aw_lshl {x : Int64} {y : Int32} (d : decode cc pc = .ok (.lshl, 1)) (k : AW l D tc own cc nL ret R n0 mc ms Q (pc + 1) (L) (.long (x <<< (y.toInt64 &&& 63)) :: rest) n h cells slots) : AW l D tc own cc nL ret R n0 mc ms Q (pc) (L) (.int y :: .long x :: rest) n h cells slots :=
  fun p e s m args below meth c H locs ls A ad ad0 X Y => lv_lshl X.1 X.2.1 d rfl (k p e s m args below meth c H locs ls A ad ad0 X Y)
theorem aw_lrem {x y : Int64} (d : decode cc pc = .ok (.lrem, 1)) (hne : ¬ y = 0) (k : AW l D tc own cc nL ret R n0 mc ms Q (pc + 1) (L) (.long (x - x / y * y) :: rest) n h cells slots) : AW l D tc own cc nL ret R n0 mc ms Q (pc) (L) (.long y :: .long x :: rest) n h cells slots :=
  fun p e s m args below meth c H locs ls A ad ad0 X Y => lv_lrem X.1 X.2.1 d hne (k p e s m args below meth c H locs ls A ad ad0 X Y)
theorem aw_ldiv {x y : Int64} (d : decode cc pc = .ok (.ldiv, 1)) (hne : ¬ y = 0) (k : AW l D tc own cc nL ret R n0 mc ms Q (pc + 1) (L) (.long (x / y) :: rest) n h cells slots) : AW l D tc own cc nL ret R n0 mc ms Q (pc) (L) (.long y :: .long x :: rest) n h cells slots :=
  fun p e s m args below meth c H locs ls A ad ad0 X Y => lv_ldiv X.1 X.2.1 d hne (k p e s m args below meth c H locs ls A ad ad0 X Y)
theorem aw_dup {v : Value} (d : decode cc pc = .ok (.dup, 1)) (hv : v.category = 1) (k : AW l D tc own cc nL ret R n0 mc ms Q (pc + 1) (L) (v :: v :: rest) n h cells slots) : AW l D tc own cc nL ret R n0 mc ms Q (pc) (L) (v :: rest) n h cells slots :=
  fun p e s m args below meth c H locs ls A ad ad0 X Y => lv_dup X.1 X.2.1 d (by rw [aw_mv_cat]; exact hv) (k p e s m args below meth c H locs ls A ad ad0 X Y)
theorem aw_dup2 {v w : Value} (d : decode cc pc = .ok (.dup2, 1)) (hv : v.category = 1) (hw : w.category = 1) (k : AW l D tc own cc nL ret R n0 mc ms Q (pc + 1) (L) (v :: w :: v :: w :: rest) n h cells slots) : AW l D tc own cc nL ret R n0 mc ms Q (pc) (L) (v :: w :: rest) n h cells slots :=
  fun p e s m args below meth c H locs ls A ad ad0 X Y => lv_dup2_11 X.1 X.2.1 d (by rw [aw_mv_cat]; exact hv) (by rw [aw_mv_cat]; exact hw) (k p e s m args below meth c H locs ls A ad ad0 X Y)
theorem aw_icmp_eq {x y : Int32} {off : Int} {tgt : Nat} (d : decode cc pc = .ok (.if_icmp .eq off, 3)) (ht : (pc : Int) + off = (tgt : Int)) (kt : x = y → AW l D tc own cc nL ret R n0 mc ms Q (tgt) (L) (rest) n h cells slots) (kf : ¬ (x = y) → AW l D tc own cc nL ret R n0 mc ms Q (pc + 3) (L) (rest) n h cells slots) : AW l D tc own cc nL ret R n0 mc ms Q (pc) (L) (.int y :: .int x :: rest) n h cells slots :=
  fun p e s m args below meth c H locs ls A ad ad0 X Y => lv_icmp_eq X.1 X.2.1 d ht (fun q => kt q p e s m args below meth c H locs ls A ad ad0 X Y) (fun q => kf q p e s m args below meth c H locs ls A ad ad0 X Y)
theorem aw_if_eq {x : Int32} {off : Int} {tgt : Nat} (d : decode cc pc = .ok (.ifCond .eq off, 3)) (ht : (pc : Int) + off = (tgt : Int)) (kt : x = 0 → AW l D tc own cc nL ret R n0 mc ms Q (tgt) (L) (rest) n h cells slots) (kf : ¬ (x = 0) → AW l D tc own cc nL ret R n0 mc ms Q (pc + 3) (L) (rest) n h cells slots) : AW l D tc own cc nL ret R n0 mc ms Q (pc) (L) (.int x :: rest) n h cells slots :=
  fun p e s m args below meth c H locs ls A ad ad0 X Y => lv_if_eq X.1 X.2.1 d ht (fun q => kt q p e s m args below meth c H locs ls A ad ad0 X Y) (fun q => kf q p e s m args below meth c H locs ls A ad ad0 X Y)
theorem aw_icmp_ne {x y : Int32} {off : Int} {tgt : Nat} (d : decode cc pc = .ok (.if_icmp .ne off, 3)) (ht : (pc : Int) + off = (tgt : Int)) (kt : ¬ x = y → AW l D tc own cc nL ret R n0 mc ms Q (tgt) (L) (rest) n h cells slots) (kf : x = y → AW l D tc own cc nL ret R n0 mc ms Q (pc + 3) (L) (rest) n h cells slots) : AW l D tc own cc nL ret R n0 mc ms Q (pc) (L) (.int y :: .int x :: rest) n h cells slots :=
  fun p e s m args below meth c H locs ls A ad ad0 X Y => lv_icmp_ne X.1 X.2.1 d ht (fun q => kt q p e s m args below meth c H locs ls A ad ad0 X Y) (fun q => kf q p e s m args below meth c H locs ls A ad ad0 X Y)
theorem aw_if_ne {x : Int32} {off : Int} {tgt : Nat} (d : decode cc pc = .ok (.ifCond .ne off, 3)) (ht : (pc : Int) + off = (tgt : Int)) (kt : ¬ x = 0 → AW l D tc own cc nL ret R n0 mc ms Q (tgt) (L) (rest) n h cells slots) (kf : x = 0 → AW l D tc own cc nL ret R n0 mc ms Q (pc + 3) (L) (rest) n h cells slots) : AW l D tc own cc nL ret R n0 mc ms Q (pc) (L) (.int x :: rest) n h cells slots :=
  fun p e s m args below meth c H locs ls A ad ad0 X Y => lv_if_ne X.1 X.2.1 d ht (fun q => kt q p e s m args below meth c H locs ls A ad ad0 X Y) (fun q => kf q p e s m args below meth c H locs ls A ad ad0 X Y)
theorem aw_icmp_lt {x y : Int32} {off : Int} {tgt : Nat} (d : decode cc pc = .ok (.if_icmp .lt off, 3)) (ht : (pc : Int) + off = (tgt : Int)) (kt : x < y → AW l D tc own cc nL ret R n0 mc ms Q (tgt) (L) (rest) n h cells slots) (kf : ¬ (x < y) → AW l D tc own cc nL ret R n0 mc ms Q (pc + 3) (L) (rest) n h cells slots) : AW l D tc own cc nL ret R n0 mc ms Q (pc) (L) (.int y :: .int x :: rest) n h cells slots :=
  fun p e s m args below meth c H locs ls A ad ad0 X Y => lv_icmp_lt X.1 X.2.1 d ht (fun q => kt q p e s m args below meth c H locs ls A ad ad0 X Y) (fun q => kf q p e s m args below meth c H locs ls A ad ad0 X Y)
theorem aw_if_lt {x : Int32} {off : Int} {tgt : Nat} (d : decode cc pc = .ok (.ifCond .lt off, 3)) (ht : (pc : Int) + off = (tgt : Int)) (kt : x < 0 → AW l D tc own cc nL ret R n0 mc ms Q (tgt) (L) (rest) n h cells slots) (kf : ¬ (x < 0) → AW l D tc own cc nL ret R n0 mc ms Q (pc + 3) (L) (rest) n h cells slots) : AW l D tc own cc nL ret R n0 mc ms Q (pc) (L) (.int x :: rest) n h cells slots :=
  fun p e s m args below meth c H locs ls A ad ad0 X Y => lv_if_lt X.1 X.2.1 d ht (fun q => kt q p e s m args below meth c H locs ls A ad ad0 X Y) (fun q => kf q p e s m args below meth c H locs ls A ad ad0 X Y)
theorem aw_icmp_ge {x y : Int32} {off : Int} {tgt : Nat} (d : decode cc pc = .ok (.if_icmp .ge off, 3)) (ht : (pc : Int) + off = (tgt : Int)) (kt : y ≤ x → AW l D tc own cc nL ret R n0 mc ms Q (tgt) (L) (rest) n h cells slots) (kf : ¬ (y ≤ x) → AW l D tc own cc nL ret R n0 mc ms Q (pc + 3) (L) (rest) n h cells slots) : AW l D tc own cc nL ret R n0 mc ms Q (pc) (L) (.int y :: .int x :: rest) n h cells slots :=
  fun p e s m args below meth c H locs ls A ad ad0 X Y => lv_icmp_ge X.1 X.2.1 d ht (fun q => kt q p e s m args below meth c H locs ls A ad ad0 X Y) (fun q => kf q p e s m args below meth c H locs ls A ad ad0 X Y)
theorem aw_if_ge {x : Int32} {off : Int} {tgt : Nat} (d : decode cc pc = .ok (.ifCond .ge off, 3)) (ht : (pc : Int) + off = (tgt : Int)) (kt : 0 ≤ x → AW l D tc own cc nL ret R n0 mc ms Q (tgt) (L) (rest) n h cells slots) (kf : ¬ (0 ≤ x) → AW l D tc own cc nL ret R n0 mc ms Q (pc + 3) (L) (rest) n h cells slots) : AW l D tc own cc nL ret R n0 mc ms Q (pc) (L) (.int x :: rest) n h cells slots :=
  fun p e s m args below meth c H locs ls A ad ad0 X Y => lv_if_ge X.1 X.2.1 d ht (fun q => kt q p e s m args below meth c H locs ls A ad ad0 X Y) (fun q => kf q p e s m args below meth c H locs ls A ad ad0 X Y)
theorem aw_icmp_gt {x y : Int32} {off : Int} {tgt : Nat} (d : decode cc pc = .ok (.if_icmp .gt off, 3)) (ht : (pc : Int) + off = (tgt : Int)) (kt : y < x → AW l D tc own cc nL ret R n0 mc ms Q (tgt) (L) (rest) n h cells slots) (kf : ¬ (y < x) → AW l D tc own cc nL ret R n0 mc ms Q (pc + 3) (L) (rest) n h cells slots) : AW l D tc own cc nL ret R n0 mc ms Q (pc) (L) (.int y :: .int x :: rest) n h cells slots :=
  fun p e s m args below meth c H locs ls A ad ad0 X Y => lv_icmp_gt X.1 X.2.1 d ht (fun q => kt q p e s m args below meth c H locs ls A ad ad0 X Y) (fun q => kf q p e s m args below meth c H locs ls A ad ad0 X Y)
theorem aw_if_gt {x : Int32} {off : Int} {tgt : Nat} (d : decode cc pc = .ok (.ifCond .gt off, 3)) (ht : (pc : Int) + off = (tgt : Int)) (kt : 0 < x → AW l D tc own cc nL ret R n0 mc ms Q (tgt) (L) (rest) n h cells slots) (kf : ¬ (0 < x) → AW l D tc own cc nL ret R n0 mc ms Q (pc + 3) (L) (rest) n h cells slots) : AW l D tc own cc nL ret R n0 mc ms Q (pc) (L) (.int x :: rest) n h cells slots :=
  fun p e s m args below meth c H locs ls A ad ad0 X Y => lv_if_gt X.1 X.2.1 d ht (fun q => kt q p e s m args below meth c H locs ls A ad ad0 X Y) (fun q => kf q p e s m args below meth c H locs ls A ad ad0 X Y)
theorem aw_icmp_le {x y : Int32} {off : Int} {tgt : Nat} (d : decode cc pc = .ok (.if_icmp .le off, 3)) (ht : (pc : Int) + off = (tgt : Int)) (kt : x ≤ y → AW l D tc own cc nL ret R n0 mc ms Q (tgt) (L) (rest) n h cells slots) (kf : ¬ (x ≤ y) → AW l D tc own cc nL ret R n0 mc ms Q (pc + 3) (L) (rest) n h cells slots) : AW l D tc own cc nL ret R n0 mc ms Q (pc) (L) (.int y :: .int x :: rest) n h cells slots :=
  fun p e s m args below meth c H locs ls A ad ad0 X Y => lv_icmp_le X.1 X.2.1 d ht (fun q => kt q p e s m args below meth c H locs ls A ad ad0 X Y) (fun q => kf q p e s m args below meth c H locs ls A ad ad0 X Y)
theorem aw_if_le {x : Int32} {off : Int} {tgt : Nat} (d : decode cc pc = .ok (.ifCond .le off, 3)) (ht : (pc : Int) + off = (tgt : Int)) (kt : x ≤ 0 → AW l D tc own cc nL ret R n0 mc ms Q (tgt) (L) (rest) n h cells slots) (kf : ¬ (x ≤ 0) → AW l D tc own cc nL ret R n0 mc ms Q (pc + 3) (L) (rest) n h cells slots) : AW l D tc own cc nL ret R n0 mc ms Q (pc) (L) (.int x :: rest) n h cells slots :=
  fun p e s m args below meth c H locs ls A ad ad0 X Y => lv_if_le X.1 X.2.1 d ht (fun q => kt q p e s m args below meth c H locs ls A ad ad0 X Y) (fun q => kf q p e s m args below meth c H locs ls A ad ad0 X Y)
theorem aw_goto {off : Int} {tgt : Nat} (d : decode cc pc = .ok (.goto off, 3)) (ht : (pc : Int) + off = (tgt : Int)) (k : AW l D tc own cc nL ret R n0 mc ms Q (tgt) (L) (st) n h cells slots) : AW l D tc own cc nL ret R n0 mc ms Q (pc) (L) (st) n h cells slots :=
  fun p e s m args below meth c H locs ls A ad ad0 X Y => lv_goto X.1 X.2.1 d ht (k p e s m args below meth c H locs ls A ad ad0 X Y)
theorem aw_ifnonnull {x : Nat} {off : Int} {tgt : Nat} (d : decode cc pc = .ok (.ifnonnull off, 3)) (ht : (pc : Int) + off = (tgt : Int)) (k : AW l D tc own cc nL ret R n0 mc ms Q (tgt) (L) (rest) n h cells slots) : AW l D tc own cc nL ret R n0 mc ms Q (pc) (L) (.ref x :: rest) n h cells slots :=
  fun p e s m args below meth c H locs ls A ad ad0 X Y => lv_ifnonnull X.1 X.2.1 d ht (k p e s m args below meth c H locs ls A ad ad0 X Y)
theorem aw_ifnonnullN {off : Int} (d : decode cc pc = .ok (.ifnonnull off, 3)) (k : AW l D tc own cc nL ret R n0 mc ms Q (pc + 3) (L) (rest) n h cells slots) : AW l D tc own cc nL ret R n0 mc ms Q (pc) (L) (.null :: rest) n h cells slots :=
  fun p e s m args below meth c H locs ls A ad ad0 X Y => lv_ifnonnullN X.1 X.2.1 d (k p e s m args below meth c H locs ls A ad ad0 X Y)
theorem aw_ifnull {x : Nat} {off : Int} (d : decode cc pc = .ok (.ifnull off, 3)) (k : AW l D tc own cc nL ret R n0 mc ms Q (pc + 3) (L) (rest) n h cells slots) : AW l D tc own cc nL ret R n0 mc ms Q (pc) (L) (.ref x :: rest) n h cells slots :=
  fun p e s m args below meth c H locs ls A ad ad0 X Y => lv_ifnull X.1 X.2.1 d (k p e s m args below meth c H locs ls A ad ad0 X Y)
theorem aw_ifnullN {off : Int} {tgt : Nat} (d : decode cc pc = .ok (.ifnull off, 3)) (ht : (pc : Int) + off = (tgt : Int)) (k : AW l D tc own cc nL ret R n0 mc ms Q (tgt) (L) (rest) n h cells slots) : AW l D tc own cc nL ret R n0 mc ms Q (pc) (L) (.null :: rest) n h cells slots :=
  fun p e s m args below meth c H locs ls A ad ad0 X Y => lv_ifnullN X.1 X.2.1 d ht (k p e s m args below meth c H locs ls A ad ad0 X Y)
theorem aw_tableOut {dflt lo hi : Int} {offs : Array Int} {len : Nat} {x : Int32} {tgt : Nat} (d : decode cc pc = .ok (.tableswitch dflt lo hi offs, len)) (hx : x.toInt < lo ∨ hi < x.toInt) (ht : (pc : Int) + dflt = (tgt : Int)) (k : AW l D tc own cc nL ret R n0 mc ms Q (tgt) (L) (rest) n h cells slots) : AW l D tc own cc nL ret R n0 mc ms Q (pc) (L) (.int x :: rest) n h cells slots :=
  fun p e s m args below meth c H locs ls A ad ad0 X Y => lv_tableOut X.1 X.2.1 d hx ht (k p e s m args below meth c H locs ls A ad ad0 X Y)
theorem aw_tableIn {dflt lo hi : Int} {offs : Array Int} {len : Nat} {x : Int32} {off : Int} {tgt : Nat} (d : decode cc pc = .ok (.tableswitch dflt lo hi offs, len)) (h1 : ¬ x.toInt < lo) (h2 : ¬ hi < x.toInt) (ho : offs[(x.toInt - lo).toNat]? = some off) (ht : (pc : Int) + off = (tgt : Int)) (k : AW l D tc own cc nL ret R n0 mc ms Q (tgt) (L) (rest) n h cells slots) : AW l D tc own cc nL ret R n0 mc ms Q (pc) (L) (.int x :: rest) n h cells slots :=
  fun p e s m args below meth c H locs ls A ad ad0 X Y => lv_tableIn X.1 X.2.1 d h1 h2 ho ht (k p e s m args below meth c H locs ls A ad ad0 X Y)
theorem aw_lookup {dflt : Int} {ps : Array (Int × Int)} {len : Nat} {x : Int32} {off : Int} {tgt : Nat} (d : decode cc pc = .ok (.lookupswitch dflt ps, len)) (hp : (ps.toList.zip (ps.toList.drop 1)).all (fun (a, next) => a.1 < next.1) = true) (ho : Op.lookupswitch.offset ps.toList dflt x.toInt = off) (ht : (pc : Int) + off = (tgt : Int)) (k : AW l D tc own cc nL ret R n0 mc ms Q (tgt) (L) (rest) n h cells slots) : AW l D tc own cc nL ret R n0 mc ms Q (pc) (L) (.int x :: rest) n h cells slots :=
  fun p e s m args below meth c H locs ls A ad ad0 X Y => lv_lookup X.1 X.2.1 d hp ho ht (k p e s m args below meth c H locs ls A ad ad0 X Y)
theorem aw_iret {v : Int32} (d : decode cc pc = .ok (.ireturn, 1)) (hc : cells ≤ mc) (hs : slots ≤ ms) (hq : Q (some (.int v)) n h) : AW l D tc own cc nL (some .int) R n0 mc ms Q pc L [.int v] n h cells slots := by
  intro p e s m args below meth c H locs ls A ad ad0 X Y
  obtain ⟨hx, hb, hr, hml, hown, hts, hlocks, hK, hA⟩ := X
  obtain ⟨hn, had, hP, hD, hS, hL⟩ := Y
  refine W.widen hc hs ?_
  exact W.iret hx hb hr (fun t ht hW => ⟨⟨(some (.int v)), n, h, ad, rfl, hq, hn, had, by rw [ht]; exact hP, hD⟩, hS.F ht⟩) hS.2.2 d hlocks
theorem aw_zret {v : Int32} (d : decode cc pc = .ok (.ireturn, 1)) (hn9 : narrow .boolean (.int v) = .int v) (hc : cells ≤ mc) (hs : slots ≤ ms) (hq : Q (some (.int v)) n h) : AW l D tc own cc nL (some .boolean) R n0 mc ms Q pc L [.int v] n h cells slots := by
  intro p e s m args below meth c H locs ls A ad ad0 X Y
  obtain ⟨hx, hb, hr, hml, hown, hts, hlocks, hK, hA⟩ := X
  obtain ⟨hn, had, hP, hD, hS, hL⟩ := Y
  refine W.widen hc hs ?_
  exact W.zret hx hb hr hn9 (fun t ht hW => ⟨⟨(some (.int v)), n, h, ad, rfl, hq, hn, had, by rw [ht]; exact hP, hD⟩, hS.F ht⟩) hS.2.2 d hlocks
theorem aw_lret {v : Int64} (d : decode cc pc = .ok (.lreturn, 1)) (hc : cells ≤ mc) (hs : slots ≤ ms) (hq : Q (some (.long v)) n h) : AW l D tc own cc nL (some .long) R n0 mc ms Q pc L [.long v] n h cells slots := by
  intro p e s m args below meth c H locs ls A ad ad0 X Y
  obtain ⟨hx, hb, hr, hml, hown, hts, hlocks, hK, hA⟩ := X
  obtain ⟨hn, had, hP, hD, hS, hL⟩ := Y
  refine W.widen hc hs ?_
  exact W.lret hx hb hr (fun t ht hW => ⟨⟨(some (.long v)), n, h, ad, rfl, hq, hn, had, by rw [ht]; exact hP, hD⟩, hS.F ht⟩) hS.2.2 d hlocks
theorem aw_vret  (d : decode cc pc = .ok (.return_, 1)) (hc : cells ≤ mc) (hs : slots ≤ ms) (hq : Q none n h) : AW l D tc own cc nL none R n0 mc ms Q pc L [] n h cells slots := by
  intro p e s m args below meth c H locs ls A ad ad0 X Y
  obtain ⟨hx, hb, hr, hml, hown, hts, hlocks, hK, hA⟩ := X
  obtain ⟨hn, had, hP, hD, hS, hL⟩ := Y
  refine W.widen hc hs ?_
  exact W.vret hx hb hr (fun t ht hW => ⟨⟨none, n, h, ad, rfl, hq, hn, had, by rw [ht]; exact hP, hD⟩, hS.F ht⟩) hS.2.2 d hlocks
theorem aw_aret {rt : FieldType} {v : Value} (d : decode cc pc = .ok (.areturn, 1)) (hrt : (∃ z, rt = .object z) ∨ ∃ t, rt = .array t) (hv : v = .null ∨ ∃ a, v = .ref a) (hc : cells ≤ mc) (hs : slots ≤ ms) (hq : Q (some v) n h) : AW l D tc own cc nL (some rt) R n0 mc ms Q pc L [v] n h cells slots := by
  intro p e s m args below meth c H locs ls A ad ad0 X Y
  obtain ⟨hx, hb, hr, hml, hown, hts, hlocks, hK, hA⟩ := X
  obtain ⟨hn, had, hP, hD, hS, hL⟩ := Y
  refine W.widen hc hs ?_
  exact W.aret (v := aw_mv ad v) hx hb hr hrt (by rcases hv with rfl | ⟨a, rfl⟩; exact Or.inl rfl; exact Or.inr ⟨_, rfl⟩) (fun t ht hW => ⟨⟨some v, n, h, ad, rfl, hq, hn, had, by rw [ht]; exact hP, hD⟩, hS.F ht⟩) hS.2.2 d hlocks
/-- a field of a reference's place: the tables' words of it -/
def aw_fd (own : String) (idx ci k : Nat) (C : String) (T : u_T) (N : Nat) : Prop := (∀ w ∈ u_ws C T N, w ∈ aw_gw) ∧ vwCl[ci]? = some (C, T, N) ∧ k < N ∧ Cond.fieldLink own idx (T k).1 (T k).2.1 (T k).2.2.1 ∈ aw_gw
theorem aw_get {o idx ci k0 : Nat} {C : String} {T : u_T} {N : Nat} {fs : List Value} {v : Value} (hf : aw_fd own idx ci k0 C T N) (d : decode cc pc = .ok (.getfield idx, 3)) (ho : o < n) (he : h o = .inr (ci, fs)) (hv : fs[k0]? = some v) (k : AW l D tc own cc nL ret R n0 mc ms Q (pc + 3) (L) (v :: rest) n h cells slots) : AW l D tc own cc nL ret R n0 mc ms Q (pc) (L) (.ref o :: rest) n h cells slots := by
  intro p e s m args below meth c H locs ls A ad ad0 X Y
  have hw := aw_ws_at (tc := tc) (ad := ad) (h := h) ho
  rw [he] at hw
  exact va_get X.1 X.2.1 X.2.2.2.2.2.1 hf.1 X.2.2.2.2.1 X.2.2.2.2.2.2.2.1.1 Y.2.2.1 o hw hf.2.1 k0 hf.2.2.1 (X.2.2.2.2.2.1 _ hf.2.2.2) (fun _ h9 => h9) (by rw [List.getElem?_map, hv]; rfl) d (k p e s m args below meth c H locs ls A ad ad0 X Y)
def aw_fp (own : String) (idx ci k : Nat) (C : String) (T : u_T) (N : Nat) (ty : FieldType) : Prop := aw_fd own idx ci k C T N ∧ (∃ ty0 : Nat → FieldType, ∀ k, k < N → parseFieldDescriptor (T k).2.2.1 = some (ty0 k)) ∧ (∀ a, a < N → ∀ b, b < N → a ≠ b → (T a).2.1 ≠ (T b).2.1) ∧ (T k).2.2.2 = false ∧ parseFieldDescriptor (T k).2.2.1 = some ty
theorem aw_put {o idx ci k0 : Nat} {C : String} {T : u_T} {N : Nat} {ty : FieldType} {fs : List Value} {x : Int32} {h' : aw_H} (hf : aw_fp own idx ci k0 C T N ty) (d : decode cc pc = .ok (.putfield idx, 3)) (ho : o < n) (he : h o = .inr (ci, fs)) (hn9 : narrow ty (.int x) = .int x) (hfit : fits ty (.int x) = true) (hl : k0 < fs.length) (hh : aw_up h o (.inr (ci, fs.set k0 (.int x))) = h') (k : AW l D tc own cc nL ret R n0 mc ms Q (pc + 3) L rest n h' cells slots) : AW l D tc own cc nL ret R n0 mc ms Q (pc) (L) (.int x :: .ref o :: rest) n h cells slots := by
  subst hh
  intro p e s m args below meth c H locs ls A ad ad0 X Y
  have hw := aw_ws_at (tc := tc) (ad := ad) (h := h) ho
  rw [he] at hw
  obtain ⟨hfd, ⟨ty0, hty⟩, hnm, hfin, hd⟩ := hf
  have hset : (aw_ws tc ad n h).set o (ad o, .inr (ci, (fs.map (aw_mv ad)).set k0 (.int x))) = aw_ws tc ad n (aw_up h o (.inr (ci, fs.set k0 (.int x)))) := by
    rw [← aw_ws_set]
    show _ = (aw_ws tc ad n h).set o (ad o, Sum.inr (ci, (fs.set k0 (.int x)).map (aw_mv ad)))
    rw [List.map_set]
    rfl
  refine va_put X.1 X.2.1 X.2.2.2.2.2.1 hfd.1 ty0 hty hnm X.2.2.2.2.1 X.2.2.2.2.2.2.2.1.1 Y.2.2.1 Y.2.2.2.1 Y.2.2.2.2.1 o hw hfd.2.1 k0 hfd.2.2.1 (X.2.2.2.2.2.1 _ hfd.2.2.2) (fun _ h9 => h9) hfin hd hn9 hfit (by rw [List.length_map]; exact hl) d (fun H1 locs1 hP1 hD1 hS1 => ?_)
  have hP1 := (show va_P D vwCl (aw_ws tc ad n _) H1 by rw [← hset]; exact hP1)
  have hD1 := (show va_D A (aw_ws tc ad n _) by rw [← hset]; exact hD1)
  exact k p e s m args below meth c H1 locs1 ls A ad ad0 X ⟨Y.1, Y.2.1, hP1, hD1, hS1, Y.2.2.2.2.2⟩
theorem aw_iald {o len : Nat} {f : Nat → Int32} {i : Int32} (d : decode cc pc = .ok (.iaload, 1)) (ho : o < n) (he : h o = .inl (0, len, .inl f)) (hin : vp_in i len) (k : AW l D tc own cc nL ret R n0 mc ms Q (pc + 1) (L) (.int (f i.toNatClampNeg) :: rest) n h cells slots) : AW l D tc own cc nL ret R n0 mc ms Q (pc) (L) (.int i :: .ref o :: rest) n h cells slots := by
  intro p e s m args below meth c H locs ls A ad ad0 X Y
  have hw := aw_ws_at (tc := tc) (ad := ad) (h := h) ho
  rw [he] at hw
  exact va_iald X.1 X.2.1 X.2.2.2.2.2.2.2.1.1 Y.2.2.1 o 0 hw rfl hin d (k p e s m args below meth c H locs ls A ad ad0 X Y)
theorem aw_zald {o len : Nat} {f : Nat → Int32} {i : Int32} (d : decode cc pc = .ok (.baload, 1)) (ho : o < n) (he : h o = .inl (1, len, .inl f)) (hin : vp_in i len) (k : AW l D tc own cc nL ret R n0 mc ms Q (pc + 1) (L) (.int (f i.toNatClampNeg) :: rest) n h cells slots) : AW l D tc own cc nL ret R n0 mc ms Q (pc) (L) (.int i :: .ref o :: rest) n h cells slots := by
  intro p e s m args below meth c H locs ls A ad ad0 X Y
  have hw := aw_ws_at (tc := tc) (ad := ad) (h := h) ho
  rw [he] at hw
  exact va_zald X.1 X.2.1 X.2.2.2.2.2.2.2.1.1 Y.2.2.1 o 1 hw rfl hin d (k p e s m args below meth c H locs ls A ad ad0 X Y)
theorem aw_iast {o len : Nat} {f : Nat → Int32} {i x : Int32} {h' : aw_H} (d : decode cc pc = .ok (.iastore, 1)) (ho : o < n) (he : h o = .inl (0, len, .inl f)) (hin : vp_in i len) (hh : aw_up h o (.inl (0, len, .inl (upd f i.toNatClampNeg x))) = h') (k : AW l D tc own cc nL ret R n0 mc ms Q (pc + 1) L rest n h' cells slots) : AW l D tc own cc nL ret R n0 mc ms Q (pc) (L) (.int x :: .int i :: .ref o :: rest) n h cells slots := by
  subst hh
  intro p e s m args below meth c H locs ls A ad ad0 X Y
  have hw := aw_ws_at (tc := tc) (ad := ad) (h := h) ho
  rw [he] at hw
  refine va_iast X.1 X.2.1 X.2.2.2.2.2.2.2.1.1 Y.2.2.1 Y.2.2.2.1 Y.2.2.2.2.1 o 0 hw rfl hin d (fun H1 locs1 hP1 hD1 hS1 => ?_)
  have hset : (aw_ws tc ad n h).set o (ad o, .inl (tc 0, len, .inl (upd f i.toNatClampNeg x))) = aw_ws tc ad n (aw_up h o (.inl (0, len, .inl (upd f i.toNatClampNeg x)))) := (aw_ws_set (e := .inl (0, len, .inl (upd f i.toNatClampNeg x))))
  have hP1 := (show va_P D vwCl (aw_ws tc ad n _) H1 by rw [← hset]; exact hP1)
  have hD1 := (show va_D A (aw_ws tc ad n _) by rw [← hset]; exact hD1)
  exact k p e s m args below meth c H1 locs1 ls A ad ad0 X ⟨Y.1, Y.2.1, hP1, hD1, hS1, Y.2.2.2.2.2⟩
theorem aw_zast {o len : Nat} {f : Nat → Int32} {i x : Int32} {h' : aw_H} (d : decode cc pc = .ok (.bastore, 1)) (ho : o < n) (he : h o = .inl (1, len, .inl f)) (hin : vp_in i len) (hh : aw_up h o (.inl (1, len, .inl (upd f i.toNatClampNeg (vp_nar .boolean x)))) = h') (k : AW l D tc own cc nL ret R n0 mc ms Q (pc + 1) L rest n h' cells slots) : AW l D tc own cc nL ret R n0 mc ms Q (pc) (L) (.int x :: .int i :: .ref o :: rest) n h cells slots := by
  subst hh
  intro p e s m args below meth c H locs ls A ad ad0 X Y
  have hw := aw_ws_at (tc := tc) (ad := ad) (h := h) ho
  rw [he] at hw
  refine va_zast X.1 X.2.1 X.2.2.2.2.2.2.2.1.1 Y.2.2.1 Y.2.2.2.1 Y.2.2.2.2.1 o 1 hw rfl hin d (fun H1 locs1 hP1 hD1 hS1 => ?_)
  have hset : (aw_ws tc ad n h).set o (ad o, .inl (tc 1, len, .inl (upd f i.toNatClampNeg (vp_nar .boolean x)))) = aw_ws tc ad n (aw_up h o (.inl (1, len, .inl (upd f i.toNatClampNeg (vp_nar .boolean x))))) := (aw_ws_set (e := .inl (1, len, .inl (upd f i.toNatClampNeg (vp_nar .boolean x)))))
  have hP1 := (show va_P D vwCl (aw_ws tc ad n _) H1 by rw [← hset]; exact hP1)
  have hD1 := (show va_D A (aw_ws tc ad n _) by rw [← hset]; exact hD1)
  exact k p e s m args below meth c H1 locs1 ls A ad ad0 X ⟨Y.1, Y.2.1, hP1, hD1, hS1, Y.2.2.2.2.2⟩
theorem aw_rf (ad : Nat → Nat) (r : Option Nat) : va_rf (r.map ad) = aw_mv ad (va_rf r) := by cases r <;> rfl
theorem aw_aald2 {o len : Nat} {f : Nat → Option Nat} {i : Int32} (d : decode cc pc = .ok (.aaload, 1)) (ho : o < n) (he : h o = .inl (2, len, .inr (.inr (.inr (.inr f))))) (hin : vp_in i len) (k : AW l D tc own cc nL ret R n0 mc ms Q (pc + 1) (L) (va_rf (f i.toNatClampNeg) :: rest) n h cells slots) : AW l D tc own cc nL ret R n0 mc ms Q (pc) (L) (.int i :: .ref o :: rest) n h cells slots := by
  intro p e s m args below meth c H locs ls A ad ad0 X Y
  have hw := aw_ws_at (tc := tc) (ad := ad) (h := h) ho
  rw [he] at hw
  refine va_aldq X.1 X.2.1 X.2.2.2.2.2.2.2.1.1 Y.2.2.1 o 2 (C := RX6) hw rfl hin d ?_
  show W _ _ _ _ _ _ _ _ _ _ _ _ _ _ _ (F0 m (pc + 1) ls (va_rf ((f i.toNatClampNeg).map ad) :: rest.map (aw_mv ad)))
  rw [aw_rf]
  exact (k p e s m args below meth c H locs ls A ad ad0 X Y)
theorem aw_aald3 {o len : Nat} {f : Nat → Option Nat} {i : Int32} (d : decode cc pc = .ok (.aaload, 1)) (ho : o < n) (he : h o = .inl (3, len, .inr (.inr (.inr (.inr f))))) (hin : vp_in i len) (k : AW l D tc own cc nL ret R n0 mc ms Q (pc + 1) (L) (va_rf (f i.toNatClampNeg) :: rest) n h cells slots) : AW l D tc own cc nL ret R n0 mc ms Q (pc) (L) (.int i :: .ref o :: rest) n h cells slots := by
  intro p e s m args below meth c H locs ls A ad ad0 X Y
  have hw := aw_ws_at (tc := tc) (ad := ad) (h := h) ho
  rw [he] at hw
  refine va_aldq X.1 X.2.1 X.2.2.2.2.2.2.2.1.1 Y.2.2.1 o 3 (C := RX3) hw rfl hin d ?_
  show W _ _ _ _ _ _ _ _ _ _ _ _ _ _ _ (F0 m (pc + 1) ls (va_rf ((f i.toNatClampNeg).map ad) :: rest.map (aw_mv ad)))
  rw [aw_rf]
  exact (k p e s m args below meth c H locs ls A ad ad0 X Y)
theorem aw_aald4 {o len : Nat} {f : Nat → Option Nat} {i : Int32} (d : decode cc pc = .ok (.aaload, 1)) (ho : o < n) (he : h o = .inl (4, len, .inr (.inr (.inr (.inr f))))) (hin : vp_in i len) (k : AW l D tc own cc nL ret R n0 mc ms Q (pc + 1) (L) (va_rf (f i.toNatClampNeg) :: rest) n h cells slots) : AW l D tc own cc nL ret R n0 mc ms Q (pc) (L) (.int i :: .ref o :: rest) n h cells slots := by
  intro p e s m args below meth c H locs ls A ad ad0 X Y
  have hw := aw_ws_at (tc := tc) (ad := ad) (h := h) ho
  rw [he] at hw
  have hlt : i.toNatClampNeg < len := Nat.not_le.mp fun q => hin (Or.inr q)
  refine W.aald (v := va_rf ((f i.toNatClampNeg).map ad)) (ty := .array .int) X.1 X.2.1 (Y.2.2.1 o _ hw) ((X.2.2.2.2.2.2.2.1.1.2 4 _ rfl).1 len (fun j => va_rf ((f j).map ad))) rfl (fun q => by cases q) (by show ¬ (i < 0 ∨ (arrV _ _ _).slots.size ≤ _); rw [arrV_size]; exact hin) (by show (arrV _ _ _).slots[_]? = _; rw [arrV_read _ _ hlt]) rfl rfl d ?_
  rw [aw_rf]
  exact (k p e s m args below meth c H locs ls A ad ad0 X Y)
theorem aw_alen {o len : Nat} {f : Nat → Int32} {v : Int32} (d : decode cc pc = .ok (.arraylength, 1)) (ho : o < n) (he : h o = .inl (0, len, .inl f)) (hv : Int32.ofNat len = v) (k : AW l D tc own cc nL ret R n0 mc ms Q (pc + 1) (L) (.int v :: rest) n h cells slots) : AW l D tc own cc nL ret R n0 mc ms Q (pc) (L) (.ref o :: rest) n h cells slots := by
  intro p e s m args below meth c H locs ls A ad ad0 X Y
  have hw := aw_ws_at (tc := tc) (ad := ad) (h := h) ho
  rw [he] at hw
  exact va_alen X.1 X.2.1 X.2.2.2.2.2.2.2.1.1 Y.2.2.1 o 0 hw rfl hv d (k p e s m args below meth c H locs ls A ad ad0 X Y)
end AWR
section AWC
variable {p : Program} {l : Launch} {e : Env} {R : Room} {s : State} {m : MethodId} {args args' : Array Value} {below : List Frame} {meth : Method} {c : Code} {H : Heap} {locs : List Loc} {cells slots mc' ms' : Nat} {QQ : State → Prop} {D : va_G} {tc : Nat → ClassId} {pc : Nat} {ls : Array Slot} {st0 rest' : List Value} {n : Nat} {ad : Nat → Nat} {A : Nat → Prop} {Q' : Option Value → Nat → aw_H → Prop}
theorem aw_cont (hr : va_Run p l e R s m args below meth c H locs cells slots mc' ms' (F0 m pc ls st0) rest' (aw_Q D tc n ad A Q' args') A) (hS : va_S A s.heap H locs)
    (kk : ∀ (v : Option Value) (n1 : Nat) (h1 : aw_H) (ad1 : Nat → Nat) (H1 : Heap) (locs1 : List Loc), Q' v n1 h1 → n ≤ n1 → (∀ k, ¬ (n ≤ k ∧ k < n1) → ad1 k = ad k) → va_P D vwCl (aw_ws tc ad1 n1 h1) H1 → va_D A (aw_ws tc ad1 n1 h1) → va_S A s.heap H1 locs1 →
      W p l e R s m args below meth c H1 locs1 (cells + mc') (slots + ms') QQ (F0 m (pc + 3) ls ((v.map (aw_mv ad1)).toList ++ rest'))) : W p l e R s m args below meth c H locs cells slots QQ (F0 m pc ls st0) := by
  intro T hT X
  obtain ⟨v, st₀, t, T', L, h0, X', hL, e1, e2, ⟨⟨v', n1, h1, ad1, hv, hq, hn, had, hP, hD⟩, hz, hk⟩, st⟩ := hr T hT X
  cases hv
  rw [h0] at hz hk
  obtain ⟨t2, a1, b1⟩ := kk v' n1 h1 ad1 T'.heap (locs ++ L) hq hn had (by rw [e1]; exact hP) hD
    ⟨Nat.le_trans hS.1 (by rw [e1]; exact hz), fun q g1 g2 => by rw [e1, hk q (Nat.lt_of_lt_of_le g1 hS.1) g2]; exact hS.2.1 q g1 g2, fun q hq => by
      rcases List.mem_append.mp hq with g | g
      · exact hS.2.2 q g
      · exact hL q g⟩ T' rfl X'
  exact ⟨t2, st t2 a1, b1⟩
end AWC
section AWK
variable {l : Launch} {D : va_G} {tc : Nat → ClassId} {own : String} {cc : ByteArray} {nL : Nat} {ret : Option FieldType} {R : Room} {n0 mc ms : Nat} {Q : Option Value → Nat → aw_H → Prop} {pc : Nat} {L : List (Option Value)} {st rest : List Value} {n : Nat} {h : aw_H} {cells slots : Nat}
/-- the words of a method that is called -/
def aw_cw (y : MethodName) (cc' : ByteArray) (nL' : Nat) (ret' : Option FieldType) (nA : Nat) : Prop := Cond.initialized y.cls ∈ aw_gw ∧ Cond.code y cc' nL' ret' ∈ aw_gw ∧ y.cls ≠ "java/lang/invoke/MethodHandle" ∧ y.cls ≠ "java/lang/invoke/VarHandle" ∧ (parseMethodDescriptor y.desc).map (fun d => d.parameters.length) = some nA
theorem aw_cats (ad : Nat → Nat) (r : List Value) : ((r.map (aw_mv ad)).map fun v => v.category) = r.map fun v => v.category := by
  rw [List.map_map]
  exact List.map_congr_left (fun v _ => aw_mv_cat ad v)
theorem aw_stk (ad : Nat → Nat) (v : Option Value) (r : List Value) : (v.map (aw_mv ad)).toList ++ r.map (aw_mv ad) = (v.toList ++ r).map (aw_mv ad) := by cases v <;> simp
theorem aw_callS {y : MethodName} {cc' : ByteArray} {nL' nA fr' lo' idx : Nat} {ret' : Option FieldType} {Q' : Option Value → aw_H → Prop} {av : List Value} (hcw : aw_cw y cc' nL' ret' nA) (hl : Cond.methodLink own idx y ∈ aw_gw) (hs : Cond.static y ∈ aw_gw) (hM : AM l D tc y cc' nL' ret' fr' lo' 0 0 av n h (fun v n1 h1 => n1 = n ∧ Q' v h1)) (hR : fr' + 1 ≤ R.frames ∧ 8 + (nL' + 11) + lo' ≤ R.locals) (hc : cells ≤ R.cells ∧ slots ≤ R.slots) (hn : av.length = nA) (hst : av.reverse ++ rest = st) (hw : (rest.map fun v => v.category).sum ≤ 8) (d : decode cc pc = .ok (.invokestatic idx, 3)) (k : ∀ (v : Option Value) (h1 : aw_H), Q' v h1 → AW l D tc own cc nL ret R n0 mc ms Q (pc + 3) L (v.toList ++ rest) n h1 cells slots) : AW l D tc own cc nL ret R n0 mc ms Q (pc) (L) (st) n h cells slots := by
  subst hst
  intro p e s m args below meth c H locs ls A ad ad0 X Y
  obtain ⟨hx, hb, hr0, hml, hown, hts, hlk, hK, hA⟩ := id X
  obtain ⟨hn0, had, hP, hD, hS, hL⟩ := Y
  obtain ⟨w3, w4, g1, g2, g3⟩ := hcw
  have hM' := hM ad A H.size (fun q hq => hA q (Nat.le_trans hS.1 hq))
  have hB := callB_of (R := R) (own := own) (index := idx) (mc := 0) (ms := 0) (rm := { frames := fr', cells := 0, slots := 0, locals := lo' }) nA hts (aw_good w4) rfl rfl rfl (hts _ w3) (hts _ hl) ⟨g1, g2, g3⟩ hR
  have hr := va_runS (R := R) (e := e) (below := below) (meth := meth) (locs := locs) (cells := cells) (slots := slots) (As := av.map (aw_mv ad)) (rest := rest.map (aw_mv ad)) (g := F0 m pc ls ((av.reverse ++ rest).map (aw_mv ad))) ⟨hx, hb, hml, hown, hts⟩ hM' ⟨hB, hts _ hs⟩ ⟨aw_blind, fun U hU hW => ⟨rfl, by rw [hU], aw_K.warm hW hK, by rw [hU]; exact hP, hD⟩⟩ rfl (by rw [List.length_map]; exact hn) hL.1 (by simp [List.map_reverse]) (lv_room (by rw [aw_cats]; exact hw)) d ⟨hc.1, hc.2⟩
  refine aw_cont hr hS (fun v n1 h1 ad1 H1 locs1 hq hn1 had1 hP1 hD1 hS1 => ?_)
  obtain ⟨e9, hq⟩ := hq
  subst e9
  have e8 : ad1 = ad := funext fun k9 => had1 k9 (fun q => by omega)
  subst e8
  rw [aw_stk]
  exact k v h1 hq p e s m args below meth c H1 locs1 ls A ad1 ad0 X ⟨hn0, had, hP1, hD1, hS1, hL⟩
theorem aw_callSN {y : MethodName} {cc' : ByteArray} {nL' nA fr' lo' idx : Nat} {ret' : Option FieldType} {Q' : Option Value → aw_H → Prop} {av : List Value} {host : String} (hcw : aw_cw y cc' nL' ret' nA) (hl : Cond.methodLinkNest own idx y host ∈ aw_nw) (hs : Cond.static y ∈ aw_gw) (hM : AM l D tc y cc' nL' ret' fr' lo' 0 0 av n h (fun v n1 h1 => n1 = n ∧ Q' v h1)) (hR : fr' + 1 ≤ R.frames ∧ 8 + (nL' + 11) + lo' ≤ R.locals) (hc : cells ≤ R.cells ∧ slots ≤ R.slots) (hn : av.length = nA) (hst : av.reverse ++ rest = st) (hw : (rest.map fun v => v.category).sum ≤ 8) (d : decode cc pc = .ok (.invokestatic idx, 3)) (k : ∀ (v : Option Value) (h1 : aw_H), Q' v h1 → AW l D tc own cc nL ret R n0 mc ms Q (pc + 3) L (v.toList ++ rest) n h1 cells slots) : AW l D tc own cc nL ret R n0 mc ms Q (pc) (L) (st) n h cells slots := by
  subst hst
  intro p e s m args below meth c H locs ls A ad ad0 X Y
  obtain ⟨hx, hb, hr0, hml, hown, hts, hlk, hK, hA⟩ := id X
  obtain ⟨hn0, had, hP, hD, hS, hL⟩ := Y
  obtain ⟨w3, w4, g1, g2, g3⟩ := hcw
  have hM' := hM ad A H.size (fun q hq => hA q (Nat.le_trans hS.1 hq))
  have hB := va_cnB (R := R) (own := own) (index := idx) (host := host) (mc := 0) (ms := 0) (rm := { frames := fr', cells := 0, slots := 0, locals := lo' }) nA hts (aw_good w4) rfl rfl rfl (hK.2.1 _ hl) (hts _ w3) ⟨g1, g2, g3⟩ hR
  have hr := va_runSN (R := R) (e := e) (below := below) (meth := meth) (locs := locs) (cells := cells) (slots := slots) (As := av.map (aw_mv ad)) (rest := rest.map (aw_mv ad)) (g := F0 m pc ls ((av.reverse ++ rest).map (aw_mv ad))) ⟨hx, hb, hml, hown, hts⟩ hM' ⟨hB, hts _ hs, trivial⟩ ⟨aw_blind, fun U hU hW => ⟨rfl, by rw [hU], aw_K.warm hW hK, by rw [hU]; exact hP, hD⟩⟩ rfl (by rw [List.length_map]; exact hn) hL.1 (by simp [List.map_reverse]) (lv_room (by rw [aw_cats]; exact hw)) d ⟨hc.1, hc.2⟩
  refine aw_cont hr hS (fun v n1 h1 ad1 H1 locs1 hq hn1 had1 hP1 hD1 hS1 => ?_)
  obtain ⟨e9, hq⟩ := hq
  subst e9
  have e8 : ad1 = ad := funext fun k9 => had1 k9 (fun q => by omega)
  subst e8
  rw [aw_stk]
  exact k v h1 hq p e s m args below meth c H1 locs1 ls A ad1 ad0 X ⟨hn0, had, hP1, hD1, hS1, hL⟩
theorem aw_callV {y : MethodName} {cc' : ByteArray} {nL' nA fr' lo' idx : Nat} {ret' : Option FieldType} {Q' : Option Value → aw_H → Prop} {av : List Value} {o ci : Nat} {C : String} {T : u_T} {N : Nat} {fs : List Value} (hcw : aw_cw y cc' nL' ret' nA) (hl : Cond.methodLink own idx y ∈ aw_gw) (hi : Cond.instanceMethod y ∈ aw_gw) (hs : Cond.selects C y y ∈ aw_gw) (hcl : vwCl[ci]? = some (C, T, N)) (ho : o < n) (he : h o = .inr (ci, fs)) (hM : AM l D tc y cc' nL' ret' fr' lo' 0 0 (.ref o :: av) n h (fun v n1 h1 => n1 = n ∧ Q' v h1)) (hR : fr' + 1 ≤ R.frames ∧ 8 + (nL' + 11) + lo' ≤ R.locals) (hc : cells ≤ R.cells ∧ slots ≤ R.slots) (hn : av.length = nA) (hst : av.reverse ++ .ref o :: rest = st) (hw : (rest.map fun v => v.category).sum ≤ 8) (d : decode cc pc = .ok (.invokevirtual idx, 3)) (k : ∀ (v : Option Value) (h1 : aw_H), Q' v h1 → AW l D tc own cc nL ret R n0 mc ms Q (pc + 3) L (v.toList ++ rest) n h1 cells slots) : AW l D tc own cc nL ret R n0 mc ms Q (pc) (L) (st) n h cells slots := by
  subst hst
  intro p e s m args below meth c H locs ls A ad ad0 X Y
  obtain ⟨hx, hb, hr0, hml, hown, hts, hlk, hK, hA⟩ := id X
  obtain ⟨hn0, had, hP, hD, hS, hL⟩ := Y
  obtain ⟨w3, w4, g1, g2, g3⟩ := hcw
  have hM' := hM ad A H.size (fun q hq => hA q (Nat.le_trans hS.1 hq))
  have hw9 := aw_ws_at (tc := tc) (ad := ad) (h := h) ho
  rw [he] at hw9
  have hB := callB_of (R := R) (own := own) (index := idx) (mc := 0) (ms := 0) (rm := { frames := fr', cells := 0, slots := 0, locals := lo' }) nA hts (aw_good w4) rfl rfl rfl (hts _ w3) (hts _ hl) ⟨g1, g2, g3⟩ hR
  have hr := va_runV (C := C) (b := ad o) (R := R) (e := e) (below := below) (meth := meth) (locs := locs) (cells := cells) (slots := slots) (As := av.map (aw_mv ad)) (rest := rest.map (aw_mv ad)) (g := F0 m pc ls ((av.reverse ++ .ref o :: rest).map (aw_mv ad))) ⟨hx, hb, hml, hown, hts⟩ hM' ⟨hB, hts _ hi, hts _ hs⟩ ⟨aw_blind, va_recv hK.1 hP hcl hw9, fun U hU hW => ⟨rfl, by rw [hU], aw_K.warm hW hK, by rw [hU]; exact hP, hD⟩⟩ rfl (by rw [List.length_map]; exact hn) hL.1 (by simp [List.map_reverse, aw_mv]) (lv_room (by rw [aw_cats]; exact hw)) d ⟨hc.1, hc.2⟩
  refine aw_cont hr hS (fun v n1 h1 ad1 H1 locs1 hq hn1 had1 hP1 hD1 hS1 => ?_)
  obtain ⟨e9, hq⟩ := hq
  subst e9
  have e8 : ad1 = ad := funext fun k9 => had1 k9 (fun q => by omega)
  subst e8
  rw [aw_stk]
  exact k v h1 hq p e s m args below meth c H1 locs1 ls A ad1 ad0 X ⟨hn0, had, hP1, hD1, hS1, hL⟩
/-- a call whose named method x is another than the one y that runs (owner: who declares x) -/
theorem aw_callO {y : MethodName} {cc' : ByteArray} {nL' nA fr' lo' idx : Nat} {ret' : Option FieldType} {Q' : Option Value → aw_H → Prop} {x : MethodName} {owner : String} {b0 : ByteArray} {m0 : Nat} {r0 : Option FieldType} {av : List Value} {o ci : Nat} {C : String} {T : u_T} {N : Nat} {fs : List Value} (hcw : aw_cw y cc' nL' ret' nA) (hl : Cond.methodLink own idx x ∈ aw_gw) (hsm : Cond.sameMethod x.cls owner x.name x.desc ∈ aw_gw) (hi0 : Cond.instanceMethod ⟨owner, x.name, x.desc⟩ ∈ aw_gw) (h0 : Cond.code ⟨owner, x.name, x.desc⟩ b0 m0 r0 ∈ aw_gw) (hi : Cond.instanceMethod y ∈ aw_gw) (hs : Cond.selects C x y ∈ aw_gw) (ho1 : owner ≠ "java/lang/invoke/MethodHandle" ∧ owner ≠ "java/lang/invoke/VarHandle" ∧ (parseMethodDescriptor x.desc).map (fun d => d.parameters.length) = some nA) (hcl : vwCl[ci]? = some (C, T, N)) (ho : o < n) (he : h o = .inr (ci, fs)) (hM : AM l D tc y cc' nL' ret' fr' lo' 0 0 (.ref o :: av) n h (fun v n1 h1 => n1 = n ∧ Q' v h1)) (hR : fr' + 1 ≤ R.frames ∧ 8 + (nL' + 11) + lo' ≤ R.locals) (hc : cells ≤ R.cells ∧ slots ≤ R.slots) (hn : av.length = nA) (hst : av.reverse ++ .ref o :: rest = st) (hw : (rest.map fun v => v.category).sum ≤ 8) (d : decode cc pc = .ok (.invokevirtual idx, 3)) (k : ∀ (v : Option Value) (h1 : aw_H), Q' v h1 → AW l D tc own cc nL ret R n0 mc ms Q (pc + 3) L (v.toList ++ rest) n h1 cells slots) : AW l D tc own cc nL ret R n0 mc ms Q (pc) (L) (st) n h cells slots := by
  subst hst
  intro p e s m args below meth c H locs ls A ad ad0 X Y
  obtain ⟨hx, hb, hr0, hml, hown, hts, hlk, hK, hA⟩ := id X
  obtain ⟨hn0, had, hP, hD, hS, hL⟩ := Y
  obtain ⟨w3, w4, g1, g2, g3⟩ := hcw
  have hM' := hM ad A H.size (fun q hq => hA q (Nat.le_trans hS.1 hq))
  have hw9 := aw_ws_at (tc := tc) (ad := ad) (h := h) ho
  rw [he] at hw9
  have hG : GoodIn aw_gw (va_wsO own idx C owner x y (Cond.code y cc' nL' ret' :: aw_gw)) := by
    intro w hw1
    have hm : w ∈ aw_gw := by
      unfold va_wsO at hw1
      simp only [List.cons_append, List.nil_append, List.mem_cons] at hw1
      rcases hw1 with rfl | rfl | rfl | rfl | rfl | rfl | rfl | hw1
      all_goals assumption
    exact ⟨hm, good_of_word (List.mem_filter.mp hm).2⟩
  have hB := va_cwO (R := R) (own := own) (index := idx) (C := C) (owner := owner) (x := x) (y := y) (mc := 0) (ms := 0) (rm := { frames := fr', cells := 0, slots := 0, locals := lo' }) nA hts hG rfl rfl rfl h0 ho1 hR
  have hr := va_runU (C := C) (b := ad o) (R := R) (e := e) (below := below) (meth := meth) (locs := locs) (cells := cells) (slots := slots) (As := av.map (aw_mv ad)) (rest := rest.map (aw_mv ad)) (g := F0 m pc ls ((av.reverse ++ .ref o :: rest).map (aw_mv ad))) ⟨hx, hb, hml, hown, hts⟩ hM' hB ⟨aw_blind, va_recv hK.1 hP hcl hw9, fun U hU hW => ⟨rfl, by rw [hU], aw_K.warm hW hK, by rw [hU]; exact hP, hD⟩⟩ rfl (by rw [List.length_map]; exact hn) hL.1 (by simp [List.map_reverse, aw_mv]) (lv_room (by rw [aw_cats]; exact hw)) d ⟨hc.1, hc.2⟩
  refine aw_cont hr hS (fun v n1 h1 ad1 H1 locs1 hq hn1 had1 hP1 hD1 hS1 => ?_)
  obtain ⟨e9, hq⟩ := hq
  subst e9
  have e8 : ad1 = ad := funext fun k9 => had1 k9 (fun q => by omega)
  subst e8
  rw [aw_stk]
  exact k v h1 hq p e s m args below meth c H1 locs1 ls A ad1 ad0 X ⟨hn0, had, hP1, hD1, hS1, hL⟩
end AWK
