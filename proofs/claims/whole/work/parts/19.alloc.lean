/-! rows that make cells -/
/-- no reference to the place n -/
def aw_lo (n : Nat) (v : Value) : Prop := ∀ a, v = .ref a → a < n
theorem aw_mv_lo {n : Nat} {ad ad' : Nat → Nat} {v : Value} (h : aw_lo n v) (he : ∀ k, k < n → ad' k = ad k) : aw_mv ad' v = aw_mv ad v := by
  cases v <;> try rfl
  next a => exact congrArg Value.ref (he a (h a rfl))
def aw_loE (n : Nat) (e : va_E) : Prop := match e with
  | .inl (_, _, .inr (.inr (.inr (.inr f)))) => ∀ j a, f j = some a → a < n
  | .inl _ => True
  | .inr (_, fs) => ∀ v ∈ fs, aw_lo n v
theorem aw_pe_lo {n : Nat} {tc : Nat → ClassId} {ad ad' : Nat → Nat} {e : va_E} (h : aw_loE n e) (he : ∀ k, k < n → ad' k = ad k) : aw_pe tc ad' e = aw_pe tc ad e := by
  match e, h with
  | .inl (_, _, .inl _), _ => rfl
  | .inl (_, _, .inr (.inl _)), _ => rfl
  | .inl (_, _, .inr (.inr (.inl _))), _ => rfl
  | .inl (_, _, .inr (.inr (.inr (.inl _)))), _ => rfl
  | .inl (t, m, .inr (.inr (.inr (.inr f)))), h =>
    show Sum.inl (tc t, m, Sum.inr (Sum.inr (Sum.inr (Sum.inr (fun j => (f j).map ad'))))) = Sum.inl (tc t, m, Sum.inr (Sum.inr (Sum.inr (Sum.inr (fun j => (f j).map ad)))))
    have e9 : (fun j => (f j).map ad') = (fun j => (f j).map ad) := by
      funext j
      cases hf : f j with
      | none => rfl
      | some a => exact congrArg some (he a (h j a hf))
    rw [e9]
  | .inr (c, fs), h =>
    show Sum.inr (c, fs.map (aw_mv ad')) = Sum.inr (c, fs.map (aw_mv ad))
    rw [List.map_congr_left (fun v hv => aw_mv_lo (h v hv) he)]
theorem aw_ws_lo {n : Nat} {tc : Nat → ClassId} {ad ad' : Nat → Nat} {h : aw_H} (hh : ∀ k, k < n → aw_loE n (h k)) (he : ∀ k, k < n → ad' k = ad k) : aw_ws tc ad' n h = aw_ws tc ad n h := by
  unfold aw_ws
  apply List.map_congr_left
  intro k hk
  have hk := List.mem_range.mp hk
  rw [he k hk, aw_pe_lo (hh k hk) he]
section ALC
variable {l : Launch} {D : va_G} {tc : Nat → ClassId} {own : String} {cc : ByteArray} {nL : Nat} {ret : Option FieldType} {R : Room} {n0 mc ms : Nat} {Q : Option Value → Nat → aw_H → Prop} {pc : Nat} {L : List (Option Value)} {st rest : List Value} {n : Nat} {h : aw_H} {cells slots : Nat}
theorem aw_Llo {ad ad' : Nat → Nat} {ls : Array Slot} (hL : aw_L ad ls nL L) (hlo : ∀ (i : Nat) (v : Value), L[i]? = some (some v) → aw_lo n v) (he : ∀ k, k < n → ad' k = ad k) : aw_L ad' ls nL L :=
  ⟨hL.1, hL.2.1, fun i v hi => by rw [aw_mv_lo (hlo i v hi) he]; exact hL.2.2 i v hi⟩
theorem aw_Slo {ad ad' : Nat → Nat} (hlo : ∀ v ∈ st, aw_lo n v) (he : ∀ k, k < n → ad' k = ad k) : st.map (aw_mv ad') = st.map (aw_mv ad) := List.map_congr_left (fun v hv => aw_mv_lo (hlo v hv) he)
theorem aw_new {ci idx N : Nat} {C : String} {T : u_T} {fs : List Value} {ty : Nat → FieldType} (hl : Cond.classLink own idx C ∈ aw_gw) (hit : Cond.instantiable C N ∈ aw_gw) (hini : Cond.initialized C ∈ aw_gw) (hin : ∀ w ∈ u_ws C T N, w ∈ aw_gw) (hty : ∀ k, k < N → parseFieldDescriptor (T k).2.2.1 = some (ty k)) (hcl : vwCl[ci]? = some (C, T, N)) (hfs : ∀ j, j < N → defaultValue (ty j) = vp_V fs j) (hfl : ∀ v ∈ fs, aw_lo 0 v) (hc : cells + 1 ≤ R.cells) (hs : slots + N ≤ R.slots) (hLo : ∀ (i : Nat) (v : Value), L[i]? = some (some v) → aw_lo n v) (hSo : ∀ v ∈ st, aw_lo n v) (hHo : ∀ k, k < n → aw_loE n (h k)) (d : decode cc pc = .ok (.new idx, 3)) (k : AW l D tc own cc nL ret R n0 mc ms Q (pc + 3) L (.ref n :: st) (n + 1) (aw_up h n (.inr (ci, fs))) (cells + 1) (slots + N)) : AW l D tc own cc nL ret R n0 mc ms Q pc L st n h cells slots := by
  intro p e s m args below meth c H locs ls A ad ad0 X Y
  refine va_new (ci := ci) (fs := fs) (D := D) (c0 := c) X.1 X.2.1 X.2.2.2.2.2.1 hin ty hty X.2.2.2.2.1 (X.2.2.2.2.2.1 _ hl) (X.2.2.2.2.2.1 _ hit) (X.2.2.2.2.2.1 _ hini) X.2.2.2.2.2.2.2.1.1 Y.2.2.1 Y.2.2.2.1 Y.2.2.2.2.1 X.2.2.2.2.2.2.2.2 hcl hfs hc hs d (fun q H1 hP1 hD1 hS1 => ?_)
  have he : ∀ k, k < n → (fun j => if j = n then q else ad j) k = ad k := fun k hk => if_neg (by omega)
  have hws : aw_ws tc ad n h ++ [(q, Sum.inr (ci, fs))] = aw_ws tc (fun j => if j = n then q else ad j) (n + 1) (aw_up h n (.inr (ci, fs))) := by
    conv => rhs; unfold aw_ws
    rw [List.range_succ, List.map_append]
    congr 1
    · rw [← aw_ws_lo hHo he]
      unfold aw_ws
      apply List.map_congr_left
      intro k hk
      have hk := List.mem_range.mp hk
      show (_, aw_pe tc _ (h k)) = (_, aw_pe tc _ (aw_up h n (.inr (ci, fs)) k))
      rw [show aw_up h n (.inr (ci, fs)) k = h k from if_neg (by omega)]
    · show [(q, Sum.inr (ci, fs))] = [(if n = n then q else ad n, aw_pe tc _ (aw_up h n (.inr (ci, fs)) n))]
      rw [if_pos rfl, show aw_up h n (.inr (ci, fs)) n = .inr (ci, fs) from if_pos rfl]
      show _ = [(q, Sum.inr (ci, fs.map (aw_mv _)))]
      rw [show fs.map (aw_mv (fun j => if j = n then q else ad j)) = fs from by
        conv => rhs; rw [← List.map_id fs]
        exact List.map_congr_left (fun v hv => by
          have := hfl v hv
          cases v <;> try rfl
          next a => exact absurd (this a rfl) (Nat.not_lt_zero a))]
  rw [hws] at hP1 hD1
  have := k p e s m args below meth c H1 locs ls A (fun j => if j = n then q else ad j) ad0 X ⟨Nat.le_succ_of_le Y.1, fun k hk => by
    have h1 : k ≠ n := fun e9 => hk ⟨by rw [e9]; exact Y.1, by omega⟩
    show (if k = n then q else ad k) = ad0 k
    rw [if_neg h1]
    exact Y.2.1 k (fun q9 => hk ⟨q9.1, by omega⟩), hP1, hD1, hS1, aw_Llo Y.2.2.2.2.2 hLo he⟩
  rw [show (Value.ref n :: st).map (aw_mv (fun j => if j = n then q else ad j)) = .ref q :: st.map (aw_mv ad) from by
    show Value.ref (if n = n then q else ad n) :: st.map _ = _
    rw [if_pos rfl, aw_Slo hSo he]] at this
  exact this
/-- a reference into the row of people -/
theorem aw_aast3 {o v len ci : Nat} {f : Nat → Option Nat} {vs : List Value} {i : Int32} {h' : aw_H} (hci : ci = 1 ∨ ci = 3 ∨ ci = 4) (d : decode cc pc = .ok (.aastore, 1)) (ho : o < n) (hv : v < n) (he : h o = .inl (3, len, .inr (.inr (.inr (.inr f))))) (he2 : h v = .inr (ci, vs)) (hin : vp_in i len) (hh : aw_up h o (.inl (3, len, .inr (.inr (.inr (.inr (va_up f i.toNatClampNeg (some v))))))) = h') (k : AW l D tc own cc nL ret R n0 mc ms Q (pc + 1) L rest n h' cells slots) : AW l D tc own cc nL ret R n0 mc ms Q pc L (.ref v :: .int i :: .ref o :: rest) n h cells slots := by
  subst hh
  intro p e s m args below meth c H locs ls A ad ad0 X Y
  have hw := aw_ws_at (tc := tc) (ad := ad) (h := h) ho
  rw [he] at hw
  have hw2 := aw_ws_at (tc := tc) (ad := ad) (h := h) hv
  rw [he2] at hw2
  have hset : (aw_ws tc ad n h).set o (ad o, .inl (tc 3, len, .inr (.inr (.inr (.inr (va_up (fun j => (f j).map ad) i.toNatClampNeg (some (ad v)))))))) = aw_ws tc ad n (aw_up h o (.inl (3, len, .inr (.inr (.inr (.inr (va_up f i.toNatClampNeg (some v)))))))) := by
    rw [← aw_ws_set]
    show _ = (aw_ws tc ad n h).set o (ad o, Sum.inl (tc 3, len, Sum.inr (Sum.inr (Sum.inr (Sum.inr (fun j => (va_up f i.toNatClampNeg (some v) j).map ad))))))
    have e9 : va_up (fun j => (f j).map ad) i.toNatClampNeg (some (ad v)) = (fun j => (va_up f i.toNatClampNeg (some v) j).map ad) := by
      funext j
      unfold va_up
      by_cases q : j = i.toNatClampNeg <;> simp [q]
    rw [e9]
  have kk : ∀ (H1 : Heap) (locs1 : List Loc), va_P D vwCl ((aw_ws tc ad n h).set o (ad o, .inl (tc 3, len, .inr (.inr (.inr (.inr (va_up (fun j => (f j).map ad) i.toNatClampNeg (some (ad v))))))))) H1 → va_D A ((aw_ws tc ad n h).set o (ad o, .inl (tc 3, len, .inr (.inr (.inr (.inr (va_up (fun j => (f j).map ad) i.toNatClampNeg (some (ad v))))))))) → va_S A s.heap H1 locs1 → W p l e R s m args below meth c H1 locs1 cells slots (MQ below (aw_Q D tc n0 ad0 A Q) args s mc ms A) (F0 m (pc + 1) ls (rest.map (aw_mv ad))) := by
    intro H1 locs1 hP1 hD1 hS1
    rw [hset] at hP1 hD1
    exact k p e s m args below meth c H1 locs1 ls A ad ad0 X ⟨Y.1, Y.2.1, hP1, hD1, hS1, Y.2.2.2.2.2⟩
  have hK := X.2.2.2.2.2.2.2.1
  rcases hci with rfl | rfl | rfl
  · exact va_astqO X.1 X.2.1 hK.1 Y.2.2.1 Y.2.2.2.1 Y.2.2.2.2.1 o 3 v 1 (E := RX3) (r := (RX1, TX1, 3)) hw rfl (hK.2.1 _ (by decide +kernel)) hw2 rfl hin d kk
  · exact va_astq X.1 X.2.1 hK.1 Y.2.2.1 Y.2.2.2.1 Y.2.2.2.2.1 o 3 v 3 (r := (RX3, TX3, 3)) hw rfl hw2 rfl hin d kk
  · exact va_astqO X.1 X.2.1 hK.1 Y.2.2.1 Y.2.2.2.1 Y.2.2.2.2.1 o 3 v 4 (E := RX3) (r := (RX4, TX4, 3)) hw rfl (hK.2.1 _ (by decide +kernel)) hw2 rfl hin d kk

theorem aw_callI {y : MethodName} {cc' : ByteArray} {nL' nA fr' lo' idx : Nat}  {Q' : Option Value → aw_H → Prop} {av : List Value} {o : Nat} (hcw : aw_cw y cc' nL' none nA) (hl : Cond.methodLink own idx y ∈ aw_gw) (hi : Cond.instanceMethod y ∈ aw_gw) (hy : y.name = "<init>") (hM : AM l D tc y cc' nL' none fr' lo' 0 0 (.ref o :: av) n h (fun v n1 h1 => n1 = n ∧ Q' v h1)) (hR : fr' + 1 ≤ R.frames ∧ 8 + (nL' + 11) + lo' ≤ R.locals) (hc : cells ≤ R.cells ∧ slots ≤ R.slots) (hn : av.length = nA) (hst : av.reverse ++ .ref o :: rest = st) (hw : (rest.map fun v => v.category).sum ≤ 8) (d : decode cc pc = .ok (.invokespecial idx, 3)) (k : ∀ (v : Option Value) (h1 : aw_H), Q' v h1 → AW l D tc own cc nL ret R n0 mc ms Q (pc + 3) L (v.toList ++ rest) n h1 cells slots) : AW l D tc own cc nL ret R n0 mc ms Q pc L st n h cells slots := by
  subst hst
  intro p e s m args below meth c H locs ls A ad ad0 X Y
  obtain ⟨hx, hb, hr0, hml, hown, hts, hlk, hK, hA⟩ := id X
  obtain ⟨hn0, had, hP, hD, hS, hL⟩ := Y
  obtain ⟨w3, w4, g1, g2, g3⟩ := hcw
  have hM' := hM ad A H.size (fun q hq => hA q (Nat.le_trans hS.1 hq))
  have hB := callB_of (R := R) (own := own) (index := idx) (mc := 0) (ms := 0) (rm := { frames := fr', cells := 0, slots := 0, locals := lo' }) nA hts (aw_good w4) rfl rfl rfl (hts _ w3) (hts _ hl) ⟨g1, g2, g3⟩ hR
  have hr := va_runI (b := ad o) (R := R) (e := e) (below := below) (meth := meth) (locs := locs) (cells := cells) (slots := slots) (As := av.map (aw_mv ad)) (rest := rest.map (aw_mv ad)) (g := F0 m pc ls ((av.reverse ++ .ref o :: rest).map (aw_mv ad))) ⟨hx, hb, hml, hown, hts⟩ hM' ⟨hB, hy, hts _ hi⟩ ⟨aw_blind, fun U hU hW => ⟨rfl, by rw [hU], aw_K.warm hW hK, by rw [hU]; exact hP, hD⟩⟩ rfl (by rw [List.length_map]; exact hn) hL.1 (by simp [List.map_reverse, aw_mv]) (lv_room (by rw [aw_cats]; exact hw)) d ⟨hc.1, hc.2⟩
  refine aw_cont hr hS (fun v n1 h1 ad1 H1 locs1 hq hn1 had1 hP1 hD1 hS1 => ?_)
  obtain ⟨e9, hq⟩ := hq
  subst e9
  have e8 : ad1 = ad := funext fun k9 => had1 k9 (fun q => by omega)
  subst e8
  rw [aw_stk]
  exact k v h1 hq p e s m args below meth c H1 locs1 ls A ad1 ad0 X ⟨hn0, had, hP1, hD1, hS1, hL⟩
/-- calls of methods that make cells -/
theorem aw_callSA {y : MethodName} {cc' : ByteArray} {nL' nA fr' lo' idx : Nat} {ret' : Option FieldType} {mc' ms' : Nat} {Q' : Option Value → Nat → aw_H → Prop} {av : List Value} (hcw : aw_cw y cc' nL' ret' nA) (hl : Cond.methodLink own idx y ∈ aw_gw) (hs : Cond.static y ∈ aw_gw) (hM : AM l D tc y cc' nL' ret' fr' lo' mc' ms' av n h Q') (hR : fr' + 1 ≤ R.frames ∧ 8 + (nL' + 11) + lo' ≤ R.locals) (hc : cells + mc' ≤ R.cells ∧ slots + ms' ≤ R.slots) (hn : av.length = nA) (hst : av.reverse ++ rest = st) (hw : (rest.map fun v => v.category).sum ≤ 8) (hLo : ∀ (i : Nat) (v : Value), L[i]? = some (some v) → aw_lo n v) (hSo : ∀ v ∈ rest, aw_lo n v) (d : decode cc pc = .ok (.invokestatic idx, 3)) (k : ∀ (v : Option Value) (n1 : Nat) (h1 : aw_H), Q' v n1 h1 → n ≤ n1 → AW l D tc own cc nL ret R n0 mc ms Q (pc + 3) L (v.toList ++ rest) n1 h1 (cells + mc') (slots + ms')) : AW l D tc own cc nL ret R n0 mc ms Q pc L st n h cells slots := by
  subst hst
  intro p e s m args below meth c H locs ls A ad ad0 X Y
  obtain ⟨hx, hb, hr0, hml, hown, hts, hlk, hK, hA⟩ := id X
  obtain ⟨hn0, had, hP, hD, hS, hL⟩ := Y
  obtain ⟨w3, w4, g1, g2, g3⟩ := hcw
  have hM' := hM ad A H.size (fun q hq => hA q (Nat.le_trans hS.1 hq))
  have hB := callB_of (R := R) (own := own) (index := idx) (mc := mc') (ms := ms') (rm := { frames := fr', cells := mc', slots := ms', locals := lo' }) nA hts (aw_good w4) rfl rfl rfl (hts _ w3) (hts _ hl) ⟨g1, g2, g3⟩ hR
  have hr := va_runS (R := R) (e := e) (below := below) (meth := meth) (locs := locs) (cells := cells) (slots := slots) (As := av.map (aw_mv ad)) (rest := rest.map (aw_mv ad)) (g := F0 m pc ls ((av.reverse ++ rest).map (aw_mv ad))) ⟨hx, hb, hml, hown, hts⟩ hM' ⟨hB, hts _ hs⟩ ⟨aw_blind, fun U hU hW => ⟨rfl, by rw [hU], aw_K.warm hW hK, by rw [hU]; exact hP, hD⟩⟩ rfl (by rw [List.length_map]; exact hn) hL.1 (by simp [List.map_reverse]) (lv_room (by rw [aw_cats]; exact hw)) d hc
  refine aw_cont hr hS (fun v n1 h1 ad1 H1 locs1 hq hn1 had1 hP1 hD1 hS1 => ?_)
  have he : ∀ k, k < n → ad1 k = ad k := fun k9 hk9 => had1 k9 (fun q => by omega)
  have := k v n1 h1 hq hn1 p e s m args below meth c H1 locs1 ls A ad1 ad0 X ⟨Nat.le_trans hn0 hn1, fun k9 hk9 => by
    by_cases q : k9 < n
    · rw [he k9 q]; exact had k9 (fun q9 => hk9 ⟨q9.1, by omega⟩)
    · rw [had1 k9 (fun q9 => hk9 ⟨by omega, q9.2⟩)]; exact had k9 (fun q9 => by omega), hP1, hD1, hS1, aw_Llo hL hLo he⟩
  rw [List.map_append, aw_Slo hSo he] at this
  have e7 : (v.map (aw_mv ad1)).toList = v.toList.map (aw_mv ad1) := by cases v <;> rfl
  rw [e7]
  exact this
theorem aw_callVA {y : MethodName} {cc' : ByteArray} {nL' nA fr' lo' idx : Nat} {ret' : Option FieldType} {mc' ms' : Nat} {Q' : Option Value → Nat → aw_H → Prop} {av : List Value} {o ci : Nat} {C : String} {T : u_T} {N : Nat} {fs : List Value} (hcw : aw_cw y cc' nL' ret' nA) (hl : Cond.methodLink own idx y ∈ aw_gw) (hi : Cond.instanceMethod y ∈ aw_gw) (hs : Cond.selects C y y ∈ aw_gw) (hcl : vwCl[ci]? = some (C, T, N)) (ho : o < n) (he : h o = .inr (ci, fs)) (hM : AM l D tc y cc' nL' ret' fr' lo' mc' ms' (.ref o :: av) n h Q') (hR : fr' + 1 ≤ R.frames ∧ 8 + (nL' + 11) + lo' ≤ R.locals) (hc : cells + mc' ≤ R.cells ∧ slots + ms' ≤ R.slots) (hn : av.length = nA) (hst : av.reverse ++ .ref o :: rest = st) (hw : (rest.map fun v => v.category).sum ≤ 8) (hLo : ∀ (i : Nat) (v : Value), L[i]? = some (some v) → aw_lo n v) (hSo : ∀ v ∈ rest, aw_lo n v) (d : decode cc pc = .ok (.invokevirtual idx, 3)) (k : ∀ (v : Option Value) (n1 : Nat) (h1 : aw_H), Q' v n1 h1 → n ≤ n1 → AW l D tc own cc nL ret R n0 mc ms Q (pc + 3) L (v.toList ++ rest) n1 h1 (cells + mc') (slots + ms')) : AW l D tc own cc nL ret R n0 mc ms Q pc L st n h cells slots := by
  subst hst
  intro p e s m args below meth c H locs ls A ad ad0 X Y
  obtain ⟨hx, hb, hr0, hml, hown, hts, hlk, hK, hA⟩ := id X
  obtain ⟨hn0, had, hP, hD, hS, hL⟩ := Y
  obtain ⟨w3, w4, g1, g2, g3⟩ := hcw
  have hM' := hM ad A H.size (fun q hq => hA q (Nat.le_trans hS.1 hq))
  have hw9 := aw_ws_at (tc := tc) (ad := ad) (h := h) ho
  rw [he] at hw9
  have hB := callB_of (R := R) (own := own) (index := idx) (mc := mc') (ms := ms') (rm := { frames := fr', cells := mc', slots := ms', locals := lo' }) nA hts (aw_good w4) rfl rfl rfl (hts _ w3) (hts _ hl) ⟨g1, g2, g3⟩ hR
  have hr := va_runV (C := C) (b := ad o) (R := R) (e := e) (below := below) (meth := meth) (locs := locs) (cells := cells) (slots := slots) (As := av.map (aw_mv ad)) (rest := rest.map (aw_mv ad)) (g := F0 m pc ls ((av.reverse ++ .ref o :: rest).map (aw_mv ad))) ⟨hx, hb, hml, hown, hts⟩ hM' ⟨hB, hts _ hi, hts _ hs⟩ ⟨aw_blind, va_recv hK.1 hP hcl hw9, fun U hU hW => ⟨rfl, by rw [hU], aw_K.warm hW hK, by rw [hU]; exact hP, hD⟩⟩ rfl (by rw [List.length_map]; exact hn) hL.1 (by simp [List.map_reverse, aw_mv]) (lv_room (by rw [aw_cats]; exact hw)) d hc
  refine aw_cont hr hS (fun v n1 h1 ad1 H1 locs1 hq hn1 had1 hP1 hD1 hS1 => ?_)
  have he : ∀ k, k < n → ad1 k = ad k := fun k9 hk9 => had1 k9 (fun q => by omega)
  have := k v n1 h1 hq hn1 p e s m args below meth c H1 locs1 ls A ad1 ad0 X ⟨Nat.le_trans hn0 hn1, fun k9 hk9 => by
    by_cases q : k9 < n
    · rw [he k9 q]; exact had k9 (fun q9 => hk9 ⟨q9.1, by omega⟩)
    · rw [had1 k9 (fun q9 => hk9 ⟨by omega, q9.2⟩)]; exact had k9 (fun q9 => by omega), hP1, hD1, hS1, aw_Llo hL hLo he⟩
  rw [List.map_append, aw_Slo hSo he] at this
  have e7 : (v.map (aw_mv ad1)).toList = v.toList.map (aw_mv ad1) := by cases v <;> rfl
  rw [e7]
  exact this
end ALC

def pi3 (I : Nat → Nat → Int32) (o : Nat) (a b c : Int32) : Nat → Nat → Int32 := st_I (st_I (st_I I o 0 a) o 1 b) o 2 c
set_option maxRecDepth 100000 in
set_option maxHeartbeats 4000000 in
theorem c_X3_init_1 {l : Launch} {D : va_G} {tc : Nat → ClassId} (pk : Nat → Nat) (G : Nat → Option Nat) (I F : Nat → Nat → Int32) (n : Nat) {j : Nat} (hj : j + 30 < n) (hc : pk j = 1) (a b c : Int32) : AM l D tc yX3_init cX3_init 4 none 1 21 0 0 [.ref (j + 30), .int a, .int b, .int c] n (hC pk G I F) (fun v n1 h1 => n1 = n ∧ (v = none ∧ h1 = hC pk G (pi3 I (j + 30) a b c) F)) := by
  intro ad A sz hA
  refine Met.ofW (cc := cX3_init) (maxL := 4) (ret := none) (by decide +kernel) rfl ?_
  intro p e s m args below meth c9 s₁ B hml hv
  obtain ⟨rfl, hsz, hK, hP, hD⟩ := hv
  subst hsz
  have hx := B.exec
  have hb := B.bytes
  have hr := B.returns
  have hlocks := B.notSynchronized
  have hts : ∀ w ∈ aw_gw, w.before _ s = true := fun w hw => atoms_spec (ws := .code yX3_init cX3_init 4 none :: aw_gw) B.pre w (List.mem_cons_of_mem _ hw)
  have hown : s.vm.findClass RX3 = some m.cls := findClass_of_methodNamed B.named
  have hin : meth.name = "<init>" := (name_of_methodNamed B.named B.method).1
  have hS : va_S A s.heap s.heap [] := va_S.rf
  have hl := lv_entry ([.ref (ad (j + 30)), .int a, .int b, .int c]) (n := 4) (Nat.le_of_ble_eq_true rfl)
  show W _ _ _ _ _ _ _ _ _ _ _ _ _ _ _ (entryFrame m ([Value.ref (ad (j + 30)), .int a, .int b, .int c] : List Value).toArray 4)
  rw [lg_entry_eq]
  generalize (lg_sl ([.ref (ad (j + 30)), .int a, .int b, .int c]) ++ List.replicate (4 - (lg_sl ([.ref (ad (j + 30)), .int a, .int b, .int c])).length) Slot.unset).toArray = ls at hl ⊢
  have hl : lv_has ls 4 [(0, .ref (ad (j + 30))), (1, .int a), (2, .int b), (3, .int c)] := hl
  have hat : ∀ I9 : Nat → Nat → Int32, (aw_ws tc ad n (hC pk G I9 F))[j + 30]? = some (ad (j + 30), .inr (1, [.int (I9 (j + 30) 0), .int (I9 (j + 30) 1), .int (I9 (j + 30) 2)])) := fun I9 => by
    rw [aw_ws_at hj, he_perc hc]
    rfl
  have hst : ∀ (I9 : Nat → Nat → Int32) (k : Nat) (x : Int32), k < 3 → (aw_ws tc ad n (hC pk G I9 F)).set (j + 30) (ad (j + 30), .inr (1, [Value.int (I9 (j + 30) 0), .int (I9 (j + 30) 1), .int (I9 (j + 30) 2)].set k (.int x))) = aw_ws tc ad n (hC pk G (st_I I9 (j + 30) k x) F) := fun I9 k x hk => by
    have e1 : entC pk G (j + 30) (upd (I9 (j + 30)) k x) (F (j + 30)) = .inr (1, [Value.int (I9 (j + 30) 0), .int (I9 (j + 30) 1), .int (I9 (j + 30) 2)].set k (.int x)) := by
      rw [entC_per, hc]
      match k, hk with
      | 0, _ => rfl
      | 1, _ => rfl
      | 2, _ => rfl
    rw [show hC pk G (st_I I9 (j + 30) k x) F = _ from (st_hI e1).symm, ← aw_ws_set]
    have e2 : aw_pe tc ad (.inr (1, [Value.int (I9 (j + 30) 0), .int (I9 (j + 30) 1), .int (I9 (j + 30) 2)].set k (.int x))) = .inr (1, [Value.int (I9 (j + 30) 0), .int (I9 (j + 30) 1), .int (I9 (j + 30) 2)].set k (.int x)) := by
      match k, hk with
      | 0, _ => rfl
      | 1, _ => rfl
      | 2, _ => rfl
    rw [e2]
  refine lv_aload_n hx hb dX3_init_0 rfl (lv_at hl 0 rfl) ?_
  refine W.objInit hx hb hown (hts _ ml_X3_3) (hts _ im_objectInit) (hts _ cd_objectInit) rfl (by rw [hml]; exact hl.1) rfl dX3_init_1 (Nat.le_of_ble_eq_true rfl) (Nat.le_of_ble_eq_true rfl) ?_
  refine W.eq (g2 := F0 m 4 ls []) rfl ?_
  refine lv_aload_n hx hb dX3_init_4 rfl (lv_at hl 0 rfl) ?_
  refine lv_iload_n hx hb dX3_init_5 rfl (lv_at hl 1 rfl) ?_
  refine va_putF (D := D) (ci := 1) (v := .int a) (ty := .int) (C := RX1) (T := TX1) (N := 3) hx hb hts ig_X1 tyX1 tyX1_ok nmX1 hown hK.1 hP hD hS (j + 30) (hat I) rfl 0 (by decide) (hts _ fl_X3_9) (fun _ h9 => h9) rfl hin rfl (by decide +kernel) rfl rfl (Nat.le_of_ble_eq_true rfl) dX3_init_6 (fun H locs hP hD hS => ?_)
  rw [hst I 0 a (by decide)] at hP hD
  refine lv_aload_n hx hb dX3_init_9 rfl (lv_at hl 0 rfl) ?_
  refine lv_iload_n hx hb dX3_init_10 rfl (lv_at hl 2 rfl) ?_
  refine va_put (D := D) (ci := 1) (v := .int b) (ty := .int) (C := RX1) (T := TX1) (N := 3) hx hb hts ig_X1 tyX1 tyX1_ok nmX1 hown hK.1 hP hD hS (j + 30) (hat _) rfl 1 (by decide) (hts _ fl_X3_15) (fun _ h9 => h9) rfl (by decide +kernel) rfl rfl (Nat.le_of_ble_eq_true rfl) dX3_init_11 (fun H locs hP hD hS => ?_)
  rw [hst _ 1 b (by decide)] at hP hD
  refine lv_aload_n hx hb dX3_init_14 rfl (lv_at hl 0 rfl) ?_
  refine lv_iload_n hx hb dX3_init_15 rfl (lv_at hl 3 rfl) ?_
  refine va_put (D := D) (ci := 1) (v := .int c) (ty := .int) (C := RX1) (T := TX1) (N := 3) hx hb hts ig_X1 tyX1 tyX1_ok nmX1 hown hK.1 hP hD hS (j + 30) (hat _) rfl 2 (by decide) (hts _ fl_X3_18) (fun _ h9 => h9) rfl (by decide +kernel) rfl rfl (Nat.le_of_ble_eq_true rfl) dX3_init_16 (fun H locs hP hD hS => ?_)
  rw [hst _ 2 c (by decide)] at hP hD
  exact W.vret hx hb hr (fun t ht hW => ⟨⟨none, n, _, ad, rfl, ⟨rfl, rfl, rfl⟩, Nat.le_refl _, fun _ _ => rfl, by rw [ht]; exact hP, hD⟩, hS.F ht⟩) hS.2.2 dX3_init_19 hlocks
set_option maxRecDepth 100000 in
set_option maxHeartbeats 4000000 in
theorem c_X3_init_3 {l : Launch} {D : va_G} {tc : Nat → ClassId} (pk : Nat → Nat) (G : Nat → Option Nat) (I F : Nat → Nat → Int32) (n : Nat) {j : Nat} (hj : j + 30 < n) (hc : pk j = 3) (a b c : Int32) : AM l D tc yX3_init cX3_init 4 none 1 21 0 0 [.ref (j + 30), .int a, .int b, .int c] n (hC pk G I F) (fun v n1 h1 => n1 = n ∧ (v = none ∧ h1 = hC pk G (pi3 I (j + 30) a b c) F)) := by
  intro ad A sz hA
  refine Met.ofW (cc := cX3_init) (maxL := 4) (ret := none) (by decide +kernel) rfl ?_
  intro p e s m args below meth c9 s₁ B hml hv
  obtain ⟨rfl, hsz, hK, hP, hD⟩ := hv
  subst hsz
  have hx := B.exec
  have hb := B.bytes
  have hr := B.returns
  have hlocks := B.notSynchronized
  have hts : ∀ w ∈ aw_gw, w.before _ s = true := fun w hw => atoms_spec (ws := .code yX3_init cX3_init 4 none :: aw_gw) B.pre w (List.mem_cons_of_mem _ hw)
  have hown : s.vm.findClass RX3 = some m.cls := findClass_of_methodNamed B.named
  have hin : meth.name = "<init>" := (name_of_methodNamed B.named B.method).1
  have hS : va_S A s.heap s.heap [] := va_S.rf
  have hl := lv_entry ([.ref (ad (j + 30)), .int a, .int b, .int c]) (n := 4) (Nat.le_of_ble_eq_true rfl)
  show W _ _ _ _ _ _ _ _ _ _ _ _ _ _ _ (entryFrame m ([Value.ref (ad (j + 30)), .int a, .int b, .int c] : List Value).toArray 4)
  rw [lg_entry_eq]
  generalize (lg_sl ([.ref (ad (j + 30)), .int a, .int b, .int c]) ++ List.replicate (4 - (lg_sl ([.ref (ad (j + 30)), .int a, .int b, .int c])).length) Slot.unset).toArray = ls at hl ⊢
  have hl : lv_has ls 4 [(0, .ref (ad (j + 30))), (1, .int a), (2, .int b), (3, .int c)] := hl
  have hat : ∀ I9 : Nat → Nat → Int32, (aw_ws tc ad n (hC pk G I9 F))[j + 30]? = some (ad (j + 30), .inr (3, [.int (I9 (j + 30) 0), .int (I9 (j + 30) 1), .int (I9 (j + 30) 2)])) := fun I9 => by
    rw [aw_ws_at hj, he_perc hc]
    rfl
  have hst : ∀ (I9 : Nat → Nat → Int32) (k : Nat) (x : Int32), k < 3 → (aw_ws tc ad n (hC pk G I9 F)).set (j + 30) (ad (j + 30), .inr (3, [Value.int (I9 (j + 30) 0), .int (I9 (j + 30) 1), .int (I9 (j + 30) 2)].set k (.int x))) = aw_ws tc ad n (hC pk G (st_I I9 (j + 30) k x) F) := fun I9 k x hk => by
    have e1 : entC pk G (j + 30) (upd (I9 (j + 30)) k x) (F (j + 30)) = .inr (3, [Value.int (I9 (j + 30) 0), .int (I9 (j + 30) 1), .int (I9 (j + 30) 2)].set k (.int x)) := by
      rw [entC_per, hc]
      match k, hk with
      | 0, _ => rfl
      | 1, _ => rfl
      | 2, _ => rfl
    rw [show hC pk G (st_I I9 (j + 30) k x) F = _ from (st_hI e1).symm, ← aw_ws_set]
    have e2 : aw_pe tc ad (.inr (3, [Value.int (I9 (j + 30) 0), .int (I9 (j + 30) 1), .int (I9 (j + 30) 2)].set k (.int x))) = .inr (3, [Value.int (I9 (j + 30) 0), .int (I9 (j + 30) 1), .int (I9 (j + 30) 2)].set k (.int x)) := by
      match k, hk with
      | 0, _ => rfl
      | 1, _ => rfl
      | 2, _ => rfl
    rw [e2]
  refine lv_aload_n hx hb dX3_init_0 rfl (lv_at hl 0 rfl) ?_
  refine W.objInit hx hb hown (hts _ ml_X3_3) (hts _ im_objectInit) (hts _ cd_objectInit) rfl (by rw [hml]; exact hl.1) rfl dX3_init_1 (Nat.le_of_ble_eq_true rfl) (Nat.le_of_ble_eq_true rfl) ?_
  refine W.eq (g2 := F0 m 4 ls []) rfl ?_
  refine lv_aload_n hx hb dX3_init_4 rfl (lv_at hl 0 rfl) ?_
  refine lv_iload_n hx hb dX3_init_5 rfl (lv_at hl 1 rfl) ?_
  refine va_putF (D := D) (ci := 3) (v := .int a) (ty := .int) (C := RX3) (T := TX3) (N := 3) hx hb hts ig_X3 tyX3 tyX3_ok nmX3 hown hK.1 hP hD hS (j + 30) (hat I) rfl 0 (by decide) (hts _ fl_X3_9) (fun _ h9 => h9) rfl hin rfl (by decide +kernel) rfl rfl (Nat.le_of_ble_eq_true rfl) dX3_init_6 (fun H locs hP hD hS => ?_)
  rw [hst I 0 a (by decide)] at hP hD
  refine lv_aload_n hx hb dX3_init_9 rfl (lv_at hl 0 rfl) ?_
  refine lv_iload_n hx hb dX3_init_10 rfl (lv_at hl 2 rfl) ?_
  refine va_put (D := D) (ci := 3) (v := .int b) (ty := .int) (C := RX3) (T := TX3) (N := 3) hx hb hts ig_X3 tyX3 tyX3_ok nmX3 hown hK.1 hP hD hS (j + 30) (hat _) rfl 1 (by decide) (hts _ fl_X3_15) (fun _ h9 => h9) rfl (by decide +kernel) rfl rfl (Nat.le_of_ble_eq_true rfl) dX3_init_11 (fun H locs hP hD hS => ?_)
  rw [hst _ 1 b (by decide)] at hP hD
  refine lv_aload_n hx hb dX3_init_14 rfl (lv_at hl 0 rfl) ?_
  refine lv_iload_n hx hb dX3_init_15 rfl (lv_at hl 3 rfl) ?_
  refine va_put (D := D) (ci := 3) (v := .int c) (ty := .int) (C := RX3) (T := TX3) (N := 3) hx hb hts ig_X3 tyX3 tyX3_ok nmX3 hown hK.1 hP hD hS (j + 30) (hat _) rfl 2 (by decide) (hts _ fl_X3_18) (fun _ h9 => h9) rfl (by decide +kernel) rfl rfl (Nat.le_of_ble_eq_true rfl) dX3_init_16 (fun H locs hP hD hS => ?_)
  rw [hst _ 2 c (by decide)] at hP hD
  exact W.vret hx hb hr (fun t ht hW => ⟨⟨none, n, _, ad, rfl, ⟨rfl, rfl, rfl⟩, Nat.le_refl _, fun _ _ => rfl, by rw [ht]; exact hP, hD⟩, hS.F ht⟩) hS.2.2 dX3_init_19 hlocks
set_option maxRecDepth 100000 in
set_option maxHeartbeats 4000000 in
theorem c_X3_init_4 {l : Launch} {D : va_G} {tc : Nat → ClassId} (pk : Nat → Nat) (G : Nat → Option Nat) (I F : Nat → Nat → Int32) (n : Nat) {j : Nat} (hj : j + 30 < n) (hc : pk j = 4) (a b c : Int32) : AM l D tc yX3_init cX3_init 4 none 1 21 0 0 [.ref (j + 30), .int a, .int b, .int c] n (hC pk G I F) (fun v n1 h1 => n1 = n ∧ (v = none ∧ h1 = hC pk G (pi3 I (j + 30) a b c) F)) := by
  intro ad A sz hA
  refine Met.ofW (cc := cX3_init) (maxL := 4) (ret := none) (by decide +kernel) rfl ?_
  intro p e s m args below meth c9 s₁ B hml hv
  obtain ⟨rfl, hsz, hK, hP, hD⟩ := hv
  subst hsz
  have hx := B.exec
  have hb := B.bytes
  have hr := B.returns
  have hlocks := B.notSynchronized
  have hts : ∀ w ∈ aw_gw, w.before _ s = true := fun w hw => atoms_spec (ws := .code yX3_init cX3_init 4 none :: aw_gw) B.pre w (List.mem_cons_of_mem _ hw)
  have hown : s.vm.findClass RX3 = some m.cls := findClass_of_methodNamed B.named
  have hin : meth.name = "<init>" := (name_of_methodNamed B.named B.method).1
  have hS : va_S A s.heap s.heap [] := va_S.rf
  have hl := lv_entry ([.ref (ad (j + 30)), .int a, .int b, .int c]) (n := 4) (Nat.le_of_ble_eq_true rfl)
  show W _ _ _ _ _ _ _ _ _ _ _ _ _ _ _ (entryFrame m ([Value.ref (ad (j + 30)), .int a, .int b, .int c] : List Value).toArray 4)
  rw [lg_entry_eq]
  generalize (lg_sl ([.ref (ad (j + 30)), .int a, .int b, .int c]) ++ List.replicate (4 - (lg_sl ([.ref (ad (j + 30)), .int a, .int b, .int c])).length) Slot.unset).toArray = ls at hl ⊢
  have hl : lv_has ls 4 [(0, .ref (ad (j + 30))), (1, .int a), (2, .int b), (3, .int c)] := hl
  have hat : ∀ I9 : Nat → Nat → Int32, (aw_ws tc ad n (hC pk G I9 F))[j + 30]? = some (ad (j + 30), .inr (4, [.int (I9 (j + 30) 0), .int (I9 (j + 30) 1), .int (I9 (j + 30) 2)])) := fun I9 => by
    rw [aw_ws_at hj, he_perc hc]
    rfl
  have hst : ∀ (I9 : Nat → Nat → Int32) (k : Nat) (x : Int32), k < 3 → (aw_ws tc ad n (hC pk G I9 F)).set (j + 30) (ad (j + 30), .inr (4, [Value.int (I9 (j + 30) 0), .int (I9 (j + 30) 1), .int (I9 (j + 30) 2)].set k (.int x))) = aw_ws tc ad n (hC pk G (st_I I9 (j + 30) k x) F) := fun I9 k x hk => by
    have e1 : entC pk G (j + 30) (upd (I9 (j + 30)) k x) (F (j + 30)) = .inr (4, [Value.int (I9 (j + 30) 0), .int (I9 (j + 30) 1), .int (I9 (j + 30) 2)].set k (.int x)) := by
      rw [entC_per, hc]
      match k, hk with
      | 0, _ => rfl
      | 1, _ => rfl
      | 2, _ => rfl
    rw [show hC pk G (st_I I9 (j + 30) k x) F = _ from (st_hI e1).symm, ← aw_ws_set]
    have e2 : aw_pe tc ad (.inr (4, [Value.int (I9 (j + 30) 0), .int (I9 (j + 30) 1), .int (I9 (j + 30) 2)].set k (.int x))) = .inr (4, [Value.int (I9 (j + 30) 0), .int (I9 (j + 30) 1), .int (I9 (j + 30) 2)].set k (.int x)) := by
      match k, hk with
      | 0, _ => rfl
      | 1, _ => rfl
      | 2, _ => rfl
    rw [e2]
  refine lv_aload_n hx hb dX3_init_0 rfl (lv_at hl 0 rfl) ?_
  refine W.objInit hx hb hown (hts _ ml_X3_3) (hts _ im_objectInit) (hts _ cd_objectInit) rfl (by rw [hml]; exact hl.1) rfl dX3_init_1 (Nat.le_of_ble_eq_true rfl) (Nat.le_of_ble_eq_true rfl) ?_
  refine W.eq (g2 := F0 m 4 ls []) rfl ?_
  refine lv_aload_n hx hb dX3_init_4 rfl (lv_at hl 0 rfl) ?_
  refine lv_iload_n hx hb dX3_init_5 rfl (lv_at hl 1 rfl) ?_
  refine va_putF (D := D) (ci := 4) (v := .int a) (ty := .int) (C := RX4) (T := TX4) (N := 3) hx hb hts ig_X4 tyX4 tyX4_ok nmX4 hown hK.1 hP hD hS (j + 30) (hat I) rfl 0 (by decide) (hts _ fl_X3_9) (fun _ h9 => h9) rfl hin rfl (by decide +kernel) rfl rfl (Nat.le_of_ble_eq_true rfl) dX3_init_6 (fun H locs hP hD hS => ?_)
  rw [hst I 0 a (by decide)] at hP hD
  refine lv_aload_n hx hb dX3_init_9 rfl (lv_at hl 0 rfl) ?_
  refine lv_iload_n hx hb dX3_init_10 rfl (lv_at hl 2 rfl) ?_
  refine va_put (D := D) (ci := 4) (v := .int b) (ty := .int) (C := RX4) (T := TX4) (N := 3) hx hb hts ig_X4 tyX4 tyX4_ok nmX4 hown hK.1 hP hD hS (j + 30) (hat _) rfl 1 (by decide) (hts _ fl_X3_15) (fun _ h9 => h9) rfl (by decide +kernel) rfl rfl (Nat.le_of_ble_eq_true rfl) dX3_init_11 (fun H locs hP hD hS => ?_)
  rw [hst _ 1 b (by decide)] at hP hD
  refine lv_aload_n hx hb dX3_init_14 rfl (lv_at hl 0 rfl) ?_
  refine lv_iload_n hx hb dX3_init_15 rfl (lv_at hl 3 rfl) ?_
  refine va_put (D := D) (ci := 4) (v := .int c) (ty := .int) (C := RX4) (T := TX4) (N := 3) hx hb hts ig_X4 tyX4 tyX4_ok nmX4 hown hK.1 hP hD hS (j + 30) (hat _) rfl 2 (by decide) (hts _ fl_X3_18) (fun _ h9 => h9) rfl (by decide +kernel) rfl rfl (Nat.le_of_ble_eq_true rfl) dX3_init_16 (fun H locs hP hD hS => ?_)
  rw [hst _ 2 c (by decide)] at hP hD
  exact W.vret hx hb hr (fun t ht hW => ⟨⟨none, n, _, ad, rfl, ⟨rfl, rfl, rfl⟩, Nat.le_refl _, fun _ _ => rfl, by rw [ht]; exact hP, hD⟩, hS.F ht⟩) hS.2.2 dX3_init_19 hlocks
set_option maxRecDepth 100000 in
set_option maxHeartbeats 4000000 in
theorem c_X4_init_4 {l : Launch} {D : va_G} {tc : Nat → ClassId} (pk : Nat → Nat) (G : Nat → Option Nat) (I F : Nat → Nat → Int32) (n : Nat) {j : Nat} (hj : j + 30 < n) (hc : pk j = 4) (a b c : Int32) : AM l D tc yX4_init cX4_init 4 none 2 44 0 0 [.ref (j + 30), .int a, .int b, .int c] n (hC pk G I F) (fun v n1 h1 => n1 = n ∧ (v = none ∧ h1 = hC pk G (pi3 I (j + 30) a b c) F)) := by
  refine am_of (L := [some (.ref (j + 30)), some (.int a), some (.int b), some (.int c)]) (by decide +kernel) (Nat.le_of_ble_eq_true rfl) rfl ?_
  refine aw_aload_n dX4_init_0 rfl rfl ?_
  refine aw_iload_n dX4_init_1 rfl rfl ?_
  refine aw_iload_n dX4_init_2 rfl rfl ?_
  refine aw_iload_n dX4_init_3 rfl rfl ?_
  refine aw_callI cw_X3_init ml_X4_3 im_X3_init rfl (c_X3_init_4 pk G I F n hj hc a b c) ⟨Nat.le_of_ble_eq_true rfl, Nat.le_of_ble_eq_true rfl⟩ ⟨Nat.zero_le _, Nat.zero_le _⟩ rfl rfl (Nat.le_of_ble_eq_true rfl) dX4_init_4 ?_
  rintro _ _ ⟨rfl, rfl⟩
  refine aw_vret dX4_init_7 (Nat.zero_le _) (Nat.zero_le _) ?_
  exact ⟨rfl, rfl, rfl⟩
set_option maxRecDepth 100000 in
set_option maxHeartbeats 4000000 in
theorem c_X4_init_1 {l : Launch} {D : va_G} {tc : Nat → ClassId} (pk : Nat → Nat) (G : Nat → Option Nat) (I F : Nat → Nat → Int32) (n : Nat) {j : Nat} (hj : j + 30 < n) (hc : pk j = 1) (a b c : Int32) : AM l D tc yX4_init cX4_init 4 none 2 44 0 0 [.ref (j + 30), .int a, .int b, .int c] n (hC pk G I F) (fun v n1 h1 => n1 = n ∧ (v = none ∧ h1 = hC pk G (pi3 I (j + 30) a b c) F)) := by
  refine am_of (L := [some (.ref (j + 30)), some (.int a), some (.int b), some (.int c)]) (by decide +kernel) (Nat.le_of_ble_eq_true rfl) rfl ?_
  refine aw_aload_n dX4_init_0 rfl rfl ?_
  refine aw_iload_n dX4_init_1 rfl rfl ?_
  refine aw_iload_n dX4_init_2 rfl rfl ?_
  refine aw_iload_n dX4_init_3 rfl rfl ?_
  refine aw_callI cw_X3_init ml_X4_3 im_X3_init rfl (c_X3_init_1 pk G I F n hj hc a b c) ⟨Nat.le_of_ble_eq_true rfl, Nat.le_of_ble_eq_true rfl⟩ ⟨Nat.zero_le _, Nat.zero_le _⟩ rfl rfl (Nat.le_of_ble_eq_true rfl) dX4_init_4 ?_
  rintro _ _ ⟨rfl, rfl⟩
  refine aw_vret dX4_init_7 (Nat.zero_le _) (Nat.zero_le _) ?_
  exact ⟨rfl, rfl, rfl⟩
set_option maxRecDepth 100000 in
set_option maxHeartbeats 4000000 in
theorem c_X1_init_1 {l : Launch} {D : va_G} {tc : Nat → ClassId} (pk : Nat → Nat) (G : Nat → Option Nat) (I F : Nat → Nat → Int32) (n : Nat) {j : Nat} (hj : j + 30 < n) (hc : pk j = 1) (a b c : Int32) : AM l D tc yX1_init cX1_init 4 none 3 67 0 0 [.ref (j + 30), .int a, .int b, .int c] n (hC pk G I F) (fun v n1 h1 => n1 = n ∧ (v = none ∧ h1 = hC pk G (pi3 I (j + 30) a b c) F)) := by
  refine am_of (L := [some (.ref (j + 30)), some (.int a), some (.int b), some (.int c)]) (by decide +kernel) (Nat.le_of_ble_eq_true rfl) rfl ?_
  refine aw_aload_n dX1_init_0 rfl rfl ?_
  refine aw_iload_n dX1_init_1 rfl rfl ?_
  refine aw_iload_n dX1_init_2 rfl rfl ?_
  refine aw_iload_n dX1_init_3 rfl rfl ?_
  refine aw_callI cw_X4_init ml_X1_3 im_X4_init rfl (c_X4_init_1 pk G I F n hj hc a b c) ⟨Nat.le_of_ble_eq_true rfl, Nat.le_of_ble_eq_true rfl⟩ ⟨Nat.zero_le _, Nat.zero_le _⟩ rfl rfl (Nat.le_of_ble_eq_true rfl) dX1_init_4 ?_
  rintro _ _ ⟨rfl, rfl⟩
  refine aw_vret dX1_init_7 (Nat.zero_le _) (Nat.zero_le _) ?_
  exact ⟨rfl, rfl, rfl⟩
