/-! from the law's entry -/
theorem st_known {s : State} {args : Array Value} (hts : ∀ w ∈ aw_gw, w.before args s = true) : ∃ D : va_G, ∀ (k : Nat) (q : vw_C), vwCl[k]? = some q → u_Kn s q.1 q.2.1 q.2.2 (D.1 k) (D.2 k) := by
  have h : ∀ (k : Nat) (q : vw_C), vwCl[k]? = some q → ∃ (cC : ClassId) (iS : Nat → Nat), u_Kn s q.1 q.2.1 q.2.2 cC iS := by
    intro k q hq
    match k, hq with
    | 0, hq => cases hq; exact u_known (C := RX0) (T := TX0) (N := 3) hts ig_X0 (hts _ it_X0)
    | 1, hq => cases hq; exact u_known (C := RX1) (T := TX1) (N := 3) hts ig_X1 (hts _ it_X1)
    | 2, hq => cases hq; exact u_known (C := RX2) (T := TX2) (N := 5) hts ig_X2 (hts _ it_X2)
    | 3, hq => cases hq; exact u_known (C := RX3) (T := TX3) (N := 3) hts ig_X3 (hts _ it_X3)
    | 4, hq => cases hq; exact u_known (C := RX4) (T := TX4) (N := 3) hts ig_X4 (hts _ it_X4)
    | 5, hq => cases hq; exact u_known (C := RX5) (T := TX5) (N := 4) hts ig_X5 (hts _ it_X5)
    | 6, hq => cases hq; exact u_known (C := RX6) (T := TX6) (N := 4) hts ig_X6 (hts _ it_X6)
    | 7, hq => cases hq; exact u_known (C := RX7) (T := TX7) (N := 1) hts ig_X7 (hts _ it_X7)
    | 8, hq => cases hq; exact u_known (C := RX8) (T := TX8) (N := 12) hts ig_X8 (hts _ it_X8)
    | 9, hq => cases hq; exact u_known (C := RX9) (T := TX9) (N := 28) hts ig_X9 (hts _ it_X9)
    | k + 10, hq => simp [vwCl] at hq
  have h2 : ∀ k : Nat, ∃ (cC : ClassId) (iS : Nat → Nat), ∀ q : vw_C, vwCl[k]? = some q → u_Kn s q.1 q.2.1 q.2.2 cC iS := by
    intro k
    cases hk : vwCl[k]? with
    | none => exact ⟨0, fun _ => 0, fun q hq => by cases hq⟩
    | some q0 =>
      obtain ⟨cC, iS, h9⟩ := h k q0 hk
      exact ⟨cC, iS, fun q hq => by cases hq; exact h9⟩
  exact ⟨(fun k => Classical.choose (h2 k), fun k => Classical.choose (Classical.choose_spec (h2 k))), fun k q hq => Classical.choose_spec (Classical.choose_spec (h2 k)) q hq⟩
theorem st_in {ws : List Cond} (h : ws.all (fun w => decide (w ∈ lw_tbl)) = true) : ∀ w ∈ ws, w ∈ lw_tbl := fun w hw => of_decide_eq_true (List.all_eq_true.mp h w hw)
theorem st_K {p : Program} {s : State} {m : MethodId} {meth : Method} {c : Code} {b L : Nat} {xs : Nat → Int32} (C0 : lw_At p s m meth c b L xs) : ∃ (D : va_G) (tc : Nat → ClassId), an_K D tc s := by
  obtain ⟨hx, hb, hr, hml, hown, hts, hX, hbl, hlocks, hgv⟩ := C0
  obtain ⟨D, hD⟩ := st_known (s := s) (args := #[Value.ref b]) (fun w hw => hts w (List.mem_filter.mp hw).1)
  have hi := hts (.arrayClass .int) (List.mem_filter.mp an_ai).1
  have hz := hts (.arrayClass .boolean) (List.mem_filter.mp an_az).1
  have ho6 := hts (.arrayOver (.object RX6)) (by decide +kernel)
  have ho3 := hts (.arrayOver (.object RX3)) (by decide +kernel)
  have hoa := hts (.arrayOver (.array .int)) (by decide +kernel)
  obtain ⟨c0, k0, d0, a1, a2, a3⟩ := Cond.arrayClass_spec hi
  obtain ⟨c1, k1, d1, b1, b2, b3⟩ := Cond.arrayClass_spec hz
  obtain ⟨d2, c2, k2, e1, -, e2, e3, e4⟩ := Cond.arrayOver_spec ho6
  obtain ⟨d3, c3, k3, f1, -, f2, f3, f4⟩ := Cond.arrayOver_spec ho3
  obtain ⟨d4, c4, k4, g1, -, g2, g3, g4⟩ := arrayOverA_spec hoa
  refine ⟨D, fun k => [c0, c1, c2, c3, c4].getD k 0, ⟨⟨hD, fun k q hq => ?_⟩, fun w hw => va_Nw.of (aw_nw_on w hw) (hts w (st_in (ws := aw_nw) (by decide +kernel) w hw)), fun q hq => ?_⟩, fun w hw => va_Nw.of (an_nw_on w hw) (hts w (st_in (ws := an_nw) (by decide +kernel) w hw)), va_AO.of ho6, va_AO.of ho3, mu_AA.of hoa hi⟩
  · match k, hq with
    | 0, hq => cases hq; exact ⟨fun n z => ⟨fun k h => (by cases h), k0, a2, d0, a3⟩, a1⟩
    | 1, hq => cases hq; exact ⟨fun n z => ⟨fun k h => (by cases h), k1, b2, d1, b3⟩, b1⟩
    | 2, hq => cases hq; exact ⟨fun n z => ⟨fun k h => (by cases h), k2, e2, d2, e3⟩, k2, d2, e2, e3, e1, e4⟩
    | 3, hq => cases hq; exact ⟨fun n z => ⟨fun k h => (by cases h), k3, f2, d3, f3⟩, k3, d3, f2, f3, f1, f4⟩
    | 4, hq => cases hq; exact ⟨fun n z => ⟨fun k h => (by cases h), k4, g2, d4, g3⟩, g4⟩
    | k + 5, hq => simp [aw_ty] at hq
  · have hs := flat_of_before _ hgv
    simp only [aw_nc, List.mem_cons, List.not_mem_nil, or_false] at hq
    rcases hq with rfl | rfl | rfl
    · exact va_Nc.of (hs (.not (.castable RX3 RX4)) (by decide +kernel))
    · exact va_Nc.of (hs (.not (.castable RX4 RX1)) (by decide +kernel))
    · exact va_Nc.of (hs (.not (.castable RX3 RX1)) (by decide +kernel))
/-- a constructor, called by the law -/
theorem lw_init {p : Program} {l : Launch} {e : Env} {s : State} {m : MethodId} {below : List Frame} {meth : Method} {c : Code} {b L : Nat} {xs : Nat → Int32} {D : va_G} {tc : Nat → ClassId} {H : Heap} {locs : List Loc} {cells slots : Nat} {Q : State → Prop} {y : MethodName} {cc : ByteArray} {nL fr lo mc ms idx q pc : Nat} {rest : List Value} {w : va_W} {Q' : va_W → Prop} {ls : Array Slot} (C0 : lw_At p s m meth c b L xs) (hK : an_K D tc s) (hP : va_P D vwCl w H) (hD : va_D (LA s) w) (hS : va_S (LA s) s.heap H locs) (hM : NM l D tc y cc nL fr lo mc ms q w Q') (hcw : aw_cw y cc nL none 0) (hl : Cond.methodLink RL idx y ∈ aw_gw) (hi : Cond.instanceMethod y ∈ aw_gw) (hy : y.name = "<init>") (hR : fr + 1 ≤ 9 ∧ 8 + (nL + 11) + lo ≤ 332) (hc : cells + mc ≤ 600000 ∧ slots + ms ≤ 7302250) (hw8 : (rest.map fun v => v.category).sum ≤ 8) (hsz : ls.size = 4) (d : decode code pc = .ok (.invokespecial idx, 3))
    (k : ∀ (w1 : va_W) (H1 : Heap) (locs1 : List Loc), Q' w1 → va_P D vwCl w1 H1 → va_D (LA s) w1 → va_S (LA s) s.heap H1 locs1 → W p l e room_1 s m #[Value.ref b] below meth c H1 locs1 (cells + mc) (slots + ms) Q (F0 m (pc + 3) ls rest)) : W p l e room_1 s m #[Value.ref b] below meth c H locs cells slots Q (F0 m pc ls (.ref q :: rest)) := by
  obtain ⟨hx, hb, hr0, hml, hown, hts0, hX, hbl, hlk, hgv⟩ := C0
  obtain ⟨w3, w4, g1, g2, g3⟩ := hcw
  have hts : ∀ w ∈ aw_gw, w.before #[Value.ref b] s = true := fun w hw => hts0 w (List.mem_filter.mp hw).1
  have hM' := hM (LA s) H.size (fun q hq => Nat.le_trans hS.1 hq)
  have hB := callB_of (R := room_1) (own := RL) (index := idx) (mc := mc) (ms := ms) (rm := { frames := fr, cells := mc, slots := ms, locals := lo }) 0 hts (aw_good w4) rfl rfl rfl (hts _ w3) (hts _ hl) ⟨g1, g2, g3⟩ hR
  have hr := va_runI (b := q) (R := room_1) (e := e) (below := below) (meth := meth) (locs := locs) (cells := cells) (slots := slots) (As := []) (rest := rest) (g := F0 m pc ls (.ref q :: rest)) ⟨hx, hb, hml, hown, hts⟩ hM' ⟨hB, hy, hts _ hi⟩ ⟨an_blind, fun U hU hW => ⟨rfl, by rw [hU], hK.warm hW, by rw [hU]; exact hP, hD⟩⟩ rfl rfl hsz rfl (lv_room hw8) d hc
  refine va_callv hr hS (fun _ _ h => h) (fun _ h => h) (fun w1 t H1 locs1 ht hvm hq hB hz1 hk1 hS1 => ?_)
  obtain ⟨hP1, hD1⟩ := hB
  rw [ht] at hP1
  exact k w1 H1 locs1 hq hP1 hD1 hS1
-- ===== YOUR PART BEGINS =====
set_option maxRecDepth 100000 in
set_option maxHeartbeats 4000000 in
/-- from the entry, for every script of at most 3072 ints, the law comes to its end with true -/
theorem whole_start {p : Program} {e : Env} {s : State} {m : MethodId} {below : List Frame} {meth : Method} {c : Code} (l : Launch) {b L : Nat} {xs : Nat → Int32} (hL : L ≤ 3072) (C0 : lw_At p s m meth c b L xs) : W p l e room_1 s m #[Value.ref b] below meth c s.heap [] 0 0 (lw_Z below #[Value.ref b] s) (entryFrame m ([Value.ref b] : List Value).toArray 4) := by
  obtain ⟨hx, hb, hr, hml, hown, hts0, hX, hbl, hlocks, hgv⟩ := id C0
  obtain ⟨D, tc, hK⟩ := st_K C0
  have hts : ∀ w ∈ aw_gw, w.before #[Value.ref b] s = true := fun w hw => hts0 w (List.mem_filter.mp hw).1
  have hA : ∀ q : Nat, s.heap.size ≤ q → LA s q := fun _ h => h
  have hS : va_S (LA s) s.heap s.heap [] := va_S.rf
  have hP : va_P D vwCl [] s.heap := fun k q h => by simp at h
  have hD : va_D (LA s) [] := ⟨fun i j p q h => by simp at h, fun k q h => by simp at h⟩
  have hl := lv_entry ([.ref b]) (n := 4) (Nat.le_of_ble_eq_true rfl)
  rw [lg_entry_eq]
  generalize (lg_sl ([.ref b]) ++ List.replicate (4 - (lg_sl ([.ref b])).length) Slot.unset).toArray = ls at hl ⊢
  have hl : lv_has ls 4 [(0, .ref b)] := hl
  refine va_new (ci := 8) (fs := df_X8) (C := RX8) (T := TX8) (N := 12) hx hb hts ig_X8 tyX8 tyX8_ok hown (hts _ cl_L_7) (hts _ it_X8) (hts _ in_X8) hK.1.1 hP hD hS hA rfl dv_X8 (Nat.le_of_ble_eq_true rfl) (Nat.le_of_ble_eq_true rfl) dL_law_0 (fun q H hP hD hS => ?_)
  refine lv_dup hx hb dL_law_3 rfl ?_
  refine lw_init C0 hK hP hD hS (c_X8_init q) cw_X8_init ml_L_9 im_X8_init rfl ⟨Nat.le_of_ble_eq_true rfl, Nat.le_of_ble_eq_true rfl⟩ ⟨Nat.le_of_ble_eq_true rfl, Nat.le_of_ble_eq_true rfl⟩ (Nat.le_of_ble_eq_true rfl) hl.1 dL_law_4 (fun w1 H locs hq hP hD hS => ?_)
  obtain ⟨a1, a2, a3, a4, b5, b6, a7, b8, b9, b10, a11, b12, b13, b14, a15, a16, b17, a18, b19, a20, b21, a22, b23, rfl⟩ := hq
  obtain ⟨ad, e1, hws⟩ := x8_ws (tc := tc) q a1 a2 a3 a4 b5 b6 a7 b8 b9 b10 a11 b12 b13 b14 a15 a16 b17 a18 b19 a20 b21 a22 b23
  obtain ⟨hP, hD⟩ := hws D (LA s) H hP hD
  clear hws
  refine lv_astore_n (lv' := [(1, .ref q), (0, .ref b)]) hx hb dL_law_7 rfl hl (by decide) rfl (fun ls hl => ?_)
  refine va_new (ci := 9) (fs := df_X9) (C := RX9) (T := TX9) (N := 28) hx hb hts ig_X9 tyX9 tyX9_ok hown (hts _ cl_L_10) (hts _ it_X9) (hts _ in_X9) hK.1.1 hP hD hS hA rfl dv_X9 (Nat.le_of_ble_eq_true rfl) (Nat.le_of_ble_eq_true rfl) dL_law_8 (fun q2 H hP hD hS => ?_)
  refine lv_dup hx hb dL_law_11 rfl ?_
  refine lw_init C0 hK hP hD hS (c_X9_init (ws := aw_ws tc ad 30 (hC pk0 G0 I0 I0)) q2) cw_X9_init ml_L_12 im_X9_init rfl ⟨Nat.le_of_ble_eq_true rfl, Nat.le_of_ble_eq_true rfl⟩ ⟨Nat.le_of_ble_eq_true rfl, Nat.le_of_ble_eq_true rfl⟩ (Nat.le_of_ble_eq_true rfl) hl.1 dL_law_12 (fun w1 H locs hq hP hD hS => ?_)
  obtain ⟨d1, d2, d3, d4, d5, d6, d7, d8, d9, d10, d11, d12, d13, d14, rfl⟩ := hq
  obtain ⟨ad2, e2, hws⟩ := x9_ws (tc := tc) q2 d1 d2 d3 d4 d5 d6 d7 d8 d9 d10 d11 d12 d13 d14
  rw [hws] at hP hD
  refine lv_astore_n (lv' := [(2, .ref q2), (1, .ref q), (0, .ref b)]) hx hb dL_law_15 rfl hl (by decide) rfl (fun ls hl => ?_)
  refine lv_iconst (v := 0) hx hb dL_law_16 (by decide) ?_
  refine lv_istore_n (lv' := [(3, .int 0), (2, .ref q2), (1, .ref q), (0, .ref b)]) hx hb dL_law_17 rfl hl (by decide) rfl (fun ls hl => ?_)
  refine W.widen (k := 45 + 0) (n := 893 + 3 * 0) (Nat.le_of_ble_eq_true rfl) (Nat.le_of_ble_eq_true rfl) ?_
  exact law_loop hL C0 hK.1 (L + 1) 0 (Nat.zero_le L) (by omega) pk0 G0 I0 I0 30 0 (fun _ => 0) 0 0 I0 H0 ad ad2 H _ ls (Nat.le_refl _) Rel0 ⟨hP, hD, hS⟩ (by rw [e1, e2]; exact hl)
-- ===== YOUR PART ENDS =====
set_option maxHeartbeats 4000000 in
theorem lw_walk (l : Launch) (b : Addr) (xs : List Int32) : MetFree l x (headSpec (Jvm.Cond.code x code maxLocals ret :: tables_1) room_1) (lw_P b xs) (fun _ _ _ _ _ => True) lw_Q := by
  refine MetFree.of_bodyS (code := code) (maxLocals := maxLocals) (ret := ret) (by decide) ?_ ?_
  · intro args s m h hn
    obtain ⟨meth, c, h1, h2, h3, h4, h5, h6, -, -⟩ := Cond.code_spec hn (atoms_spec (ws := Jvm.Cond.code x code maxLocals ret :: tables_1) h _ List.mem_cons_self)
    exact ⟨meth, c, h1, h2, h3, h4, h5, h6⟩
  · intro p e s m args below meth c s₁ B hml0 hP _
    obtain ⟨rfl, hx, hbd, hgv⟩ := hP
    obtain ⟨scr, harrAt, hlist, hof, hsmall⟩ := hx
    obtain ⟨hcb, hkn, -, -⟩ := State.arrayAt?_spec harrAt
    have hown : s.vm.findClass R_law = some m.cls := findClass_of_methodNamed B.named
    have hts0 : ∀ c ∈ (Jvm.Cond.code x code maxLocals ret :: tables_1), c.before #[Value.ref b] s = true := atoms_spec (ws := Jvm.Cond.code x code maxLocals ret :: tables_1) B.pre
    have hts : ∀ w ∈ lw_tbl, w.before #[Value.ref b] s = true := k2_hts_sels lw_privs (fun w hw => hts0 w (List.mem_cons_of_mem _ hw)) lw_privs_ok
    have hml : c.maxLocals = 4 := B.maxLocals_eq (hts0 _ List.mem_cons_self)
    have X₀ : Stand p l e room_1 s m #[Value.ref b] below meth c s₁ [] 0 0 := Stand.of_body B
    have hh0 : s₁.heap = s.heap := by rw [B.state]; rfl
    have hsz : scr.slots.size = xs.length := by rw [← Array.length_toList, hlist, List.length_map]
    have hval : ∀ j : Nat, j < xs.length → scr.slots[j]? = some (.int (xs.getD j 0)) := fun j hj => by
      rw [← Array.getElem?_toList, hlist]
      simp [hj]
    have hbl : b < s.heap.size := (Array.getElem?_eq_some_iff.mp hcb).1
    have hX : va_X b xs.length (fun j => xs.getD j 0) s s.heap := ⟨scr, hcb, hof, hkn, hsz, hval⟩
    have K : W p l e room_1 s m #[Value.ref b] below meth c s₁.heap [] 0 0 (lw_Z below #[Value.ref b] s) (entryFrame m ([Value.ref b] : List Value).toArray 4) := by
      rw [hh0]
      exact whole_start l hbd ⟨B.exec, B.bytes, B.returns, hml, hown, hts, hX, hbl, B.notSynchronized, hgv⟩
    obtain ⟨t, a1, o, b1, b2, b3⟩ := K s₁ rfl X₀
    exact ⟨t, o, a1, b1, b2, b3⟩
theorem lw_pre_spec {args : Array Value} {s : State} (h : (Jvm.Cond.and given_1 narrow_1).before args s = true) (hr : rest_1_c.before args s = true) : ∃ (b : Addr) (xs : List Int32), lw_P b xs args s := by
  have hs := flat_of_before _ h
  have hq := flat_of_before _ hr
  have hc : (Cond.count 1).before args s = true := hs _ (by decide +kernel)
  have harr : (Cond.arrayOf (.arg 0) .int).before args s = true := hs _ (by decide +kernel)
  have hle : (Cond.le (.length (.arg 0)) (.int 3072)).before args s = true := hs _ (by decide +kernel)
  have hlen : (Cond.isInt (.length (.arg 0))).before args s = true := hq _ (by decide +kernel)
  have hall : (Cond.all (.arg 0) (.isInt (.elem (.arg 0) (.index 0)))).before args s = true := hq _ (by decide +kernel)
  obtain ⟨b, xs, hb, hx⟩ := State.ints_of_pre rfl harr hlen hall
  have hsm : xs.length < 2 ^ 31 := hx.choose_spec.2.2.2
  have hev : (Term.length (.arg 0)).eval args s none [] s = some (.int xs.length.toInt32) := hx.length_eval hb
  have hv := Cond.le_ints hev (show (Term.int 3072).eval args s none [] s = some (.int 3072) from rfl)
  have hd : xs.length.toInt32 ≤ 3072 := by
    simpa [Cond.before, Cond.holds, hv] using hle
  have hN : xs.length ≤ 3072 := (Int32.ofNat_le_ofNat hsm (by decide)).mp (show Int32.ofNat xs.length ≤ Int32.ofNat 3072 from hd)
  exact ⟨b, xs, Cond.one_arg hc (show args[0]? = some (.ref b) from hb), hx, hN, h⟩
theorem lw_comes (l : Launch) : Comes l x (Jvm.Cond.code x code maxLocals ret :: tables_1) room_1 (fun tb e args s => Calls_1 tb e args s ∧ rest_1 tb e args s ∧ Pre_1 tb e args s)
    (fun _ _ args s o t => lw_Q args s o t) := by
  intro p e ha hc hk s m args below hf hfit hheap happ hpre
  obtain ⟨b, xs, hP⟩ := lw_pre_spec hpre.2.2 hpre.2.1
  obtain ⟨k, o, h1, h2, h3, hQ⟩ := lw_walk l b xs p e ha hc hk s m args below hf ((Spec.applies_iff_loose hf).mp happ).1 hP trivial
  exact ⟨k, o, h1, h2, h3, hQ⟩
theorem lw_frame {s t : State} {o : Outcome} {args : Array Value} (h : Framed s o t [] 600000 7302250) :
    Framed s o t (fieldLocs frame_1_writes args s ++ arrayLocs frame_1_arrays args s ++ staticLocs frame_1_statics s) 600000 7302250 := h
theorem lw_limb (L : Cond) (hL : ∀ (args : Array Value) (s t : State), L.after args s (.returned (some (.int 1))) t = true) :
    ArmFor flags0 classFile x code maxLocals ret World_1 tables_1 room_1 Calls_1 rest_1 Pre_1
      (fun tb e a s o t => postC L tb e a s o t ∧ Framed s o t (fieldLocs frame_1_writes a s ++ arrayLocs frame_1_arrays a s ++ staticLocs frame_1_statics s) 600000 7302250) := by
  intro l _ _ _ p e ha hc hk s m args below hf hfit hheap happ hpre
  obtain ⟨k, o, h1, h2, h3, rfl, hF⟩ := lw_comes l p e ha hc hk s m args below hf hfit hheap happ hpre
  exact ⟨k, _, h1, h2, h3, hL args s _, lw_frame hF⟩
theorem i_vc : Claimed_1_1 ∧ Claimed_1_2 := ⟨lw_limb limb_1_1 (fun args s t => by simp [limb_1_1, Cond.after, Cond.holds, Cond.value]), lw_limb limb_1_2 (fun args s t => Cond.after_iff.mpr (by
  first | (rw [show limb_1_2 = Cond.eq .result (.int 1) from rfl, Cond.eq_ints (x := 1) (y := 1) rfl rfl]; simp; done) | (simp [limb_1_2, Cond.value, Term.eval]; done)))⟩
