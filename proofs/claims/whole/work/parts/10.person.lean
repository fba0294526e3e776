/-! people: of three kinds, by number 1 (lame), 3 (plain), 4 (proud) -/
def pKind (c : Nat) : Prop := c = 1 ∨ c = 3 ∨ c = 4
def kd (c : Nat) : Int32 := if c = 3 then 0 else if c = 4 then 1 else 2
def tr (I : Nat → Nat → Int32) (x : Int32) : Nat → Nat → Int32 := st_I I 21 0 (31 * I 21 0 + x)
theorem tr_p (I : Nat → Nat → Int32) (x : Int32) (j k : Nat) : tr I x (j + 30) k = I (j + 30) k := st_In (by omega)
section PER
variable {l : Launch} {D : va_G} {tc : Nat → ClassId} {own : String} {cc : ByteArray} {nL : Nat} {ret : Option FieldType} {R : Room} {n0 mc ms : Nat} {Q : Option Value → Nat → aw_H → Prop} {pc : Nat} {L : List (Option Value)} {st rest : List Value} {n : Nat} {h : aw_H} {cells slots : Nat} {pk : Nat → Nat} {G : Nat → Option Nat} {I F : Nat → Nat → Int32}
theorem aw_getP {o idx k0 c : Nat} {i0 i1 i2 : Int32} {v : Value} (h1 : aw_fd own idx 1 k0 RX1 TX1 3) (h3 : aw_fd own idx 3 k0 RX3 TX3 3) (h4 : aw_fd own idx 4 k0 RX4 TX4 3) (hp : pKind c) (d : decode cc pc = .ok (.getfield idx, 3)) (ho : o < n) (he : h o = .inr (c, [.int i0, .int i1, .int i2])) (hv : [Value.int i0, .int i1, .int i2][k0]? = some v) (k : AW l D tc own cc nL ret R n0 mc ms Q (pc + 3) L (v :: rest) n h cells slots) : AW l D tc own cc nL ret R n0 mc ms Q pc L (.ref o :: rest) n h cells slots := by
  rcases hp with rfl | rfl | rfl
  · exact aw_get h1 d ho he hv k
  · exact aw_get h3 d ho he hv k
  · exact aw_get h4 d ho he hv k
theorem aw_putP {j idx k0 : Nat} {x : Int32} (h1 : aw_fp own idx 1 k0 RX1 TX1 3 .int) (h3 : aw_fp own idx 3 k0 RX3 TX3 3 .int) (h4 : aw_fp own idx 4 k0 RX4 TX4 3 .int) (hp : pKind (pk j)) (d : decode cc pc = .ok (.putfield idx, 3)) (ho : j + 30 < n) (k : AW l D tc own cc nL ret R n0 mc ms Q (pc + 3) L rest n (hC pk G (st_I I (j + 30) k0 x) F) cells slots) : AW l D tc own cc nL ret R n0 mc ms Q pc L (.int x :: .ref (j + 30) :: rest) n (hC pk G I F) cells slots := by
  have hk : k0 < 3 := h1.1.2.2.1
  have hh : ∀ c, pk j = c → entC pk G (j + 30) (upd (I (j + 30)) k0 x) (F (j + 30)) = .inr (c, [Value.int (I (j + 30) 0), .int (I (j + 30) 1), .int (I (j + 30) 2)].set k0 (.int x)) := by
    intro c hc
    rw [entC_per, hc]
    match k0, hk with
    | 0, _ => rfl
    | 1, _ => rfl
    | 2, _ => rfl
  have he : ∀ c, pk j = c → hC pk G I F (j + 30) = .inr (c, [Value.int (I (j + 30) 0), .int (I (j + 30) 1), .int (I (j + 30) 2)]) := fun c hc => by
    show entC pk G (j + 30) _ _ = _
    rw [entC_per, hc]
  rcases hp with q | q | q
  · exact aw_puti h1 d ho (he _ q) rfl rfl hk (hh _ q) k
  · exact aw_puti h3 d ho (he _ q) rfl rfl hk (hh _ q) k
  · exact aw_puti h4 d ho (he _ q) rfl rfl hk (hh _ q) k
theorem he_per (j : Nat) : hC pk G I F (j + 30) = .inr (pk j, [.int (I (j + 30) 0), .int (I (j + 30) 1), .int (I (j + 30) 2)]) := rfl
theorem he_perc {j c : Nat} (hc : pk j = c) : hC pk G I F (j + 30) = .inr (c, [.int (I (j + 30) 0), .int (I (j + 30) 1), .int (I (j + 30) 2)]) := by rw [← hc]; rfl
/-- super.m(..) -/
theorem aw_super {y : MethodName} {cc' : ByteArray} {nL' nA fr' lo' idx : Nat} {ret' : Option FieldType} {Q' : Option Value → aw_H → Prop} {av : List Value} {o ci : Nat} {C : String} {T : u_T} {N : Nat} {fs : List Value} (hcw : aw_cw y cc' nL' ret' nA) (hl : Cond.methodLink own idx y ∈ aw_gw) (hsm : Cond.sameMethod y.cls y.cls y.name y.desc ∈ aw_gw) (hsu : Cond.superclass own y.cls ∈ aw_gw) (hi : Cond.instanceMethod y ∈ aw_gw) (hno : y.name ≠ "<init>") (hcl : vwCl[ci]? = some (C, T, N)) (ho : o < n) (he : h o = .inr (ci, fs)) (hM : AM l D tc y cc' nL' ret' fr' lo' 0 0 (.ref o :: av) n h (fun v n1 h1 => n1 = n ∧ Q' v h1)) (hR : fr' + 1 ≤ R.frames ∧ 8 + (nL' + 11) + lo' ≤ R.locals) (hc : cells ≤ R.cells ∧ slots ≤ R.slots) (hn : av.length = nA) (hst : av.reverse ++ .ref o :: rest = st) (hw : (rest.map fun v => v.category).sum ≤ 8) (d : decode cc pc = .ok (.invokespecial idx, 3)) (k : ∀ (v : Option Value) (h1 : aw_H), Q' v h1 → AW l D tc own cc nL ret R n0 mc ms Q (pc + 3) L (v.toList ++ rest) n h1 cells slots) : AW l D tc own cc nL ret R n0 mc ms Q pc L st n h cells slots := by
  subst hst
  intro p e s m args below meth c H locs ls A ad ad0 X Y
  obtain ⟨hx, hb, hr0, hml, hown, hts, hlk, hK, hA⟩ := id X
  obtain ⟨hn0, had, hP, hD, hS, hL⟩ := Y
  obtain ⟨w3, w4, g1, g2, g3⟩ := hcw
  have hM' := hM ad A H.size (fun q hq => hA q (Nat.le_trans hS.1 hq))
  have hw9 := aw_ws_at (tc := tc) (ad := ad) (h := h) ho
  rw [he] at hw9
  have hG : GoodIn aw_gw (va_wsSU own idx y (Cond.code y cc' nL' ret' :: aw_gw)) := by
    intro w hw1
    have hm : w ∈ aw_gw := by
      unfold va_wsSU at hw1
      simp only [List.cons_append, List.nil_append, List.mem_cons] at hw1
      rcases hw1 with rfl | rfl | rfl | rfl | rfl | rfl | hw1
      all_goals assumption
    exact ⟨hm, good_of_word (List.mem_filter.mp hm).2⟩
  have hB := va_cwSU (R := R) (own := own) (index := idx) (y := y) (mc := 0) (ms := 0) (rm := { frames := fr', cells := 0, slots := 0, locals := lo' }) nA hts hG rfl rfl rfl ⟨hno, g3⟩ hR
  have hr := va_runSU (hK.1.1 ci _ hcl).2 (b := ad o) (R := R) (e := e) (below := below) (meth := meth) (locs := locs) (cells := cells) (slots := slots) (As := av.map (aw_mv ad)) (rest := rest.map (aw_mv ad)) (g := F0 m pc ls ((av.reverse ++ .ref o :: rest).map (aw_mv ad))) ⟨hx, hb, hml, hown, hts⟩ hM' hB ⟨aw_blind, va_recv hK.1 hP hcl hw9, fun U hU hW => ⟨rfl, by rw [hU], aw_K.warm hW hK, by rw [hU]; exact hP, hD⟩⟩ rfl (by rw [List.length_map]; exact hn) hL.1 (by simp [List.map_reverse, aw_mv]) (lv_room (by rw [aw_cats]; exact hw)) d ⟨hc.1, hc.2⟩
  refine aw_cont hr hS (fun v n1 h1 ad1 H1 locs1 hq hn1 had1 hP1 hD1 hS1 => ?_)
  obtain ⟨e9, hq⟩ := hq
  subst e9
  have e8 : ad1 = ad := funext fun k9 => had1 k9 (fun q => by omega)
  subst e8
  rw [aw_stk]
  exact k v h1 hq p e s m args below meth c H1 locs1 ls A ad1 ad0 X ⟨hn0, had, hP1, hD1, hS1, hL⟩
/-- instanceof -/
theorem aw_instY {o ci idx : Nat} {C nm : String} {T : u_T} {N : Nat} {fs : List Value} (hl : Cond.classLink own idx nm ∈ aw_gw) (hca : Cond.castable C nm ∈ aw_nw) (hcl : vwCl[ci]? = some (C, T, N)) (d : decode cc pc = .ok (.instanceof idx, 3)) (ho : o < n) (he : h o = .inr (ci, fs)) (k : AW l D tc own cc nL ret R n0 mc ms Q (pc + 3) L (.int 1 :: rest) n h cells slots) : AW l D tc own cc nL ret R n0 mc ms Q pc L (.ref o :: rest) n h cells slots := by
  intro p e s m args below meth c H locs ls A ad ad0 X Y
  have hw := aw_ws_at (tc := tc) (ad := ad) (h := h) ho
  rw [he] at hw
  exact va_instY X.1 X.2.1 X.2.2.2.2.1 (X.2.2.2.2.2.1 _ hl) (X.2.2.2.2.2.2.2.1.2.1 _ hca) (va_recv X.2.2.2.2.2.2.2.1.1 Y.2.2.1 hcl hw) d (k p e s m args below meth c H locs ls A ad ad0 X Y)
theorem aw_instS {o ci idx : Nat} {nm : String} {T : u_T} {N : Nat} {fs : List Value} (hl : Cond.classLink own idx nm ∈ aw_gw) (hcl : vwCl[ci]? = some (nm, T, N)) (d : decode cc pc = .ok (.instanceof idx, 3)) (ho : o < n) (he : h o = .inr (ci, fs)) (k : AW l D tc own cc nL ret R n0 mc ms Q (pc + 3) L (.int 1 :: rest) n h cells slots) : AW l D tc own cc nL ret R n0 mc ms Q pc L (.ref o :: rest) n h cells slots := by
  intro p e s m args below meth c H locs ls A ad ad0 X Y
  have hw := aw_ws_at (tc := tc) (ad := ad) (h := h) ho
  rw [he] at hw
  exact va_instS X.1 X.2.1 X.2.2.2.2.1 (X.2.2.2.2.2.1 _ hl) (X.2.2.2.2.2.2.2.1.1.1 ci _ hcl).2 (va_recv X.2.2.2.2.2.2.2.1.1 Y.2.2.1 hcl hw) d (k p e s m args below meth c H locs ls A ad ad0 X Y)
theorem aw_instN {o ci idx : Nat} {C nm : String} {T : u_T} {N : Nat} {fs : List Value} (hl : Cond.classLink own idx nm ∈ aw_gw) (hca : (C, nm) ∈ aw_nc) (hcl : vwCl[ci]? = some (C, T, N)) (d : decode cc pc = .ok (.instanceof idx, 3)) (ho : o < n) (he : h o = .inr (ci, fs)) (k : AW l D tc own cc nL ret R n0 mc ms Q (pc + 3) L (.int 0 :: rest) n h cells slots) : AW l D tc own cc nL ret R n0 mc ms Q pc L (.ref o :: rest) n h cells slots := by
  intro p e s m args below meth c H locs ls A ad ad0 X Y
  have hw := aw_ws_at (tc := tc) (ad := ad) (h := h) ho
  rw [he] at hw
  exact va_instNo X.1 X.2.1 X.2.2.2.2.1 (X.2.2.2.2.2.1 _ hl) (X.2.2.2.2.2.2.2.1.2.2 _ hca) (va_recv X.2.2.2.2.2.2.2.1.1 Y.2.2.1 hcl hw) d (k p e s m args below meth c H locs ls A ad ad0 X Y)
end PER

set_option maxRecDepth 100000 in
set_option maxHeartbeats 4000000 in
theorem c_X7_leave {l : Launch} {D : va_G} {tc : Nat → ClassId} (pk : Nat → Nat) (G : Nat → Option Nat) (I F : Nat → Nat → Int32) (n : Nat) (hn : 30 ≤ n) (x : Int32) : AM l D tc yX7_leave cX7_leave 2 none 0 0 0 0 [.ref 21, .int x] n (hC pk G I F) (fun v n1 h1 => n1 = n ∧ (v = none ∧ h1 = hC pk G (tr I x) F)) := by
  refine am_of (L := [some (.ref 21), some (.int x)]) (by decide +kernel) (Nat.le_of_ble_eq_true rfl) rfl ?_
  refine aw_aload_n dX7_leave_0 rfl rfl ?_
  refine aw_bipush (v := (31)) dX7_leave_1 (by decide) ?_
  refine aw_aload_n dX7_leave_3 rfl rfl ?_
  refine aw_get fd_X7_7_7 dX7_leave_4 (by omega) rfl rfl ?_
  refine aw_imul dX7_leave_7 ?_
  refine aw_iload_n dX7_leave_8 rfl rfl ?_
  refine aw_iadd dX7_leave_9 ?_
  refine aw_puti fp_X7_7_7 dX7_leave_10 (by omega) rfl rfl rfl (Nat.le_of_ble_eq_true rfl) rfl ?_
  refine aw_vret dX7_leave_13 (Nat.zero_le _) (Nat.zero_le _) ?_
  exact ⟨rfl, rfl, rfl⟩
set_option maxRecDepth 100000 in
set_option maxHeartbeats 4000000 in
theorem c_X1_kind {l : Launch} {D : va_G} {tc : Nat → ClassId} (o n : Nat) (h : aw_H) : AM l D tc yX1_kind cX1_kind 1 (some .int) 0 0 0 0 [.ref o] n h (fun v n1 h1 => n1 = n ∧ (v = some (.int 2) ∧ h1 = h)) := by
  refine am_of (L := [some (.ref o)]) (by decide +kernel) (Nat.le_of_ble_eq_true rfl) rfl ?_
  refine aw_iconst (v := 2) dX1_kind_0 (by decide) ?_
  refine aw_iret dX1_kind_1 (Nat.zero_le _) (Nat.zero_le _) ?_
  exact ⟨rfl, rfl, rfl⟩
set_option maxRecDepth 100000 in
set_option maxHeartbeats 4000000 in
theorem c_X3_kind {l : Launch} {D : va_G} {tc : Nat → ClassId} (o n : Nat) (h : aw_H) : AM l D tc yX3_kind cX3_kind 1 (some .int) 0 0 0 0 [.ref o] n h (fun v n1 h1 => n1 = n ∧ (v = some (.int 0) ∧ h1 = h)) := by
  refine am_of (L := [some (.ref o)]) (by decide +kernel) (Nat.le_of_ble_eq_true rfl) rfl ?_
  refine aw_iconst (v := 0) dX3_kind_0 (by decide) ?_
  refine aw_iret dX3_kind_1 (Nat.zero_le _) (Nat.zero_le _) ?_
  exact ⟨rfl, rfl, rfl⟩
set_option maxRecDepth 100000 in
set_option maxHeartbeats 4000000 in
theorem c_X4_kind {l : Launch} {D : va_G} {tc : Nat → ClassId} (o n : Nat) (h : aw_H) : AM l D tc yX4_kind cX4_kind 1 (some .int) 0 0 0 0 [.ref o] n h (fun v n1 h1 => n1 = n ∧ (v = some (.int 1) ∧ h1 = h)) := by
  refine am_of (L := [some (.ref o)]) (by decide +kernel) (Nat.le_of_ble_eq_true rfl) rfl ?_
  refine aw_iconst (v := 1) dX4_kind_0 (by decide) ?_
  refine aw_iret dX4_kind_1 (Nat.zero_le _) (Nat.zero_le _) ?_
  exact ⟨rfl, rfl, rfl⟩
set_option maxRecDepth 100000 in
set_option maxHeartbeats 4000000 in
theorem c_X3_plainTelling {l : Launch} {D : va_G} {tc : Nat → ClassId} (pk : Nat → Nat) (G : Nat → Option Nat) (I F : Nat → Nat → Int32) (n : Nat) (hn : 30 ≤ n) (j : Nat) (hj : j + 30 < n)  (hp : pKind (pk j)) : AM l D tc yX3_plainTelling cX3_plainTelling 2 (some .int) 1 21 0 0 [.ref (j + 30), .ref 21] n (hC pk G I F) (fun v n1 h1 => n1 = n ∧ (v = some (.int (I (j + 30) 1)) ∧ h1 = hC pk G (tr I 1) F)) := by
  refine am_of (L := [some (.ref (j + 30)), some (.ref 21)]) (by decide +kernel) (Nat.le_of_ble_eq_true rfl) rfl ?_
  refine aw_aload_n dX3_plainTelling_0 rfl rfl ?_
  refine aw_iconst (v := 1) dX3_plainTelling_1 (by decide) ?_
  refine aw_callV cw_X7_leave ml_X3_25 im_X7_leave sl_X7_X7_leave rfl (by omega) rfl (c_X7_leave pk G _ _ n hn _) ⟨Nat.le_of_ble_eq_true rfl, Nat.le_of_ble_eq_true rfl⟩ ⟨Nat.zero_le _, Nat.zero_le _⟩ rfl rfl (Nat.le_of_ble_eq_true rfl) dX3_plainTelling_2 ?_
  rintro _ _ ⟨rfl, rfl⟩
  refine aw_aload_n dX3_plainTelling_5 rfl rfl ?_
  refine aw_getP fd_X3_15_1 fd_X3_15_3 fd_X3_15_4 hp dX3_plainTelling_6 hj (he_per _) rfl ?_
  refine aw_iret dX3_plainTelling_9 (Nat.zero_le _) (Nat.zero_le _) ?_
  refine ⟨rfl, ?_, rfl⟩
  simp [tr_p]
set_option maxRecDepth 100000 in
set_option maxHeartbeats 4000000 in
theorem c_X3_heardAs {l : Launch} {D : va_G} {tc : Nat → ClassId} (pk : Nat → Nat) (G : Nat → Option Nat) (I F : Nat → Nat → Int32) (n : Nat) (hn : 30 ≤ n) (j : Nat) (hj : j + 30 < n)  (hp : pKind (pk j)) : AM l D tc yX3_heardAs cX3_heardAs 2 (some .int) 1 21 0 0 [.ref (j + 30), .ref 21] n (hC pk G I F) (fun v n1 h1 => n1 = n ∧ (v = some (.int (I (j + 30) 0)) ∧ h1 = hC pk G (tr I 4) F)) := by
  refine am_of (L := [some (.ref (j + 30)), some (.ref 21)]) (by decide +kernel) (Nat.le_of_ble_eq_true rfl) rfl ?_
  refine aw_aload_n dX3_heardAs_0 rfl rfl ?_
  refine aw_iconst (v := 4) dX3_heardAs_1 (by decide) ?_
  refine aw_callV cw_X7_leave ml_X3_25 im_X7_leave sl_X7_X7_leave rfl (by omega) rfl (c_X7_leave pk G _ _ n hn _) ⟨Nat.le_of_ble_eq_true rfl, Nat.le_of_ble_eq_true rfl⟩ ⟨Nat.zero_le _, Nat.zero_le _⟩ rfl rfl (Nat.le_of_ble_eq_true rfl) dX3_heardAs_2 ?_
  rintro _ _ ⟨rfl, rfl⟩
  refine aw_aload_n dX3_heardAs_5 rfl rfl ?_
  refine aw_getP fd_X3_9_1 fd_X3_9_3 fd_X3_9_4 hp dX3_heardAs_6 hj (he_per _) rfl ?_
  refine aw_iret dX3_heardAs_9 (Nat.zero_le _) (Nat.zero_le _) ?_
  refine ⟨rfl, ?_, rfl⟩
  simp [tr_p]
set_option maxRecDepth 100000 in
set_option maxHeartbeats 4000000 in
theorem c_X1_heardAs {l : Launch} {D : va_G} {tc : Nat → ClassId} (pk : Nat → Nat) (G : Nat → Option Nat) (I F : Nat → Nat → Int32) (n : Nat) (hn : 30 ≤ n) (j : Nat) (hj : j + 30 < n)  : AM l D tc yX1_heardAs cX1_heardAs 2 (some .int) 1 21 0 0 [.ref (j + 30), .ref 21] n (hC pk G I F) (fun v n1 h1 => n1 = n ∧ (v = some (.int 20) ∧ h1 = hC pk G (tr I 5) F)) := by
  refine am_of (L := [some (.ref (j + 30)), some (.ref 21)]) (by decide +kernel) (Nat.le_of_ble_eq_true rfl) rfl ?_
  refine aw_aload_n dX1_heardAs_0 rfl rfl ?_
  refine aw_iconst (v := 5) dX1_heardAs_1 (by decide) ?_
  refine aw_callV cw_X7_leave ml_X1_9 im_X7_leave sl_X7_X7_leave rfl (by omega) rfl (c_X7_leave pk G _ _ n hn _) ⟨Nat.le_of_ble_eq_true rfl, Nat.le_of_ble_eq_true rfl⟩ ⟨Nat.zero_le _, Nat.zero_le _⟩ rfl rfl (Nat.le_of_ble_eq_true rfl) dX1_heardAs_2 ?_
  rintro _ _ ⟨rfl, rfl⟩
  refine aw_bipush (v := (20)) dX1_heardAs_5 (by decide) ?_
  refine aw_iret dX1_heardAs_7 (Nat.zero_le _) (Nat.zero_le _) ?_
  exact ⟨rfl, rfl, rfl⟩
set_option maxRecDepth 100000 in
set_option maxHeartbeats 4000000 in
theorem c_X3_telling {l : Launch} {D : va_G} {tc : Nat → ClassId} (pk : Nat → Nat) (G : Nat → Option Nat) (I F : Nat → Nat → Int32) (n : Nat) (hn : 30 ≤ n) (j : Nat) (hj : j + 30 < n) (hc3 : pk j = 3) : AM l D tc yX3_telling cX3_telling 2 (some .int) 2 42 0 0 [.ref (j + 30), .ref 21] n (hC pk G I F) (fun v n1 h1 => n1 = n ∧ (v = some (.int (I (j + 30) 1)) ∧ h1 = hC pk G (tr I 1) F)) := by
  refine am_of (L := [some (.ref (j + 30)), some (.ref 21)]) (by decide +kernel) (Nat.le_of_ble_eq_true rfl) rfl ?_
  refine aw_aload_n dX3_telling_0 rfl rfl ?_
  refine aw_aload_n dX3_telling_1 rfl rfl ?_
  refine aw_callV cw_X3_plainTelling ml_X3_21 im_X3_plainTelling sl_X3_X3_plainTelling rfl hj (he_perc hc3) (c_X3_plainTelling pk G _ _ n hn j hj (Or.inr (Or.inl hc3))) ⟨Nat.le_of_ble_eq_true rfl, Nat.le_of_ble_eq_true rfl⟩ ⟨Nat.zero_le _, Nat.zero_le _⟩ rfl rfl (Nat.le_of_ble_eq_true rfl) dX3_telling_2 ?_
  rintro _ _ ⟨rfl, rfl⟩
  refine aw_iret dX3_telling_5 (Nat.zero_le _) (Nat.zero_le _) ?_
  exact ⟨rfl, rfl, rfl⟩
set_option maxRecDepth 100000 in
set_option maxHeartbeats 4000000 in
theorem c_X4_telling {l : Launch} {D : va_G} {tc : Nat → ClassId} (pk : Nat → Nat) (G : Nat → Option Nat) (I F : Nat → Nat → Int32) (n : Nat) (hn : 30 ≤ n) (j : Nat) (hj : j + 30 < n) (hcc : pk j = 1 ∨ pk j = 4) : AM l D tc yX4_telling cX4_telling 2 (some .int) 2 42 0 0 [.ref (j + 30), .ref 21] n (hC pk G I F) (fun v n1 h1 => n1 = n ∧ (v = some (.int (I (j + 30) 1 + 100)) ∧ h1 = hC pk G (tr (tr I 2) 1) F)) := by
  refine am_of (L := [some (.ref (j + 30)), some (.ref 21)]) (by decide +kernel) (Nat.le_of_ble_eq_true rfl) rfl ?_
  refine aw_aload_n dX4_telling_0 rfl rfl ?_
  refine aw_iconst (v := 2) dX4_telling_1 (by decide) ?_
  refine aw_callV cw_X7_leave ml_X4_9 im_X7_leave sl_X7_X7_leave rfl (by omega) rfl (c_X7_leave pk G _ _ n hn _) ⟨Nat.le_of_ble_eq_true rfl, Nat.le_of_ble_eq_true rfl⟩ ⟨Nat.zero_le _, Nat.zero_le _⟩ rfl rfl (Nat.le_of_ble_eq_true rfl) dX4_telling_2 ?_
  rintro _ _ ⟨rfl, rfl⟩
  refine aw_aload_n dX4_telling_5 rfl rfl ?_
  refine aw_aload_n dX4_telling_6 rfl rfl ?_
  rcases hcc with hc1 | hc1
  · refine aw_callO (x := ⟨"StepBack$Proud", "plainTelling", "(LStepBack$Trace;)I"⟩) (owner := RX3) cw_X3_plainTelling ml_X4_15 sa_X4_X3_plainTelling im_X3_plainTelling cd_X3_plainTelling im_X3_plainTelling so_X1_X4_plainTelling_X3_plainTelling ⟨by decide, by decide, by decide +kernel⟩ rfl hj (he_perc hc1) (c_X3_plainTelling pk G _ _ n hn j hj (Or.inl hc1)) ⟨Nat.le_of_ble_eq_true rfl, Nat.le_of_ble_eq_true rfl⟩ ⟨Nat.zero_le _, Nat.zero_le _⟩ rfl rfl (Nat.le_of_ble_eq_true rfl) dX4_telling_7 ?_
    rintro _ _ ⟨rfl, rfl⟩
    refine aw_bipush (v := (100)) dX4_telling_10 (by decide) ?_
    refine aw_iadd dX4_telling_12 ?_
    refine aw_iret dX4_telling_13 (Nat.zero_le _) (Nat.zero_le _) ?_
    refine ⟨rfl, ?_, rfl⟩
    simp [tr_p]
  · refine aw_callO (x := ⟨"StepBack$Proud", "plainTelling", "(LStepBack$Trace;)I"⟩) (owner := RX3) cw_X3_plainTelling ml_X4_15 sa_X4_X3_plainTelling im_X3_plainTelling cd_X3_plainTelling im_X3_plainTelling so_X4_X4_plainTelling_X3_plainTelling ⟨by decide, by decide, by decide +kernel⟩ rfl hj (he_perc hc1) (c_X3_plainTelling pk G _ _ n hn j hj (Or.inr (Or.inr hc1))) ⟨Nat.le_of_ble_eq_true rfl, Nat.le_of_ble_eq_true rfl⟩ ⟨Nat.zero_le _, Nat.zero_le _⟩ rfl rfl (Nat.le_of_ble_eq_true rfl) dX4_telling_7 ?_
    rintro _ _ ⟨rfl, rfl⟩
    refine aw_bipush (v := (100)) dX4_telling_10 (by decide) ?_
    refine aw_iadd dX4_telling_12 ?_
    refine aw_iret dX4_telling_13 (Nat.zero_le _) (Nat.zero_le _) ?_
    refine ⟨rfl, ?_, rfl⟩
    simp [tr_p]
set_option maxRecDepth 100000 in
set_option maxHeartbeats 4000000 in
theorem c_X1_telling {l : Launch} {D : va_G} {tc : Nat → ClassId} (pk : Nat → Nat) (G : Nat → Option Nat) (I F : Nat → Nat → Int32) (n : Nat) (hn : 30 ≤ n) (j : Nat) (hj : j + 30 < n) (hc1 : pk j = 1) : AM l D tc yX1_telling cX1_telling 3 (some .int) 3 63 0 0 [.ref (j + 30), .ref 21] n (hC pk G I F) (fun v n1 h1 => n1 = n ∧ (v = some (.int (I (j + 30) 1 + 100 + I (j + 30) 1)) ∧ h1 = hC pk G (tr (tr (tr (tr I 3) 2) 1) 1) F)) := by
  refine am_of (L := [some (.ref (j + 30)), some (.ref 21), none]) (by decide +kernel) (Nat.le_of_ble_eq_true rfl) rfl ?_
  refine aw_aload_n dX1_telling_0 rfl rfl ?_
  refine aw_iconst (v := 3) dX1_telling_1 (by decide) ?_
  refine aw_callV cw_X7_leave ml_X1_9 im_X7_leave sl_X7_X7_leave rfl (by omega) rfl (c_X7_leave pk G _ _ n hn _) ⟨Nat.le_of_ble_eq_true rfl, Nat.le_of_ble_eq_true rfl⟩ ⟨Nat.zero_le _, Nat.zero_le _⟩ rfl rfl (Nat.le_of_ble_eq_true rfl) dX1_telling_2 ?_
  rintro _ _ ⟨rfl, rfl⟩
  refine aw_aload_n dX1_telling_5 rfl rfl ?_
  refine aw_aload_n dX1_telling_6 rfl rfl ?_
  refine aw_super cw_X4_telling ml_X1_15 sa_X4_X4_telling su_X1 im_X4_telling (by decide) rfl hj (he_perc hc1) (c_X4_telling pk G _ _ n hn j hj (Or.inl hc1)) ⟨Nat.le_of_ble_eq_true rfl, Nat.le_of_ble_eq_true rfl⟩ ⟨Nat.zero_le _, Nat.zero_le _⟩ rfl rfl (Nat.le_of_ble_eq_true rfl) dX1_telling_7 ?_
  rintro _ _ ⟨rfl, rfl⟩
  refine aw_istore_n dX1_telling_10 rfl (by decide) rfl ?_
  refine aw_iload_n dX1_telling_11 rfl rfl ?_
  refine aw_aload_n dX1_telling_12 rfl rfl ?_
  refine aw_aload_n dX1_telling_13 rfl rfl ?_
  refine aw_callO (x := ⟨"StepBack$Lame", "plainTelling", "(LStepBack$Trace;)I"⟩) (owner := RX3) cw_X3_plainTelling ml_X1_19 sa_X1_X3_plainTelling im_X3_plainTelling cd_X3_plainTelling im_X3_plainTelling so_X1_X1_plainTelling_X3_plainTelling ⟨by decide, by decide, by decide +kernel⟩ rfl hj (he_perc hc1) (c_X3_plainTelling pk G _ _ n hn j hj (Or.inl hc1)) ⟨Nat.le_of_ble_eq_true rfl, Nat.le_of_ble_eq_true rfl⟩ ⟨Nat.zero_le _, Nat.zero_le _⟩ rfl rfl (Nat.le_of_ble_eq_true rfl) dX1_telling_14 ?_
  rintro _ _ ⟨rfl, rfl⟩
  refine aw_iadd dX1_telling_17 ?_
  refine aw_iret dX1_telling_18 (Nat.zero_le _) (Nat.zero_le _) ?_
  refine ⟨rfl, ?_, rfl⟩
  simp [tr_p]
def sTell (c : Nat) (x : Int32) : Int32 := if c = 3 then x else if c = 4 then x + 100 else x + 100 + x
def trTell (c : Nat) (I : Nat → Nat → Int32) : Nat → Nat → Int32 := if c = 3 then tr I 1 else if c = 4 then tr (tr I 2) 1 else tr (tr (tr (tr I 3) 2) 1) 1
section PERC
variable {l : Launch} {D : va_G} {tc : Nat → ClassId} {own : String} {cc : ByteArray} {nL : Nat} {ret : Option FieldType} {R : Room} {n0 mc ms : Nat} {Q : Option Value → Nat → aw_H → Prop} {pc : Nat} {L : List (Option Value)} {st rest : List Value} {n : Nat} {h : aw_H} {cells slots : Nat} {pk : Nat → Nat} {G : Nat → Option Nat} {I F : Nat → Nat → Int32}
set_option maxRecDepth 100000 in
set_option maxHeartbeats 4000000 in
theorem aw_kindP {j : Nat} (hp : pKind (pk j)) (hj : j + 30 < n) (hR : 1 ≤ R.frames ∧ 20 ≤ R.locals) (hc : cells ≤ R.cells ∧ slots ≤ R.slots) (hw : (rest.map fun v => v.category).sum ≤ 8) (d : decode cc pc = .ok (.invokevirtual 91, 3)) (k : AW l D tc RX8 cc nL ret R n0 mc ms Q (pc + 3) L (.int (kd (pk j)) :: rest) n (hC pk G I F) cells slots) : AW l D tc RX8 cc nL ret R n0 mc ms Q pc L (.ref (j + 30) :: rest) n (hC pk G I F) cells slots := by
  rcases hp with q | q | q
  · refine aw_callO (x := yX3_kind) (owner := RX3) (av := []) cw_X1_kind ml_X8_91 sa_X3_X3_kind im_X3_kind cd_X3_kind im_X1_kind so_X1_X3_kind_X1_kind ⟨by decide, by decide, by decide +kernel⟩ rfl hj (he_perc q) (c_X1_kind _ _ _) hR hc rfl rfl hw d ?_
    rintro _ _ ⟨rfl, rfl⟩
    rw [q] at k
    exact k
  · refine aw_callV (av := []) cw_X3_kind ml_X8_91 im_X3_kind sl_X3_X3_kind rfl hj (he_perc q) (c_X3_kind _ _ _) hR hc rfl rfl hw d ?_
    rintro _ _ ⟨rfl, rfl⟩
    rw [q] at k
    exact k
  · refine aw_callO (x := yX3_kind) (owner := RX3) (av := []) cw_X4_kind ml_X8_91 sa_X3_X3_kind im_X3_kind cd_X3_kind im_X4_kind so_X4_X3_kind_X4_kind ⟨by decide, by decide, by decide +kernel⟩ rfl hj (he_perc q) (c_X4_kind _ _ _) hR hc rfl rfl hw d ?_
    rintro _ _ ⟨rfl, rfl⟩
    rw [q] at k
    exact k
set_option maxRecDepth 100000 in
set_option maxHeartbeats 4000000 in
theorem aw_tellP (hn : 30 ≤ n) {j : Nat} (hp : pKind (pk j)) (hj : j + 30 < n) (hR : 4 ≤ R.frames ∧ 85 ≤ R.locals) (hc : cells ≤ R.cells ∧ slots ≤ R.slots) (hw : (rest.map fun v => v.category).sum ≤ 8) (d : decode cc pc = .ok (.invokevirtual 241, 3)) (k : AW l D tc RX8 cc nL ret R n0 mc ms Q (pc + 3) L (.int (sTell (pk j) (I (j + 30) 1)) :: rest) n (hC pk G (trTell (pk j) I) F) cells slots) : AW l D tc RX8 cc nL ret R n0 mc ms Q pc L (.ref 21 :: .ref (j + 30) :: rest) n (hC pk G I F) cells slots := by
  rcases hp with q | q | q
  · refine aw_callO (x := yX3_telling) (owner := RX3) (av := [.ref 21]) cw_X1_telling ml_X8_241 sa_X3_X3_telling im_X3_telling cd_X3_telling im_X1_telling so_X1_X3_telling_X1_telling ⟨by decide, by decide, by decide +kernel⟩ rfl hj (he_perc q) (c_X1_telling pk G _ _ n hn j hj q) ⟨by omega, by omega⟩ hc rfl rfl hw d ?_
    rintro _ _ ⟨rfl, rfl⟩
    rw [q] at k
    exact k
  · refine aw_callV (av := [.ref 21]) cw_X3_telling ml_X8_241 im_X3_telling sl_X3_X3_telling rfl hj (he_perc q) (c_X3_telling pk G _ _ n hn j hj q) ⟨by omega, by omega⟩ hc rfl rfl hw d ?_
    rintro _ _ ⟨rfl, rfl⟩
    rw [q] at k
    exact k
  · refine aw_callO (x := yX3_telling) (owner := RX3) (av := [.ref 21]) cw_X4_telling ml_X8_241 sa_X3_X3_telling im_X3_telling cd_X3_telling im_X4_telling so_X4_X3_telling_X4_telling ⟨by decide, by decide, by decide +kernel⟩ rfl hj (he_perc q) (c_X4_telling pk G _ _ n hn j hj (Or.inr q)) ⟨by omega, by omega⟩ hc rfl rfl hw d ?_
    rintro _ _ ⟨rfl, rfl⟩
    rw [q] at k
    exact k
def sHear (c : Nat) (x : Int32) : Int32 := if c = 1 then 20 else x
def trHear (c : Nat) (I : Nat → Nat → Int32) : Nat → Nat → Int32 := if c = 1 then tr I 5 else tr I 4
set_option maxRecDepth 100000 in
set_option maxHeartbeats 4000000 in
theorem aw_hearP (hn : 30 ≤ n) {j : Nat} (hp : pKind (pk j)) (hj : j + 30 < n) (hR : 2 ≤ R.frames ∧ 42 ≤ R.locals) (hc : cells ≤ R.cells ∧ slots ≤ R.slots) (hw : (rest.map fun v => v.category).sum ≤ 8) (d : decode cc pc = .ok (.invokevirtual 245, 3)) (k : AW l D tc RX8 cc nL ret R n0 mc ms Q (pc + 3) L (.int (sHear (pk j) (I (j + 30) 0)) :: rest) n (hC pk G (trHear (pk j) I) F) cells slots) : AW l D tc RX8 cc nL ret R n0 mc ms Q pc L (.ref 21 :: .ref (j + 30) :: rest) n (hC pk G I F) cells slots := by
  rcases hp with q | q | q
  · refine aw_callO (x := yX3_heardAs) (owner := RX3) (av := [.ref 21]) cw_X1_heardAs ml_X8_245 sa_X3_X3_heardAs im_X3_heardAs cd_X3_heardAs im_X1_heardAs so_X1_X3_heardAs_X1_heardAs ⟨by decide, by decide, by decide +kernel⟩ rfl hj (he_perc q) (c_X1_heardAs pk G _ _ n hn j hj) ⟨by omega, by omega⟩ hc rfl rfl hw d ?_
    rintro _ _ ⟨rfl, rfl⟩
    rw [q] at k
    exact k
  · refine aw_callV (av := [.ref 21]) cw_X3_heardAs ml_X8_245 im_X3_heardAs sl_X3_X3_heardAs rfl hj (he_perc q) (c_X3_heardAs pk G _ _ n hn j hj (Or.inr (Or.inl q))) ⟨by omega, by omega⟩ hc rfl rfl hw d ?_
    rintro _ _ ⟨rfl, rfl⟩
    rw [q] at k
    exact k
  · refine aw_callV (av := [.ref 21]) cw_X3_heardAs ml_X8_245 im_X3_heardAs sl_X4_X3_heardAs rfl hj (he_perc q) (c_X3_heardAs pk G _ _ n hn j hj (Or.inr (Or.inr q))) ⟨by omega, by omega⟩ hc rfl rfl hw d ?_
    rintro _ _ ⟨rfl, rfl⟩
    rw [q] at k
    exact k
end PERC
