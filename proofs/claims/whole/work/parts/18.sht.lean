/-! sheets -/
section CPY
variable {l : Launch} {D : va_G} {tc : Nat → ClassId} {own : String} {cc : ByteArray} {nL : Nat} {ret : Option FieldType} {R : Room} {n0 mc ms : Nat} {Q : Option Value → Nat → aw_H → Prop} {pc : Nat} {L : List (Option Value)} {st rest : List Value} {n : Nat} {cells slots : Nat} {ent : Nat → (Nat → Int32) → (Nat → Int32) → va_E} {I F : Nat → Nat → Int32}
theorem aw_copy {o1 o2 len idx : Nat} {i j m : Int32} (hl : Cond.methodLink own idx arraycopyName ∈ aw_gw) (hR : 1 ≤ R.frames ∧ 30 ≤ R.locals) (hw : (rest.map fun v => v.category).sum ≤ 8) (d : decode cc pc = .ok (.invokestatic idx, 3)) (ho1 : o1 < n) (ho2 : o2 < n) (he1 : st_h ent I F o1 = .inl (0, len, .inl (F o1))) (he2 : st_h ent I F o2 = .inl (0, len, .inl (F o2))) (hh : ∀ g, ent o2 (I o2) g = .inl (0, len, .inl g)) (h1 : ¬ i < 0) (h2 : ¬ j < 0) (h3 : ¬ m < 0) (h4 : i.toNatClampNeg + m.toNatClampNeg ≤ len) (h5 : j.toNatClampNeg + m.toNatClampNeg ≤ len) (k : AW l D tc own cc nL ret R n0 mc ms Q (pc + 3) L rest n (st_h ent I (st_F F o2 (va_cpy (F o1) (F o2) i.toNatClampNeg j.toNatClampNeg m.toNatClampNeg))) cells slots) : AW l D tc own cc nL ret R n0 mc ms Q pc L (.int m :: .int j :: .ref o2 :: .int i :: .ref o1 :: rest) n (st_h ent I F) cells slots := by
  intro p e s m9 args below meth c H locs ls A ad ad0 X Y
  have hw1 := aw_ws_at (tc := tc) (ad := ad) (h := st_h ent I F) ho1
  rw [he1] at hw1
  have hw2 := aw_ws_at (tc := tc) (ad := ad) (h := st_h ent I F) ho2
  rw [he2] at hw2
  refine va_copyi X.1 X.2.1 (X.2.2.2.1.trans Y.2.2.2.2.2.1.symm) X.2.2.2.2.1 (X.2.2.2.2.2.1 _ hl) (X.2.2.2.2.2.1 _ nt_arraycopy) (X.2.2.2.2.2.1 _ sm_J10_arraycopy) (X.2.2.2.2.2.1 _ in_J10) X.2.2.2.2.2.2.2.1.1 Y.2.2.1 Y.2.2.2.1 Y.2.2.2.2.1 o1 o2 0 0 hw1 hw2 rfl rfl rfl h1 h2 h3 h4 h5 (fun _ _ => rfl) hR.1 (by rw [aw_cats]; show _ + (7 + 11) ≤ _; omega) d (fun H1 locs1 hP1 hD1 hS1 => ?_)
  have hset : (aw_ws tc ad n (st_h ent I F)).set o2 (ad o2, .inl (tc 0, len, .inl (va_cpy (F o1) (F o2) i.toNatClampNeg j.toNatClampNeg m.toNatClampNeg))) = aw_ws tc ad n (aw_up (st_h ent I F) o2 (.inl (0, len, .inl (va_cpy (F o1) (F o2) i.toNatClampNeg j.toNatClampNeg m.toNatClampNeg)))) := (aw_ws_set (e := .inl (0, len, .inl (va_cpy (F o1) (F o2) i.toNatClampNeg j.toNatClampNeg m.toNatClampNeg))))
  rw [st_hF (hh _)] at hset
  have hP1 := (show va_P D vwCl (aw_ws tc ad n _) H1 by rw [← hset]; exact hP1)
  have hD1 := (show va_D A (aw_ws tc ad n _) by rw [← hset]; exact hD1)
  exact k p e s m9 args below meth c H1 locs1 ls A ad ad0 X ⟨Y.1, Y.2.1, hP1, hD1, hS1, Y.2.2.2.2.2⟩
end CPY
def anF (c : Nat) (rd : Nat → Int32) : Nat → Bool
  | 0 => true
  | n + 1 => anF c rd n && sP c (rd n)
theorem anF_no {c : Nat} {rd : Nat → Int32} {k m : Nat} (hk : k < m) (h : sP c (rd k) = false) : anF c rd m = false := by
  induction m with
  | zero => omega
  | succ m ih =>
    rw [anF]
    by_cases e : k = m
    · subst e; simp [h]
    · simp [ih (by omega)]
theorem anF_yes {c : Nat} {rd : Nat → Int32} {m : Nat} (h : anF c rd m = true) : ∀ k, k < m → sP c (rd k) = true := by
  intro k hk
  cases q : sP c (rd k)
  · rw [anF_no hk q] at h; cases h
  · rfl
def goN (th : Int32) (my : Nat → Int32) (f h : Int32) (c : Nat) : Int32 := sumN (fun p => if sHas th (nI p) && !decide (nI p = h) && !decide (my p ≤ f) then 1 else 0) c
def ctN (th : Int32) (my : Nat → Int32) (pp tt : Nat → Int32) : Nat → Nat → Int32 → Int32 → Option Nat × Int32 × Int32
  | _, 0, f, h => (none, f, h)
  | k, m + 1, f, h => if sHas th (pp k) && !decide (my (pp k).toNatClampNeg < tt k) && decide (f < tt k) then ctN th my pp tt (k + 1) m (tt k) (pp k) else (some k, f, h)
def ctR (th : Int32) (my : Nat → Int32) (c : Nat) (w : Int32) (q : Option Nat × Int32 × Int32) : Int32 := match q with
  | (some k, _, _) => if w = 1 then nI k else -100 - nI k
  | (none, f, h) => if w = 0 then f else if w = 1 then -9 else if w = 2 then h else goN th my f h c
theorem sumN_c {f g : Nat → Int32} : ∀ (c : Nat), (∀ i, i < c → f i = g i) → sumN f c = sumN g c
  | 0, _ => rfl
  | c + 1, h => by rw [sumN, sumN, sumN_c c (fun i hi => h i (by omega)), h c (by omega)]
theorem goN_c {th f h : Int32} {my my' : Nat → Int32} (c : Nat) (hm : ∀ i, i < c → my i = my' i) : goN th my f h c = goN th my' f h c := sumN_c c (fun i hi => by simp only [hm i hi])

set_option maxRecDepth 100000 in
set_option maxHeartbeats 4000000 in
theorem c_X8_sheet_no {l : Launch} {D : va_G} {tc : Nat → ClassId} (pk : Nat → Nat) (G : Nat → Option Nat) (I F : Nat → Nat → Int32) (n : Nat) (hn : 30 ≤ n) (J : Nat → Nat → Int32) (hJ : J = st_I I 0 11 0) {x : Int32} (hx : sP 4 x = false) (a : Int32) (m : Int32) : AM l D tc yX8_sheet cX8_sheet 5 (some .int) 2 44 0 0 [.ref 0, .int x, .int a, .int m] n (hC pk G I F) (fun v n1 h1 => n1 = n ∧ (v = some (.int (-1)) ∧ h1 = hC pk G J F)) := by
  refine am_of (L := [some (.ref 0), some (.int x), some (.int a), some (.int m), none]) (by decide +kernel) (Nat.le_of_ble_eq_true rfl) rfl ?_
  refine aw_aload_n dX8_sheet_0 rfl rfl ?_
  refine aw_iconst (v := 0) dX8_sheet_1 (by decide) ?_
  refine aw_putI fp_X8_56_8 dX8_sheet_2 (by omega) rfl rfl rfl (Nat.le_of_ble_eq_true rfl) rfl hJ.symm ?_
  clear hJ
  refine aw_aload_n dX8_sheet_5 rfl rfl ?_
  refine aw_iload_n dX8_sheet_6 rfl rfl ?_
  refine aw_callV cw_X8_sheetAt ml_X8_60 im_X8_sheetAt sl_X8_X8_sheetAt rfl (by omega) rfl (c_X8_sheetAt_no pk G _ _ n hn hx) ⟨Nat.le_of_ble_eq_true rfl, Nat.le_of_ble_eq_true rfl⟩ ⟨Nat.zero_le _, Nat.zero_le _⟩ rfl rfl (Nat.le_of_ble_eq_true rfl) dX8_sheet_7 ?_
  rintro _ _ ⟨rfl, rfl⟩
  refine aw_astoreN dX8_sheet_10 (by decide) rfl ?_
  refine aw_aloadN dX8_sheet_12 rfl ?_
  refine aw_ifnonnullN dX8_sheet_14 ?_
  refine aw_iconst (v := (-1)) dX8_sheet_17 (by decide) ?_
  refine aw_iret dX8_sheet_18 (Nat.zero_le _) (Nat.zero_le _) ?_
  exact ⟨rfl, rfl, rfl⟩
set_option maxRecDepth 100000 in
set_option maxHeartbeats 4000000 in
theorem c_X8_sheet {l : Launch} {D : va_G} {tc : Nat → ClassId} (pk : Nat → Nat) (G : Nat → Option Nat) (I F : Nat → Nat → Int32) (n : Nat) (hn : 30 ≤ n) (J : Nat → Nat → Int32) (hJ : J = st_I I 0 11 0) {k : Nat} (hk : k < 4) (a m : Int32) : AM l D tc yX8_sheet cX8_sheet 5 (some .int) 2 44 0 0 [.ref 0, .int (nI k), .int a, .int m] n (hC pk G I F) (fun v n1 h1 => n1 = n ∧ (v = some (.int (if (sW a 0 2 && decide (m ≤ 60)) then (if 0 ≤ m then 1 else -14) else -2)) ∧ h1 = hC pk G (if (sW a 0 2 && decide (m ≤ 60)) then (if 0 ≤ m then rnI J k a m else st_I J 0 11 4) else J) (if (sW a 0 2 && decide (m ≤ 60)) then (if 0 ≤ m then st_F F (26 + k) (zr (F (26 + k)) m.toNatClampNeg) else F) else F))) := by
  refine am_of (L := [some (.ref 0), some (.int (nI k)), some (.int a), some (.int m), none]) (by decide +kernel) (Nat.le_of_ble_eq_true rfl) rfl ?_
  refine aw_aload_n dX8_sheet_0 rfl rfl ?_
  refine aw_iconst (v := 0) dX8_sheet_1 (by decide) ?_
  refine aw_putI fp_X8_56_8 dX8_sheet_2 (by omega) rfl rfl rfl (Nat.le_of_ble_eq_true rfl) rfl hJ.symm ?_
  clear hJ
  refine aw_aload_n dX8_sheet_5 rfl rfl ?_
  refine aw_iload_n dX8_sheet_6 rfl rfl ?_
  refine aw_callV cw_X8_sheetAt ml_X8_60 im_X8_sheetAt sl_X8_X8_sheetAt rfl (by omega) rfl (c_X8_sheetAt pk G _ _ n hn hk) ⟨Nat.le_of_ble_eq_true rfl, Nat.le_of_ble_eq_true rfl⟩ ⟨Nat.zero_le _, Nat.zero_le _⟩ rfl rfl (Nat.le_of_ble_eq_true rfl) dX8_sheet_7 ?_
  rintro _ _ ⟨rfl, rfl⟩
  refine aw_astore dX8_sheet_10 (by decide) rfl ?_
  refine aw_aload dX8_sheet_12 rfl ?_
  refine aw_ifnonnull (tgt := 19) dX8_sheet_14 (by decide) ?_
  refine aw_iload_n dX8_sheet_19 rfl rfl ?_
  refine aw_callS cw_X8_isLane ml_X8_64 sm_X8_isLane (c_X8_isLane _ _ _) ⟨Nat.le_of_ble_eq_true rfl, Nat.le_of_ble_eq_true rfl⟩ ⟨Nat.zero_le _, Nat.zero_le _⟩ rfl rfl (Nat.le_of_ble_eq_true rfl) dX8_sheet_20 ?_
  rintro _ _ ⟨rfl, rfl⟩
  refine aw_ifB_eq (tgt := 32) dX8_sheet_23 (by decide) (fun c_23 => ?_) (fun c_23 => ?_)
  · refine aw_bipush (v := (-2)) dX8_sheet_32 (by decide) ?_
    refine aw_iret dX8_sheet_34 (Nat.zero_le _) (Nat.zero_le _) ?_
    refine ⟨rfl, ?_, ?_⟩ <;> first | (simp [*]; done) | (simp_all; done)
  · refine aw_iload_n dX8_sheet_26 rfl rfl ?_
    refine aw_bipush (v := (60)) dX8_sheet_27 (by decide) ?_
    refine aw_icmp_le (tgt := 35) dX8_sheet_29 (by decide) (fun c_29 => ?_) (fun c_29 => ?_)
    · refine aw_iload_n dX8_sheet_35 rfl rfl ?_
      refine aw_if_ge (tgt := 45) dX8_sheet_36 (by decide) (fun c_36 => ?_) (fun c_36 => ?_)
      · refine aw_aload dX8_sheet_45 rfl ?_
        refine aw_iload_n dX8_sheet_47 rfl rfl ?_
        refine aw_iload_n dX8_sheet_48 rfl rfl ?_
        obtain ⟨z, hz, rfl⟩ : ∃ z : Nat, z ≤ 60 ∧ m = nI z := nI_of2 (M := 60) (by decide) (Int32.not_lt.mpr c_36) c_29
        refine aw_callV cw_X6_renew ml_X8_212 im_X6_renew sl_X6_X6_renew rfl (by omega) (entC_row _ _ hk _ _) (c_X6_renew pk G _ _ n hn _ hk _ hz) ⟨Nat.le_of_ble_eq_true rfl, Nat.le_of_ble_eq_true rfl⟩ ⟨Nat.zero_le _, Nat.zero_le _⟩ rfl rfl (Nat.le_of_ble_eq_true rfl) dX8_sheet_49 ?_
        rintro _ _ ⟨rfl, rfl⟩
        refine aw_iconst (v := 1) dX8_sheet_52 (by decide) ?_
        refine aw_iret dX8_sheet_53 (Nat.zero_le _) (Nat.zero_le _) ?_
        have e1 : (sW a 0 2 && decide (nI z ≤ 60)) = true := by simp [*]
        rw [if_pos e1, if_pos e1, if_pos e1, if_pos c_36, if_pos c_36, if_pos c_36, nI_clamp (by omega)]
        exact ⟨rfl, rfl, rfl⟩
      · refine aw_aload_n dX8_sheet_39 rfl rfl ?_
        refine aw_iconst (v := 4) dX8_sheet_40 (by decide) ?_
        refine aw_callV cw_X8_faulted ml_X8_72 im_X8_faulted sl_X8_X8_faulted rfl (by omega) rfl (c_X8_faulted pk G _ _ n hn _) ⟨Nat.le_of_ble_eq_true rfl, Nat.le_of_ble_eq_true rfl⟩ ⟨Nat.zero_le _, Nat.zero_le _⟩ rfl rfl (Nat.le_of_ble_eq_true rfl) dX8_sheet_41 ?_
        rintro _ _ ⟨rfl, rfl⟩
        refine aw_iret dX8_sheet_44 (Nat.zero_le _) (Nat.zero_le _) ?_
        refine ⟨rfl, ?_, ?_⟩ <;> first | (simp [*]; done) | (simp_all; done)
    · refine aw_bipush (v := (-2)) dX8_sheet_32 (by decide) ?_
      refine aw_iret dX8_sheet_34 (Nat.zero_le _) (Nat.zero_le _) ?_
      refine ⟨rfl, ?_, ?_⟩ <;> first | (simp [*]; done) | (simp_all; done)
set_option maxRecDepth 100000 in
set_option maxHeartbeats 4000000 in
theorem c_X8_lose_no {l : Launch} {D : va_G} {tc : Nat → ClassId} (pk : Nat → Nat) (G : Nat → Option Nat) (I F : Nat → Nat → Int32) (n : Nat) (hn : 30 ≤ n) {x : Int32} (hx : sP 4 x = false) : AM l D tc yX8_lose cX8_lose 4 (some .int) 1 21 0 0 [.ref 0, .int x] n (hC pk G I F) (fun v n1 h1 => n1 = n ∧ (v = some (.int (-1)) ∧ h1 = hC pk G I F)) := by
  refine am_of (L := [some (.ref 0), some (.int x), none, none]) (by decide +kernel) (Nat.le_of_ble_eq_true rfl) rfl ?_
  refine aw_aload_n dX8_lose_0 rfl rfl ?_
  refine aw_iload_n dX8_lose_1 rfl rfl ?_
  refine aw_callV cw_X8_sheetAt ml_X8_60 im_X8_sheetAt sl_X8_X8_sheetAt rfl (by omega) rfl (c_X8_sheetAt_no pk G _ _ n hn hx) ⟨Nat.le_of_ble_eq_true rfl, Nat.le_of_ble_eq_true rfl⟩ ⟨Nat.zero_le _, Nat.zero_le _⟩ rfl rfl (Nat.le_of_ble_eq_true rfl) dX8_lose_2 ?_
  rintro _ _ ⟨rfl, rfl⟩
  refine aw_astore_nN dX8_lose_5 rfl (by decide) rfl ?_
  refine aw_aload_nN dX8_lose_6 rfl rfl ?_
  refine aw_ifnonnullN dX8_lose_7 ?_
  refine aw_iconst (v := (-1)) dX8_lose_10 (by decide) ?_
  refine aw_iret dX8_lose_11 (Nat.zero_le _) (Nat.zero_le _) ?_
  exact ⟨rfl, rfl, rfl⟩
set_option maxRecDepth 100000 in
set_option maxHeartbeats 4000000 in
theorem c_X8_lose {l : Launch} {D : va_G} {tc : Nat → ClassId} (pk : Nat → Nat) (G : Nat → Option Nat) (I F : Nat → Nat → Int32) (n : Nat) (hn : 30 ≤ n) {k : Nat} (hk : k < 4) : AM l D tc yX8_lose cX8_lose 4 (some .int) 1 21 0 0 [.ref 0, .int (nI k)] n (hC pk G I F) (fun v n1 h1 => n1 = n ∧ (v = some (.int (if I (22 + k) 1 = 0 then 0 else 1)) ∧ h1 = hC pk G (st_I I (22 + k) 1 0) F)) := by
  refine am_of (L := [some (.ref 0), some (.int (nI k)), none, none]) (by decide +kernel) (Nat.le_of_ble_eq_true rfl) rfl ?_
  refine aw_aload_n dX8_lose_0 rfl rfl ?_
  refine aw_iload_n dX8_lose_1 rfl rfl ?_
  refine aw_callV cw_X8_sheetAt ml_X8_60 im_X8_sheetAt sl_X8_X8_sheetAt rfl (by omega) rfl (c_X8_sheetAt pk G _ _ n hn hk) ⟨Nat.le_of_ble_eq_true rfl, Nat.le_of_ble_eq_true rfl⟩ ⟨Nat.zero_le _, Nat.zero_le _⟩ rfl rfl (Nat.le_of_ble_eq_true rfl) dX8_lose_2 ?_
  rintro _ _ ⟨rfl, rfl⟩
  refine aw_astore_n dX8_lose_5 rfl (by decide) rfl ?_
  refine aw_aload_n dX8_lose_6 rfl rfl ?_
  refine aw_ifnonnull (tgt := 12) dX8_lose_7 (by decide) ?_
  refine aw_aload_n dX8_lose_12 rfl rfl ?_
  refine aw_get fd_X8_216_6 dX8_lose_13 (by omega) (entC_row _ _ hk _ _) rfl ?_
  refine aw_if_eq (tgt := 23) dX8_lose_16 (by decide) (fun c_16 => ?_) (fun c_16 => ?_)
  · refine aw_iconst (v := 0) dX8_lose_23 (by decide) ?_
    refine aw_istore_n dX8_lose_24 rfl (by decide) rfl ?_
    refine aw_aload_n dX8_lose_25 rfl rfl ?_
    refine aw_iconst (v := 0) dX8_lose_26 (by decide) ?_
    refine aw_puti fp_X8_216_6 dX8_lose_27 (by omega) (entC_row _ _ hk _ _) rfl rfl (Nat.le_of_ble_eq_true rfl) (entC_row _ _ hk _ _) ?_
    refine aw_iload_n dX8_lose_30 rfl rfl ?_
    refine aw_iret dX8_lose_31 (Nat.zero_le _) (Nat.zero_le _) ?_
    refine ⟨rfl, ?_, rfl⟩
    simp [*]
  · refine aw_iconst (v := 1) dX8_lose_19 (by decide) ?_
    refine aw_goto (tgt := 24) dX8_lose_20 (by decide) ?_
    refine aw_istore_n dX8_lose_24 rfl (by decide) rfl ?_
    refine aw_aload_n dX8_lose_25 rfl rfl ?_
    refine aw_iconst (v := 0) dX8_lose_26 (by decide) ?_
    refine aw_puti fp_X8_216_6 dX8_lose_27 (by omega) (entC_row _ _ hk _ _) rfl rfl (Nat.le_of_ble_eq_true rfl) (entC_row _ _ hk _ _) ?_
    refine aw_iload_n dX8_lose_30 rfl rfl ?_
    refine aw_iret dX8_lose_31 (Nat.zero_le _) (Nat.zero_le _) ?_
    refine ⟨rfl, ?_, rfl⟩
    simp [*]
set_option maxRecDepth 100000 in
set_option maxHeartbeats 4000000 in
theorem c_X8_put_no {l : Launch} {D : va_G} {tc : Nat → ClassId} (pk : Nat → Nat) (G : Nat → Option Nat) (I F : Nat → Nat → Int32) (n : Nat) (hn : 30 ≤ n) (J : Nat → Nat → Int32) (hJ : J = st_I I 0 11 0) {x : Int32} (hx : sP 4 x = false) (i : Int32) (m : Int32) : AM l D tc yX8_put cX8_put 6 (some .int) 2 45 0 0 [.ref 0, .int x, .int i, .int m] n (hC pk G I F) (fun v n1 h1 => n1 = n ∧ (v = some (.int (-1)) ∧ h1 = hC pk G J F)) := by
  refine am_of (L := [some (.ref 0), some (.int x), some (.int i), some (.int m), none, none]) (by decide +kernel) (Nat.le_of_ble_eq_true rfl) rfl ?_
  refine aw_aload_n dX8_put_0 rfl rfl ?_
  refine aw_iconst (v := 0) dX8_put_1 (by decide) ?_
  refine aw_putI fp_X8_56_8 dX8_put_2 (by omega) rfl rfl rfl (Nat.le_of_ble_eq_true rfl) rfl hJ.symm ?_
  clear hJ
  refine aw_aload_n dX8_put_5 rfl rfl ?_
  refine aw_iload_n dX8_put_6 rfl rfl ?_
  refine aw_callV cw_X8_sheetAt ml_X8_60 im_X8_sheetAt sl_X8_X8_sheetAt rfl (by omega) rfl (c_X8_sheetAt_no pk G _ _ n hn hx) ⟨Nat.le_of_ble_eq_true rfl, Nat.le_of_ble_eq_true rfl⟩ ⟨Nat.zero_le _, Nat.zero_le _⟩ rfl rfl (Nat.le_of_ble_eq_true rfl) dX8_put_7 ?_
  rintro _ _ ⟨rfl, rfl⟩
  refine aw_astoreN dX8_put_10 (by decide) rfl ?_
  refine aw_aloadN dX8_put_12 rfl ?_
  refine aw_ifnonnullN dX8_put_14 ?_
  refine aw_iconst (v := (-1)) dX8_put_17 (by decide) ?_
  refine aw_iret dX8_put_18 (Nat.zero_le _) (Nat.zero_le _) ?_
  exact ⟨rfl, rfl, rfl⟩
set_option maxRecDepth 100000 in
set_option maxHeartbeats 4000000 in
theorem c_X8_put {l : Launch} {D : va_G} {tc : Nat → ClassId} (pk : Nat → Nat) (G : Nat → Option Nat) (I F : Nat → Nat → Int32) (n : Nat) (hn : 30 ≤ n) (J : Nat → Nat → Int32) (hJ : J = st_I I 0 11 0) {k : Nat} (hk : k < 4) {z : Nat} (hz : z ≤ 60) (hI : J (22 + k) 3 = nI z) (i m : Int32) : AM l D tc yX8_put cX8_put 6 (some .int) 2 45 0 0 [.ref 0, .int (nI k), .int i, .int m] n (hC pk G I F) (fun v n1 h1 => n1 = n ∧ (v = some (.int (if (sFt (J (22 + k) 1) (J (22 + k) 2) (J (22 + k) 3) (J (22 + k) 2) i 1) = 0 then 1 else -10 - (sFt (J (22 + k) 1) (J (22 + k) 2) (J (22 + k) 3) (J (22 + k) 2) i 1))) ∧ h1 = hC pk G (if (sFt (J (22 + k) 1) (J (22 + k) 2) (J (22 + k) 3) (J (22 + k) 2) i 1) = 0 then J else st_I J 0 11 (sFt (J (22 + k) 1) (J (22 + k) 2) (J (22 + k) 3) (J (22 + k) 2) i 1)) (if (sFt (J (22 + k) 1) (J (22 + k) 2) (J (22 + k) 3) (J (22 + k) 2) i 1) = 0 then (if sHasC (J (22 + k) 3) i 1 then st_F F (26 + k) (upd (F (26 + k)) i.toNatClampNeg (sCut (J (22 + k) 2) m)) else F) else F))) := by
  refine am_of (L := [some (.ref 0), some (.int (nI k)), some (.int i), some (.int m), none, none]) (by decide +kernel) (Nat.le_of_ble_eq_true rfl) rfl ?_
  refine aw_aload_n dX8_put_0 rfl rfl ?_
  refine aw_iconst (v := 0) dX8_put_1 (by decide) ?_
  refine aw_putI fp_X8_56_8 dX8_put_2 (by omega) rfl rfl rfl (Nat.le_of_ble_eq_true rfl) rfl hJ.symm ?_
  clear hJ
  refine aw_aload_n dX8_put_5 rfl rfl ?_
  refine aw_iload_n dX8_put_6 rfl rfl ?_
  refine aw_callV cw_X8_sheetAt ml_X8_60 im_X8_sheetAt sl_X8_X8_sheetAt rfl (by omega) rfl (c_X8_sheetAt pk G _ _ n hn hk) ⟨Nat.le_of_ble_eq_true rfl, Nat.le_of_ble_eq_true rfl⟩ ⟨Nat.zero_le _, Nat.zero_le _⟩ rfl rfl (Nat.le_of_ble_eq_true rfl) dX8_put_7 ?_
  rintro _ _ ⟨rfl, rfl⟩
  refine aw_astore dX8_put_10 (by decide) rfl ?_
  refine aw_aload dX8_put_12 rfl ?_
  refine aw_ifnonnull (tgt := 19) dX8_put_14 (by decide) ?_
  refine aw_aload dX8_put_19 rfl ?_
  refine aw_aload dX8_put_21 rfl ?_
  refine aw_get fd_X8_220_6 dX8_put_23 (by omega) (entC_row _ _ hk _ _) rfl ?_
  refine aw_iload_n dX8_put_26 rfl rfl ?_
  refine aw_iconst (v := 1) dX8_put_27 (by decide) ?_
  refine aw_callS cw_X8_faultOfTaking ml_X8_68 sm_X8_faultOfTaking (c_X8_faultOfTaking pk G _ _ n hn hk _ _ _) ⟨Nat.le_of_ble_eq_true rfl, Nat.le_of_ble_eq_true rfl⟩ ⟨Nat.zero_le _, Nat.zero_le _⟩ rfl rfl (Nat.le_of_ble_eq_true rfl) dX8_put_28 ?_
  rintro _ _ ⟨rfl, rfl⟩
  refine aw_istore dX8_put_31 (by decide) rfl ?_
  refine aw_iload dX8_put_33 rfl ?_
  refine aw_if_eq (tgt := 45) dX8_put_35 (by decide) (fun c_35 => ?_) (fun c_35 => ?_)
  · refine aw_aload dX8_put_45 rfl ?_
    refine aw_iload_n dX8_put_47 rfl rfl ?_
    refine aw_iload_n dX8_put_48 rfl rfl ?_
    refine aw_callV cw_X6_write ml_X8_223 im_X6_write sl_X6_X6_write rfl (by omega) (entC_row _ _ hk _ _) (c_X6_write pk G _ _ n hn _ hk hz hI _ _) ⟨Nat.le_of_ble_eq_true rfl, Nat.le_of_ble_eq_true rfl⟩ ⟨Nat.zero_le _, Nat.zero_le _⟩ rfl rfl (Nat.le_of_ble_eq_true rfl) dX8_put_49 ?_
    rintro _ _ ⟨rfl, rfl⟩
    refine aw_iconst (v := 1) dX8_put_52 (by decide) ?_
    refine aw_iret dX8_put_53 (Nat.zero_le _) (Nat.zero_le _) ?_
    refine ⟨rfl, ?_, ?_⟩
    · first | rw [if_pos c_35] | rw [if_neg c_35]
    · first | (rw [if_pos c_35, if_pos c_35]) | (rw [if_neg c_35, if_neg c_35])
  · refine aw_aload_n dX8_put_38 rfl rfl ?_
    refine aw_iload dX8_put_39 rfl ?_
    refine aw_callV cw_X8_faulted ml_X8_72 im_X8_faulted sl_X8_X8_faulted rfl (by omega) rfl (c_X8_faulted pk G _ _ n hn _) ⟨Nat.le_of_ble_eq_true rfl, Nat.le_of_ble_eq_true rfl⟩ ⟨Nat.zero_le _, Nat.zero_le _⟩ rfl rfl (Nat.le_of_ble_eq_true rfl) dX8_put_41 ?_
    rintro _ _ ⟨rfl, rfl⟩
    refine aw_iret dX8_put_44 (Nat.zero_le _) (Nat.zero_le _) ?_
    refine ⟨rfl, ?_, ?_⟩
    · first | rw [if_pos c_35] | rw [if_neg c_35]
    · first | (rw [if_pos c_35, if_pos c_35]) | (rw [if_neg c_35, if_neg c_35])
set_option maxRecDepth 100000 in
set_option maxHeartbeats 4000000 in
theorem c_X8_cell_no {l : Launch} {D : va_G} {tc : Nat → ClassId} (pk : Nat → Nat) (G : Nat → Option Nat) (I F : Nat → Nat → Int32) (n : Nat) (hn : 30 ≤ n) (J : Nat → Nat → Int32) (hJ : J = st_I I 0 11 0) {x : Int32} (hx : sP 4 x = false) (i : Int32) (a : Int32) : AM l D tc yX8_cell cX8_cell 5 (some .long) 2 45 0 0 [.ref 0, .int x, .int i, .int a] n (hC pk G I F) (fun v n1 h1 => n1 = n ∧ (v = some (.long (-9223372036854775808)) ∧ h1 = hC pk G J F)) := by
  refine am_of (L := [some (.ref 0), some (.int x), some (.int i), some (.int a), none]) (by decide +kernel) (Nat.le_of_ble_eq_true rfl) rfl ?_
  refine aw_aload_n dX8_cell_0 rfl rfl ?_
  refine aw_iconst (v := 0) dX8_cell_1 (by decide) ?_
  refine aw_putI fp_X8_56_8 dX8_cell_2 (by omega) rfl rfl rfl (Nat.le_of_ble_eq_true rfl) rfl hJ.symm ?_
  clear hJ
  refine aw_aload_n dX8_cell_5 rfl rfl ?_
  refine aw_iload_n dX8_cell_6 rfl rfl ?_
  refine aw_callV cw_X8_sheetAt ml_X8_60 im_X8_sheetAt sl_X8_X8_sheetAt rfl (by omega) rfl (c_X8_sheetAt_no pk G _ _ n hn hx) ⟨Nat.le_of_ble_eq_true rfl, Nat.le_of_ble_eq_true rfl⟩ ⟨Nat.zero_le _, Nat.zero_le _⟩ rfl rfl (Nat.le_of_ble_eq_true rfl) dX8_cell_7 ?_
  rintro _ _ ⟨rfl, rfl⟩
  refine aw_astoreN dX8_cell_10 (by decide) rfl ?_
  refine aw_aloadN dX8_cell_12 rfl ?_
  refine aw_ifnullN (tgt := 24) dX8_cell_14 (by decide) ?_
  refine aw_ldc2 dX8_cell_24 ct_X8_210 ?_
  refine aw_lret dX8_cell_27 (Nat.zero_le _) (Nat.zero_le _) ?_
  exact ⟨rfl, rfl, rfl⟩
set_option maxRecDepth 100000 in
set_option maxHeartbeats 4000000 in
theorem c_X8_cell {l : Launch} {D : va_G} {tc : Nat → ClassId} (pk : Nat → Nat) (G : Nat → Option Nat) (I F : Nat → Nat → Int32) (n : Nat) (hn : 30 ≤ n) (J : Nat → Nat → Int32) (hJ : J = st_I I 0 11 0) {k : Nat} (hk : k < 4) {z : Nat} (hz : z ≤ 60) (hI : J (22 + k) 3 = nI z) (i a : Int32) : AM l D tc yX8_cell cX8_cell 5 (some .long) 2 45 0 0 [.ref 0, .int (nI k), .int i, .int a] n (hC pk G I F) (fun v n1 h1 => n1 = n ∧ (v = some (.long (if sW a 0 2 then (if (sFt (J (22 + k) 1) (J (22 + k) 2) (J (22 + k) 3) a i 1) = 0 then (sRead (J (22 + k) 3) (F (26 + k)) i).toInt64 else -9223372036854775808) else -9223372036854775808)) ∧ h1 = hC pk G (if sW a 0 2 then st_I J 0 11 (sFt (J (22 + k) 1) (J (22 + k) 2) (J (22 + k) 3) a i 1) else J) F)) := by
  refine am_of (L := [some (.ref 0), some (.int (nI k)), some (.int i), some (.int a), none]) (by decide +kernel) (Nat.le_of_ble_eq_true rfl) rfl ?_
  refine aw_aload_n dX8_cell_0 rfl rfl ?_
  refine aw_iconst (v := 0) dX8_cell_1 (by decide) ?_
  refine aw_putI fp_X8_56_8 dX8_cell_2 (by omega) rfl rfl rfl (Nat.le_of_ble_eq_true rfl) rfl hJ.symm ?_
  clear hJ
  refine aw_aload_n dX8_cell_5 rfl rfl ?_
  refine aw_iload_n dX8_cell_6 rfl rfl ?_
  refine aw_callV cw_X8_sheetAt ml_X8_60 im_X8_sheetAt sl_X8_X8_sheetAt rfl (by omega) rfl (c_X8_sheetAt pk G _ _ n hn hk) ⟨Nat.le_of_ble_eq_true rfl, Nat.le_of_ble_eq_true rfl⟩ ⟨Nat.zero_le _, Nat.zero_le _⟩ rfl rfl (Nat.le_of_ble_eq_true rfl) dX8_cell_7 ?_
  rintro _ _ ⟨rfl, rfl⟩
  refine aw_astore dX8_cell_10 (by decide) rfl ?_
  refine aw_aload dX8_cell_12 rfl ?_
  refine aw_ifnull dX8_cell_14 ?_
  refine aw_iload_n dX8_cell_17 rfl rfl ?_
  refine aw_callS cw_X8_isLane ml_X8_64 sm_X8_isLane (c_X8_isLane _ _ _) ⟨Nat.le_of_ble_eq_true rfl, Nat.le_of_ble_eq_true rfl⟩ ⟨Nat.zero_le _, Nat.zero_le _⟩ rfl rfl (Nat.le_of_ble_eq_true rfl) dX8_cell_18 ?_
  rintro _ _ ⟨rfl, rfl⟩
  refine aw_ifB_ne (tgt := 28) dX8_cell_21 (by decide) (fun c_21 => ?_) (fun c_21 => ?_)
  · refine aw_aload_n dX8_cell_28 rfl rfl ?_
    refine aw_aload dX8_cell_29 rfl ?_
    refine aw_iload_n dX8_cell_31 rfl rfl ?_
    refine aw_iload_n dX8_cell_32 rfl rfl ?_
    refine aw_iconst (v := 1) dX8_cell_33 (by decide) ?_
    refine aw_callS cw_X8_faultOfTaking ml_X8_68 sm_X8_faultOfTaking (c_X8_faultOfTaking pk G _ _ n hn hk _ _ _) ⟨Nat.le_of_ble_eq_true rfl, Nat.le_of_ble_eq_true rfl⟩ ⟨Nat.zero_le _, Nat.zero_le _⟩ rfl rfl (Nat.le_of_ble_eq_true rfl) dX8_cell_34 ?_
    rintro _ _ ⟨rfl, rfl⟩
    refine aw_puti fp_X8_56_8 dX8_cell_37 (by omega) rfl rfl rfl (Nat.le_of_ble_eq_true rfl) rfl ?_
    refine aw_aload_n dX8_cell_40 rfl rfl ?_
    refine aw_get fd_X8_56_8 dX8_cell_41 (by omega) rfl rfl ?_
    rw [show st_I J 0 11 (sFt (J (22 + k) 1) (J (22 + k) 2) (J (22 + k) 3) a i 1) 0 11 = (sFt (J (22 + k) 1) (J (22 + k) 2) (J (22 + k) 3) a i 1) from st_Is _ _ _ _]
    refine aw_if_ne (tgt := 57) dX8_cell_44 (by decide) (fun c_44 => ?_) (fun c_44 => ?_)
    · refine aw_ldc2 dX8_cell_57 ct_X8_210 ?_
      refine aw_lret dX8_cell_60 (Nat.zero_le _) (Nat.zero_le _) ?_
      refine ⟨rfl, ?_, ?_⟩ <;> first | (simp [*]; done) | (simp_all; done)
    · refine aw_aload dX8_cell_47 rfl ?_
      refine aw_iload_n dX8_cell_49 rfl rfl ?_
      refine aw_callV cw_X6_read ml_X8_226 im_X6_read sl_X6_X6_read rfl (by omega) (entC_row _ _ hk _ _) (c_X6_read pk G _ _ n hn _ hk hz (by rw [st_In (by omega)]; exact hI) _) ⟨Nat.le_of_ble_eq_true rfl, Nat.le_of_ble_eq_true rfl⟩ ⟨Nat.zero_le _, Nat.zero_le _⟩ rfl rfl (Nat.le_of_ble_eq_true rfl) dX8_cell_50 ?_
      rintro _ _ ⟨rfl, rfl⟩
      rw [st_In (by omega)]
      refine aw_i2l dX8_cell_53 ?_
      refine aw_goto (tgt := 60) dX8_cell_54 (by decide) ?_
      refine aw_lret dX8_cell_60 (Nat.zero_le _) (Nat.zero_le _) ?_
      refine ⟨rfl, ?_, ?_⟩ <;> first | (simp [*]; done) | (simp_all; done)
  · refine aw_ldc2 dX8_cell_24 ct_X8_210 ?_
    refine aw_lret dX8_cell_27 (Nat.zero_le _) (Nat.zero_le _) ?_
    refine ⟨rfl, ?_, ?_⟩ <;> first | (simp [*]; done) | (simp_all; done)
set_option maxRecDepth 100000 in
set_option maxHeartbeats 4000000 in
theorem c_X8_copy_no1 {l : Launch} {D : va_G} {tc : Nat → ClassId} (pk : Nat → Nat) (G : Nat → Option Nat) (I F : Nat → Nat → Int32) (n : Nat) (hn : 30 ≤ n) (J : Nat → Nat → Int32) (hJ : J = st_I I 0 11 0) {x : Int32} (hx : sP 4 x = false) (i y j m : Int32) : AM l D tc yX8_copy cX8_copy 8 (some .int) 1 44 0 0 [.ref 0, .int x, .int i, .int y, .int j, .int m] n (hC pk G I F) (fun v n1 h1 => n1 = n ∧ (v = some (.int (-1)) ∧ h1 = hC pk G J F)) := by
  refine am_of (L := [some (.ref 0), some (.int x), some (.int i), some (.int y), some (.int j), some (.int m), none, none]) (by decide +kernel) (Nat.le_of_ble_eq_true rfl) rfl ?_
  refine aw_aload_n dX8_copy_0 rfl rfl ?_
  refine aw_iconst (v := 0) dX8_copy_1 (by decide) ?_
  refine aw_putI fp_X8_56_8 dX8_copy_2 (by omega) rfl rfl rfl (Nat.le_of_ble_eq_true rfl) rfl hJ.symm ?_
  clear hJ
  refine aw_aload_n dX8_copy_5 rfl rfl ?_
  refine aw_iload_n dX8_copy_6 rfl rfl ?_
  refine aw_callV cw_X8_sheetAt ml_X8_60 im_X8_sheetAt sl_X8_X8_sheetAt rfl (by omega) rfl (c_X8_sheetAt_no pk G _ _ n hn hx) ⟨Nat.le_of_ble_eq_true rfl, Nat.le_of_ble_eq_true rfl⟩ ⟨Nat.zero_le _, Nat.zero_le _⟩ rfl rfl (Nat.le_of_ble_eq_true rfl) dX8_copy_7 ?_
  rintro _ _ ⟨rfl, rfl⟩
  refine aw_astoreN dX8_copy_10 (by decide) rfl ?_
  refine aw_aload_n dX8_copy_12 rfl rfl ?_
  refine aw_iload_n dX8_copy_13 rfl rfl ?_
  rcases shtC (y) with hx_14 | ⟨k, hk, rfl⟩
  · refine aw_callV cw_X8_sheetAt ml_X8_60 im_X8_sheetAt sl_X8_X8_sheetAt rfl (by omega) rfl (c_X8_sheetAt_no pk G _ _ n hn hx_14) ⟨Nat.le_of_ble_eq_true rfl, Nat.le_of_ble_eq_true rfl⟩ ⟨Nat.zero_le _, Nat.zero_le _⟩ rfl rfl (Nat.le_of_ble_eq_true rfl) dX8_copy_14 ?_
    rintro _ _ ⟨rfl, rfl⟩
    refine aw_astoreN dX8_copy_17 (by decide) rfl ?_
    refine aw_aloadN dX8_copy_19 rfl ?_
    refine aw_ifnullN (tgt := 29) dX8_copy_21 (by decide) ?_
    refine aw_iconst (v := (-1)) dX8_copy_29 (by decide) ?_
    refine aw_iret dX8_copy_30 (Nat.zero_le _) (Nat.zero_le _) ?_
    exact ⟨rfl, rfl, rfl⟩
  · refine aw_callV cw_X8_sheetAt ml_X8_60 im_X8_sheetAt sl_X8_X8_sheetAt rfl (by omega) rfl (c_X8_sheetAt pk G _ _ n hn hk) ⟨Nat.le_of_ble_eq_true rfl, Nat.le_of_ble_eq_true rfl⟩ ⟨Nat.zero_le _, Nat.zero_le _⟩ rfl rfl (Nat.le_of_ble_eq_true rfl) dX8_copy_14 ?_
    rintro _ _ ⟨rfl, rfl⟩
    refine aw_astore dX8_copy_17 (by decide) rfl ?_
    refine aw_aloadN dX8_copy_19 rfl ?_
    refine aw_ifnullN (tgt := 29) dX8_copy_21 (by decide) ?_
    refine aw_iconst (v := (-1)) dX8_copy_29 (by decide) ?_
    refine aw_iret dX8_copy_30 (Nat.zero_le _) (Nat.zero_le _) ?_
    exact ⟨rfl, rfl, rfl⟩
set_option maxRecDepth 100000 in
set_option maxHeartbeats 4000000 in
theorem c_X8_copy_no2 {l : Launch} {D : va_G} {tc : Nat → ClassId} (pk : Nat → Nat) (G : Nat → Option Nat) (I F : Nat → Nat → Int32) (n : Nat) (hn : 30 ≤ n) (J : Nat → Nat → Int32) (hJ : J = st_I I 0 11 0) {k : Nat} (hk : k < 4) {y : Int32} (hx : sP 4 y = false) (i j m : Int32) : AM l D tc yX8_copy cX8_copy 8 (some .int) 1 44 0 0 [.ref 0, .int (nI k), .int i, .int y, .int j, .int m] n (hC pk G I F) (fun v n1 h1 => n1 = n ∧ (v = some (.int (-1)) ∧ h1 = hC pk G J F)) := by
  refine am_of (L := [some (.ref 0), some (.int (nI k)), some (.int i), some (.int y), some (.int j), some (.int m), none, none]) (by decide +kernel) (Nat.le_of_ble_eq_true rfl) rfl ?_
  refine aw_aload_n dX8_copy_0 rfl rfl ?_
  refine aw_iconst (v := 0) dX8_copy_1 (by decide) ?_
  refine aw_putI fp_X8_56_8 dX8_copy_2 (by omega) rfl rfl rfl (Nat.le_of_ble_eq_true rfl) rfl hJ.symm ?_
  clear hJ
  refine aw_aload_n dX8_copy_5 rfl rfl ?_
  refine aw_iload_n dX8_copy_6 rfl rfl ?_
  refine aw_callV cw_X8_sheetAt ml_X8_60 im_X8_sheetAt sl_X8_X8_sheetAt rfl (by omega) rfl (c_X8_sheetAt pk G _ _ n hn hk) ⟨Nat.le_of_ble_eq_true rfl, Nat.le_of_ble_eq_true rfl⟩ ⟨Nat.zero_le _, Nat.zero_le _⟩ rfl rfl (Nat.le_of_ble_eq_true rfl) dX8_copy_7 ?_
  rintro _ _ ⟨rfl, rfl⟩
  refine aw_astore dX8_copy_10 (by decide) rfl ?_
  refine aw_aload_n dX8_copy_12 rfl rfl ?_
  refine aw_iload_n dX8_copy_13 rfl rfl ?_
  refine aw_callV cw_X8_sheetAt ml_X8_60 im_X8_sheetAt sl_X8_X8_sheetAt rfl (by omega) rfl (c_X8_sheetAt_no pk G _ _ n hn hx) ⟨Nat.le_of_ble_eq_true rfl, Nat.le_of_ble_eq_true rfl⟩ ⟨Nat.zero_le _, Nat.zero_le _⟩ rfl rfl (Nat.le_of_ble_eq_true rfl) dX8_copy_14 ?_
  rintro _ _ ⟨rfl, rfl⟩
  refine aw_astoreN dX8_copy_17 (by decide) rfl ?_
  refine aw_aload dX8_copy_19 rfl ?_
  refine aw_ifnull dX8_copy_21 ?_
  refine aw_aloadN dX8_copy_24 rfl ?_
  refine aw_ifnonnullN dX8_copy_26 ?_
  refine aw_iconst (v := (-1)) dX8_copy_29 (by decide) ?_
  refine aw_iret dX8_copy_30 (Nat.zero_le _) (Nat.zero_le _) ?_
  exact ⟨rfl, rfl, rfl⟩
def cpE (t1 l1 z1 t2 l2 z2 i j m : Int32) : Int32 := if t1 = 0 then 1 else if t2 = 0 then 1 else if l1 = l2 then (if sHasC z1 i m && sHasC z2 j m then 0 else 3) else 2
set_option maxRecDepth 100000 in
set_option maxHeartbeats 4000000 in
theorem c_X8_copy {l : Launch} {D : va_G} {tc : Nat → ClassId} (pk : Nat → Nat) (G : Nat → Option Nat) (I F : Nat → Nat → Int32) (n : Nat) (hn : 30 ≤ n) (J : Nat → Nat → Int32) (hJ : J = st_I I 0 11 0) {k : Nat} (hk : k < 4) {k2 : Nat} (hk2 : k2 < 4) {z : Nat} (hz : z ≤ 60) (hI : J (22 + k) 3 = nI z) {z2 : Nat} (hz2 : z2 ≤ 60) (hI2 : J (22 + k2) 3 = nI z2) (i j m : Int32) : AM l D tc yX8_copy cX8_copy 8 (some .int) 1 44 0 0 [.ref 0, .int (nI k), .int i, .int (nI k2), .int j, .int m] n (hC pk G I F) (fun v n1 h1 => n1 = n ∧ (v = some (.int (if (cpE (J (22 + k) 1) (J (22 + k) 2) (J (22 + k) 3) (J (22 + k2) 1) (J (22 + k2) 2) (J (22 + k2) 3) i j m) = 0 then m else -10 - (cpE (J (22 + k) 1) (J (22 + k) 2) (J (22 + k) 3) (J (22 + k2) 1) (J (22 + k2) 2) (J (22 + k2) 3) i j m))) ∧ h1 = hC pk G (if (cpE (J (22 + k) 1) (J (22 + k) 2) (J (22 + k) 3) (J (22 + k2) 1) (J (22 + k2) 2) (J (22 + k2) 3) i j m) = 0 then J else st_I J 0 11 (cpE (J (22 + k) 1) (J (22 + k) 2) (J (22 + k) 3) (J (22 + k2) 1) (J (22 + k2) 2) (J (22 + k2) 3) i j m)) (if (cpE (J (22 + k) 1) (J (22 + k) 2) (J (22 + k) 3) (J (22 + k2) 1) (J (22 + k2) 2) (J (22 + k2) 3) i j m) = 0 then st_F F (26 + k2) (va_cpy (F (26 + k)) (F (26 + k2)) i.toNatClampNeg j.toNatClampNeg m.toNatClampNeg) else F))) := by
  refine am_of (L := [some (.ref 0), some (.int (nI k)), some (.int i), some (.int (nI k2)), some (.int j), some (.int m), none, none]) (by decide +kernel) (Nat.le_of_ble_eq_true rfl) rfl ?_
  refine aw_aload_n dX8_copy_0 rfl rfl ?_
  refine aw_iconst (v := 0) dX8_copy_1 (by decide) ?_
  refine aw_putI fp_X8_56_8 dX8_copy_2 (by omega) rfl rfl rfl (Nat.le_of_ble_eq_true rfl) rfl hJ.symm ?_
  clear hJ
  refine aw_aload_n dX8_copy_5 rfl rfl ?_
  refine aw_iload_n dX8_copy_6 rfl rfl ?_
  refine aw_callV cw_X8_sheetAt ml_X8_60 im_X8_sheetAt sl_X8_X8_sheetAt rfl (by omega) rfl (c_X8_sheetAt pk G _ _ n hn hk) ⟨Nat.le_of_ble_eq_true rfl, Nat.le_of_ble_eq_true rfl⟩ ⟨Nat.zero_le _, Nat.zero_le _⟩ rfl rfl (Nat.le_of_ble_eq_true rfl) dX8_copy_7 ?_
  rintro _ _ ⟨rfl, rfl⟩
  refine aw_astore dX8_copy_10 (by decide) rfl ?_
  refine aw_aload_n dX8_copy_12 rfl rfl ?_
  refine aw_iload_n dX8_copy_13 rfl rfl ?_
  refine aw_callV cw_X8_sheetAt ml_X8_60 im_X8_sheetAt sl_X8_X8_sheetAt rfl (by omega) rfl (c_X8_sheetAt pk G _ _ n hn hk2) ⟨Nat.le_of_ble_eq_true rfl, Nat.le_of_ble_eq_true rfl⟩ ⟨Nat.zero_le _, Nat.zero_le _⟩ rfl rfl (Nat.le_of_ble_eq_true rfl) dX8_copy_14 ?_
  rintro _ _ ⟨rfl, rfl⟩
  refine aw_astore dX8_copy_17 (by decide) rfl ?_
  refine aw_aload dX8_copy_19 rfl ?_
  refine aw_ifnull dX8_copy_21 ?_
  refine aw_aload dX8_copy_24 rfl ?_
  refine aw_ifnonnull (tgt := 31) dX8_copy_26 (by decide) ?_
  refine aw_aload dX8_copy_31 rfl ?_
  refine aw_get fd_X8_216_6 dX8_copy_33 (by omega) (entC_row _ _ hk _ _) rfl ?_
  refine aw_if_eq (tgt := 47) dX8_copy_36 (by decide) (fun c_36 => ?_) (fun c_36 => ?_)
  · refine aw_aload_n dX8_copy_47 rfl rfl ?_
    refine aw_iconst (v := 1) dX8_copy_48 (by decide) ?_
    refine aw_callV cw_X8_faulted ml_X8_72 im_X8_faulted sl_X8_X8_faulted rfl (by omega) rfl (c_X8_faulted pk G _ _ n hn _) ⟨Nat.le_of_ble_eq_true rfl, Nat.le_of_ble_eq_true rfl⟩ ⟨Nat.zero_le _, Nat.zero_le _⟩ rfl rfl (Nat.le_of_ble_eq_true rfl) dX8_copy_49 ?_
    rintro _ _ ⟨rfl, rfl⟩
    refine aw_iret dX8_copy_52 (Nat.zero_le _) (Nat.zero_le _) ?_
    have e9 : cpE (J (22 + k) 1) (J (22 + k) 2) (J (22 + k) 3) (J (22 + k2) 1) (J (22 + k2) 2) (J (22 + k2) 3) i j m = _ := rfl
    unfold cpE
    refine ⟨rfl, ?_, ?_⟩ <;> first | (simp [*]; done) | (simp_all; done)
  · refine aw_aload dX8_copy_39 rfl ?_
    refine aw_get fd_X8_216_6 dX8_copy_41 (by omega) (entC_row _ _ hk2 _ _) rfl ?_
    refine aw_if_ne (tgt := 53) dX8_copy_44 (by decide) (fun c_44 => ?_) (fun c_44 => ?_)
    · refine aw_aload dX8_copy_53 rfl ?_
      refine aw_get fd_X8_220_6 dX8_copy_55 (by omega) (entC_row _ _ hk _ _) rfl ?_
      refine aw_aload dX8_copy_58 rfl ?_
      refine aw_get fd_X8_220_6 dX8_copy_60 (by omega) (entC_row _ _ hk2 _ _) rfl ?_
      refine aw_icmp_eq (tgt := 72) dX8_copy_63 (by decide) (fun c_63 => ?_) (fun c_63 => ?_)
      · refine aw_aload dX8_copy_72 rfl ?_
        refine aw_iload_n dX8_copy_74 rfl rfl ?_
        refine aw_iload dX8_copy_75 rfl ?_
        refine aw_callV cw_X6_hasCells ml_X8_229 im_X6_hasCells sl_X6_X6_hasCells rfl (by omega) (entC_row _ _ hk _ _) (c_X6_hasCells pk G _ _ n hn _ hk _ _) ⟨Nat.le_of_ble_eq_true rfl, Nat.le_of_ble_eq_true rfl⟩ ⟨Nat.zero_le _, Nat.zero_le _⟩ rfl rfl (Nat.le_of_ble_eq_true rfl) dX8_copy_77 ?_
        rintro _ _ ⟨rfl, rfl⟩
        refine aw_ifB_eq (tgt := 95) dX8_copy_80 (by decide) (fun c_80 => ?_) (fun c_80 => ?_)
        · refine aw_aload_n dX8_copy_95 rfl rfl ?_
          refine aw_iconst (v := 3) dX8_copy_96 (by decide) ?_
          refine aw_callV cw_X8_faulted ml_X8_72 im_X8_faulted sl_X8_X8_faulted rfl (by omega) rfl (c_X8_faulted pk G _ _ n hn _) ⟨Nat.le_of_ble_eq_true rfl, Nat.le_of_ble_eq_true rfl⟩ ⟨Nat.zero_le _, Nat.zero_le _⟩ rfl rfl (Nat.le_of_ble_eq_true rfl) dX8_copy_97 ?_
          rintro _ _ ⟨rfl, rfl⟩
          refine aw_iret dX8_copy_100 (Nat.zero_le _) (Nat.zero_le _) ?_
          have e9 : cpE (J (22 + k) 1) (J (22 + k) 2) (J (22 + k) 3) (J (22 + k2) 1) (J (22 + k2) 2) (J (22 + k2) 3) i j m = _ := rfl
          unfold cpE
          refine ⟨rfl, ?_, ?_⟩ <;> first | (simp [*]; done) | (simp_all; done)
        · refine aw_aload dX8_copy_83 rfl ?_
          refine aw_iload dX8_copy_85 rfl ?_
          refine aw_iload dX8_copy_87 rfl ?_
          refine aw_callV cw_X6_hasCells ml_X8_229 im_X6_hasCells sl_X6_X6_hasCells rfl (by omega) (entC_row _ _ hk2 _ _) (c_X6_hasCells pk G _ _ n hn _ hk2 _ _) ⟨Nat.le_of_ble_eq_true rfl, Nat.le_of_ble_eq_true rfl⟩ ⟨Nat.zero_le _, Nat.zero_le _⟩ rfl rfl (Nat.le_of_ble_eq_true rfl) dX8_copy_89 ?_
          rintro _ _ ⟨rfl, rfl⟩
          refine aw_ifB_ne (tgt := 101) dX8_copy_92 (by decide) (fun c_92 => ?_) (fun c_92 => ?_)
          · refine aw_aload dX8_copy_101 rfl ?_
            refine aw_get fd_X8_232_6 dX8_copy_103 (by omega) (entC_row _ _ hk _ _) rfl ?_
            refine aw_iload_n dX8_copy_106 rfl rfl ?_
            refine aw_aload dX8_copy_107 rfl ?_
            refine aw_get fd_X8_232_6 dX8_copy_109 (by omega) (entC_row _ _ hk2 _ _) rfl ?_
            refine aw_iload dX8_copy_112 rfl ?_
            refine aw_iload dX8_copy_114 rfl ?_
            obtain ⟨a1, b1, rfl, rfl, g1⟩ := (hasC_iff hz i m).mp (by rw [← hI]; exact c_80)
            obtain ⟨a2, b2, rfl, e2, g2⟩ := (hasC_iff hz2 j (nI b1)).mp (by rw [← hI2]; exact c_92)
            have e3 : b1 = b2 := (nI_eq (by omega) (by omega)).mp e2
            subst e3
            refine aw_copy ml_X8_235 ⟨Nat.le_of_ble_eq_true rfl, Nat.le_of_ble_eq_true rfl⟩ (Nat.le_of_ble_eq_true rfl) dX8_copy_116 (by omega) (by omega) (entC_cells _ _ hk _ _) (entC_cells _ _ hk2 _ _) (fun _ => entC_cells _ _ hk2 _ _) (nI_pos (by omega)) (nI_pos (by omega)) (nI_pos (by omega)) (by rw [nI_clamp (by omega), nI_clamp (by omega)]; omega) (by rw [nI_clamp (by omega), nI_clamp (by omega)]; omega) ?_
            refine aw_iload dX8_copy_119 rfl ?_
            refine aw_iret dX8_copy_121 (Nat.zero_le _) (Nat.zero_le _) ?_
            have e9 : cpE (J (22 + k) 1) (J (22 + k) 2) (J (22 + k) 3) (J (22 + k2) 1) (J (22 + k2) 2) (J (22 + k2) 3) (nI a1) (nI a2) (nI b1) = 0 := by
              unfold cpE
              rw [if_neg c_36, if_neg c_44, if_pos c_63, c_80, c_92]
              rfl
            rw [if_pos e9, if_pos e9, if_pos e9]
            exact ⟨rfl, rfl, rfl⟩
          · refine aw_aload_n dX8_copy_95 rfl rfl ?_
            refine aw_iconst (v := 3) dX8_copy_96 (by decide) ?_
            refine aw_callV cw_X8_faulted ml_X8_72 im_X8_faulted sl_X8_X8_faulted rfl (by omega) rfl (c_X8_faulted pk G _ _ n hn _) ⟨Nat.le_of_ble_eq_true rfl, Nat.le_of_ble_eq_true rfl⟩ ⟨Nat.zero_le _, Nat.zero_le _⟩ rfl rfl (Nat.le_of_ble_eq_true rfl) dX8_copy_97 ?_
            rintro _ _ ⟨rfl, rfl⟩
            refine aw_iret dX8_copy_100 (Nat.zero_le _) (Nat.zero_le _) ?_
            have e9 : cpE (J (22 + k) 1) (J (22 + k) 2) (J (22 + k) 3) (J (22 + k2) 1) (J (22 + k2) 2) (J (22 + k2) 3) i j m = _ := rfl
            unfold cpE
            refine ⟨rfl, ?_, ?_⟩ <;> first | (simp [*]; done) | (simp_all; done)
      · refine aw_aload_n dX8_copy_66 rfl rfl ?_
        refine aw_iconst (v := 2) dX8_copy_67 (by decide) ?_
        refine aw_callV cw_X8_faulted ml_X8_72 im_X8_faulted sl_X8_X8_faulted rfl (by omega) rfl (c_X8_faulted pk G _ _ n hn _) ⟨Nat.le_of_ble_eq_true rfl, Nat.le_of_ble_eq_true rfl⟩ ⟨Nat.zero_le _, Nat.zero_le _⟩ rfl rfl (Nat.le_of_ble_eq_true rfl) dX8_copy_68 ?_
        rintro _ _ ⟨rfl, rfl⟩
        refine aw_iret dX8_copy_71 (Nat.zero_le _) (Nat.zero_le _) ?_
        have e9 : cpE (J (22 + k) 1) (J (22 + k) 2) (J (22 + k) 3) (J (22 + k2) 1) (J (22 + k2) 2) (J (22 + k2) 3) i j m = _ := rfl
        unfold cpE
        refine ⟨rfl, ?_, ?_⟩ <;> first | (simp [*]; done) | (simp_all; done)
    · refine aw_aload_n dX8_copy_47 rfl rfl ?_
      refine aw_iconst (v := 1) dX8_copy_48 (by decide) ?_
      refine aw_callV cw_X8_faulted ml_X8_72 im_X8_faulted sl_X8_X8_faulted rfl (by omega) rfl (c_X8_faulted pk G _ _ n hn _) ⟨Nat.le_of_ble_eq_true rfl, Nat.le_of_ble_eq_true rfl⟩ ⟨Nat.zero_le _, Nat.zero_le _⟩ rfl rfl (Nat.le_of_ble_eq_true rfl) dX8_copy_49 ?_
      rintro _ _ ⟨rfl, rfl⟩
      refine aw_iret dX8_copy_52 (Nat.zero_le _) (Nat.zero_le _) ?_
      have e9 : cpE (J (22 + k) 1) (J (22 + k) 2) (J (22 + k) 3) (J (22 + k2) 1) (J (22 + k2) 2) (J (22 + k2) 3) i j m = _ := rfl
      unfold cpE
      refine ⟨rfl, ?_, ?_⟩ <;> first | (simp [*]; done) | (simp_all; done)
set_option maxRecDepth 100000 in
set_option maxHeartbeats 4000000 in
theorem lp_X8_howManyGoOn {l : Launch} {D : va_G} {tc : Nat → ClassId} (pk : Nat → Nat) (G : Nat → Option Nat) (I F : Nat → Nat → Int32) (n : Nat) (hn : 30 ≤ n) {c : Nat} (hc : c ≤ 6) (hI0 : I 0 7 = nI c) (f h : Int32) : ∀ (m i : Nat) (a : Int32), i + m = c → sumN (fun p => if sHas (I 0 9) (nI p) && !decide (nI p = h) && !decide (F 3 p ≤ f) then 1 else 0) i = a → AW l D tc yX8_howManyGoOn.cls cX8_howManyGoOn 6 (some .int) { frames := 2, cells := 0, slots := 0, locals := 41 } n 0 0 (fun v n1 h1 => n1 = n ∧ (v = some (.int (goN (I 0 9) (F 3) f h c)) ∧ h1 = (hC pk G I F))) 6 [some (.ref 0), some (.ref 3), some (.int f), some (.int h), some (.int a), some (.int (nI i))] [] n (hC pk G I F) 0 0 := by
  intro m
  induction m using Nat.strongRecOn with
  | _ m ih =>
    intro i a hi hq
    refine aw_iload dX8_howManyGoOn_6 rfl ?_
    refine aw_aload_n dX8_howManyGoOn_8 rfl rfl ?_
    refine aw_get fd_X8_84_8 dX8_howManyGoOn_9 (by omega) rfl rfl ?_
    refine aw_icmp_ge (tgt := 57) dX8_howManyGoOn_12 (by decide) (fun c_12 => ?_) (fun c_12 => ?_)
    · have hi6 : i = c := lp_ge (by omega) (by omega) (by rw [← hI0]; exact c_12)
      subst hi6
      refine aw_iload dX8_howManyGoOn_57 rfl ?_
      refine aw_iret dX8_howManyGoOn_59 (Nat.zero_le _) (Nat.zero_le _) ?_
      refine ⟨rfl, ?_, rfl⟩
      rw [goN, hq]
    · have hi6 : i < c := lp_lt (N := c) (by omega) (by rw [← hI0]; exact c_12)
      refine aw_iload dX8_howManyGoOn_15 rfl ?_
      refine aw_aload_n dX8_howManyGoOn_17 rfl rfl ?_
      refine aw_get fd_X8_109_8 dX8_howManyGoOn_18 (by omega) rfl rfl ?_
      refine aw_iload dX8_howManyGoOn_21 rfl ?_
      refine aw_callS cw_X8_has ml_X8_112 sm_X8_has (c_X8_has _ _ _ _) ⟨Nat.le_of_ble_eq_true rfl, Nat.le_of_ble_eq_true rfl⟩ ⟨Nat.zero_le _, Nat.zero_le _⟩ rfl rfl (Nat.le_of_ble_eq_true rfl) dX8_howManyGoOn_23 ?_
      rintro _ _ ⟨rfl, rfl⟩
      refine aw_ifB_eq (tgt := 47) dX8_howManyGoOn_26 (by decide) (fun c_26 => ?_) (fun c_26 => ?_)
      · refine aw_iconst (v := 0) dX8_howManyGoOn_47 (by decide) ?_
        refine aw_iadd dX8_howManyGoOn_48 ?_
        refine aw_istore dX8_howManyGoOn_49 (by decide) rfl ?_
        refine aw_iinc (v := 1) dX8_howManyGoOn_51 rfl (by decide) (by decide) rfl ?_
        refine aw_goto (tgt := 6) dX8_howManyGoOn_54 (by decide) ?_
        rw [nI_1]
        exact ih (m - 1) (by omega) (i + 1) _ (by omega) (by rw [sumN, hq]; simp [*])
      · refine aw_iload dX8_howManyGoOn_29 rfl ?_
        refine aw_iload_n dX8_howManyGoOn_31 rfl rfl ?_
        refine aw_icmp_eq (tgt := 47) dX8_howManyGoOn_32 (by decide) (fun c_32 => ?_) (fun c_32 => ?_)
        · refine aw_iconst (v := 0) dX8_howManyGoOn_47 (by decide) ?_
          refine aw_iadd dX8_howManyGoOn_48 ?_
          refine aw_istore dX8_howManyGoOn_49 (by decide) rfl ?_
          refine aw_iinc (v := 1) dX8_howManyGoOn_51 rfl (by decide) (by decide) rfl ?_
          refine aw_goto (tgt := 6) dX8_howManyGoOn_54 (by decide) ?_
          rw [nI_1]
          exact ih (m - 1) (by omega) (i + 1) _ (by omega) (by rw [sumN, hq]; simp [*])
        · refine aw_aload_n dX8_howManyGoOn_35 rfl rfl ?_
          refine aw_iload dX8_howManyGoOn_36 rfl ?_
          refine aw_iald dX8_howManyGoOn_38 (by omega) rfl (vp_in_nI (by omega) (by decide)) ?_
          rw [nI_clamp (show i < 2 ^ 31 by omega)]
          refine aw_iload_n dX8_howManyGoOn_39 rfl rfl ?_
          refine aw_icmp_le (tgt := 47) dX8_howManyGoOn_40 (by decide) (fun c_40 => ?_) (fun c_40 => ?_)
          · refine aw_iconst (v := 0) dX8_howManyGoOn_47 (by decide) ?_
            refine aw_iadd dX8_howManyGoOn_48 ?_
            refine aw_istore dX8_howManyGoOn_49 (by decide) rfl ?_
            refine aw_iinc (v := 1) dX8_howManyGoOn_51 rfl (by decide) (by decide) rfl ?_
            refine aw_goto (tgt := 6) dX8_howManyGoOn_54 (by decide) ?_
            rw [nI_1]
            exact ih (m - 1) (by omega) (i + 1) _ (by omega) (by rw [sumN, hq]; simp [*])
          · refine aw_iconst (v := 1) dX8_howManyGoOn_43 (by decide) ?_
            refine aw_goto (tgt := 48) dX8_howManyGoOn_44 (by decide) ?_
            refine aw_iadd dX8_howManyGoOn_48 ?_
            refine aw_istore dX8_howManyGoOn_49 (by decide) rfl ?_
            refine aw_iinc (v := 1) dX8_howManyGoOn_51 rfl (by decide) (by decide) rfl ?_
            refine aw_goto (tgt := 6) dX8_howManyGoOn_54 (by decide) ?_
            rw [nI_1]
            exact ih (m - 1) (by omega) (i + 1) _ (by omega) (by rw [sumN, hq]; simp [*])
set_option maxRecDepth 100000 in
set_option maxHeartbeats 4000000 in
theorem c_X8_howManyGoOn {l : Launch} {D : va_G} {tc : Nat → ClassId} (pk : Nat → Nat) (G : Nat → Option Nat) (I F : Nat → Nat → Int32) (n : Nat) (hn : 30 ≤ n) {c : Nat} (hc : c ≤ 6) (hI0 : I 0 7 = nI c) (f h : Int32) : AM l D tc yX8_howManyGoOn cX8_howManyGoOn 6 (some .int) 2 41 0 0 [.ref 0, .ref 3, .int f, .int h] n (hC pk G I F) (fun v n1 h1 => n1 = n ∧ (v = some (.int (goN (I 0 9) (F 3) f h c)) ∧ h1 = (hC pk G I F))) := by
  refine am_of (L := [some (.ref 0), some (.ref 3), some (.int f), some (.int h), none, none]) (by decide +kernel) (Nat.le_of_ble_eq_true rfl) rfl ?_
  refine aw_iconst (v := 0) dX8_howManyGoOn_0 (by decide) ?_
  refine aw_istore dX8_howManyGoOn_1 (by decide) rfl ?_
  refine aw_iconst (v := 0) dX8_howManyGoOn_3 (by decide) ?_
  refine aw_istore dX8_howManyGoOn_4 (by decide) rfl ?_
  exact lp_X8_howManyGoOn pk G I F n hn hc hI0 f h c 0 0 (by omega) rfl
set_option maxRecDepth 100000 in
set_option maxHeartbeats 4000000 in
theorem lp_X8_allNameSomebody {l : Launch} {D : va_G} {tc : Nat → ClassId} (pk : Nat → Nat) (G : Nat → Option Nat) (I F : Nat → Nat → Int32) (n : Nat) (hn : 30 ≤ n) {c : Nat} {g : Nat → Nat} (hW : WP pk G n c g) (hI0 : I 0 7 = nI c) {k : Nat} (hk : k < 4) {z : Nat} (hz : z ≤ 60) (hI : I (22 + k) 3 = nI z) (x : Int32) {b : Nat} (hb : b ≤ 20) : ∀ (m i : Nat), i + m = b → anF c (fun k9 => sRead (I (22 + k) 3) (F (26 + k)) (x + 2 * nI k9)) i = true → AW l D tc yX8_allNameSomebody.cls cX8_allNameSomebody 5 (some .boolean) { frames := 2, cells := 0, slots := 0, locals := 43 } n 0 0 (fun v n1 h1 => n1 = n ∧ (v = some (.int (b2i (anF c (fun k9 => sRead (I (22 + k) 3) (F (26 + k)) (x + 2 * nI k9)) b))) ∧ h1 = (hC pk G I F))) 3 [some (.ref 0), some (.ref (22 + k)), some (.int x), some (.int (nI b)), some (.int (nI i))] [] n (hC pk G I F) 0 0 := by
  intro m
  induction m using Nat.strongRecOn with
  | _ m ih =>
    intro i hi hq
    refine aw_iload dX8_allNameSomebody_3 rfl ?_
    refine aw_iload_n dX8_allNameSomebody_5 rfl rfl ?_
    refine aw_icmp_ge (tgt := 34) dX8_allNameSomebody_6 (by decide) (fun c_6 => ?_) (fun c_6 => ?_)
    · refine aw_iconst (v := 1) dX8_allNameSomebody_34 (by decide) ?_
      refine aw_zret dX8_allNameSomebody_35 (by first | rfl | exact aw_nb _) (Nat.zero_le _) (Nat.zero_le _) ?_
      have hi6 := lp_ge (N := b) (by omega) (by omega) c_6
      subst hi6
      refine ⟨rfl, ?_, rfl⟩
      rw [hq]
      rfl
    · have hi6 := lp_lt (N := b) (by omega) c_6
      refine aw_aload_n dX8_allNameSomebody_9 rfl rfl ?_
      refine aw_aload_n dX8_allNameSomebody_10 rfl rfl ?_
      refine aw_iload_n dX8_allNameSomebody_11 rfl rfl ?_
      refine aw_iconst (v := 2) dX8_allNameSomebody_12 (by decide) ?_
      refine aw_iload dX8_allNameSomebody_13 rfl ?_
      refine aw_imul dX8_allNameSomebody_15 ?_
      refine aw_iadd dX8_allNameSomebody_16 ?_
      refine aw_callV cw_X6_read ml_X8_226 im_X6_read sl_X6_X6_read rfl (by omega) (entC_row _ _ hk _ _) (c_X6_read pk G _ _ n hn _ hk hz hI _) ⟨Nat.le_of_ble_eq_true rfl, Nat.le_of_ble_eq_true rfl⟩ ⟨Nat.zero_le _, Nat.zero_le _⟩ rfl rfl (Nat.le_of_ble_eq_true rfl) dX8_allNameSomebody_17 ?_
      rintro _ _ ⟨rfl, rfl⟩
      rcases perC hW.1 (sRead (I (22 + k) 3) (F (26 + k)) (x + 2 * nI i)) with hx_20 | ⟨p_20, hp_20, ex_20⟩
      · refine aw_callV cw_X8_personAt ml_X8_87 im_X8_personAt sl_X8_X8_personAt rfl (by omega) rfl (c_X8_personAt_no pk G _ _ n hn hI0 hx_20) ⟨Nat.le_of_ble_eq_true rfl, Nat.le_of_ble_eq_true rfl⟩ ⟨Nat.zero_le _, Nat.zero_le _⟩ rfl rfl (Nat.le_of_ble_eq_true rfl) dX8_allNameSomebody_20 ?_
        rintro _ _ ⟨rfl, rfl⟩
        refine aw_ifnonnullN dX8_allNameSomebody_23 ?_
        refine aw_iconst (v := 0) dX8_allNameSomebody_26 (by decide) ?_
        refine aw_zret dX8_allNameSomebody_27 (by first | rfl | exact aw_nb _) (Nat.zero_le _) (Nat.zero_le _) ?_
        refine ⟨rfl, ?_, rfl⟩
        rw [anF_no (rd := fun k9 => sRead (I (22 + k) 3) (F (26 + k)) (x + 2 * nI k9)) (k := i) hi6 hx_20]
        rfl
      · refine aw_callV cw_X8_personAt ml_X8_87 im_X8_personAt sl_X8_X8_personAt rfl (by omega) rfl (c_X8_personAt pk G _ _ n hn hW hI0 hp_20 ex_20) ⟨Nat.le_of_ble_eq_true rfl, Nat.le_of_ble_eq_true rfl⟩ ⟨Nat.zero_le _, Nat.zero_le _⟩ rfl rfl (Nat.le_of_ble_eq_true rfl) dX8_allNameSomebody_20 ?_
        rintro _ _ ⟨rfl, rfl⟩
        refine aw_ifnonnull (tgt := 28) dX8_allNameSomebody_23 (by decide) ?_
        refine aw_iinc (v := 1) dX8_allNameSomebody_28 rfl (by decide) (by decide) rfl ?_
        refine aw_goto (tgt := 3) dX8_allNameSomebody_31 (by decide) ?_
        rw [nI_1]
        exact ih (m - 1) (by omega) (i + 1) (by omega) (by rw [anF, hq]; show sP c (sRead (I (22 + k) 3) (F (26 + k)) (x + 2 * nI i)) = true; rw [ex_20]; exact sP_nI hW.1 hp_20)
set_option maxRecDepth 100000 in
set_option maxHeartbeats 4000000 in
theorem c_X8_allNameSomebody {l : Launch} {D : va_G} {tc : Nat → ClassId} (pk : Nat → Nat) (G : Nat → Option Nat) (I F : Nat → Nat → Int32) (n : Nat) (hn : 30 ≤ n) {c : Nat} {g : Nat → Nat} (hW : WP pk G n c g) (hI0 : I 0 7 = nI c) {k : Nat} (hk : k < 4) {z : Nat} (hz : z ≤ 60) (hI : I (22 + k) 3 = nI z) (x : Int32) {b : Nat} (hb : b ≤ 20) : AM l D tc yX8_allNameSomebody cX8_allNameSomebody 5 (some .boolean) 2 43 0 0 [.ref 0, .ref (22 + k), .int x, .int (nI b)] n (hC pk G I F) (fun v n1 h1 => n1 = n ∧ (v = some (.int (b2i (anF c (fun k9 => sRead (I (22 + k) 3) (F (26 + k)) (x + 2 * nI k9)) b))) ∧ h1 = (hC pk G I F))) := by
  refine am_of (L := [some (.ref 0), some (.ref (22 + k)), some (.int x), some (.int (nI b)), none]) (by decide +kernel) (Nat.le_of_ble_eq_true rfl) rfl ?_
  refine aw_iconst (v := 0) dX8_allNameSomebody_0 (by decide) ?_
  refine aw_istore dX8_allNameSomebody_1 (by decide) rfl ?_
  exact lp_X8_allNameSomebody pk G I F n hn hW hI0 hk hz hI x hb b 0 (by omega) rfl
set_option maxRecDepth 100000 in
set_option maxHeartbeats 4000000 in
theorem lp_X8_callsTold {l : Launch} {D : va_G} {tc : Nat → ClassId} (pk : Nat → Nat) (G : Nat → Option Nat) (I F : Nat → Nat → Int32) (n : Nat) (hn : 30 ≤ n) {c : Nat} {g : Nat → Nat} (hW : WP pk G n c g) (hI0 : I 0 7 = nI c) {k : Nat} (hk : k < 4) {z : Nat} (hz : z ≤ 60) (hI : I (22 + k) 3 = nI z) (x w : Int32) {b : Nat} (hb : b ≤ 20) (hall : ∀ k9, k9 < b → sP c ((fun k9 => sRead (I (22 + k) 3) (F (26 + k)) (x + 2 * nI k9)) k9) = true) : ∀ (m i : Nat) (f h : Int32) (w9 w10 : Option Value), i + m = b → ctN (I 0 9) (myC pk g I c) (fun k9 => sRead (I (22 + k) 3) (F (26 + k)) (x + 2 * nI k9)) (fun k9 => sRead (I (22 + k) 3) (F (26 + k)) (x + 2 * nI k9 + 1)) i m f h = ctN (I 0 9) (myC pk g I c) (fun k9 => sRead (I (22 + k) 3) (F (26 + k)) (x + 2 * nI k9)) (fun k9 => sRead (I (22 + k) 3) (F (26 + k)) (x + 2 * nI k9 + 1)) 0 b 0 (-9) → AW l D tc yX8_callsTold.cls cX8_callsTold 11 (some .int) { frames := 3, cells := 0, slots := 0, locals := 66 } n 0 0 (fun v n1 h1 => n1 = n ∧ (∃ I1 F1, SC I F I1 F1 ∧ h1 = hC pk G I1 F1 ∧ v = some (.int (ctR (I 0 9) (myC pk g I c) c w (ctN (I 0 9) (myC pk g I c) (fun k9 => sRead (I (22 + k) 3) (F (26 + k)) (x + 2 * nI k9)) (fun k9 => sRead (I (22 + k) 3) (F (26 + k)) (x + 2 * nI k9 + 1)) 0 b 0 (-9)))))) 16 [some (.ref 0), some (.ref (22 + k)), some (.int x), some (.int (nI b)), some (.int w), some (.ref 3), some (.int f), some (.int h), some (.int (nI i)), w9, w10] [] n (hC pk G I (mnF F (myC pk g I c))) 0 0 := by
  intro m
  induction m using Nat.strongRecOn with
  | _ m ih =>
    intro i f h w9 w10 hi hq
    refine aw_iload dX8_callsTold_16 rfl ?_
    refine aw_iload_n dX8_callsTold_18 rfl rfl ?_
    refine aw_icmp_ge (tgt := 117) dX8_callsTold_19 (by decide) (fun c_19 => ?_) (fun c_19 => ?_)
    · have hi6 := lp_ge (N := b) (by omega) (by omega) c_19
      have hm : m = 0 := by omega
      subst hm
      have e9 : ctN (I 0 9) (myC pk g I c) (fun k9 => sRead (I (22 + k) 3) (F (26 + k)) (x + 2 * nI k9)) (fun k9 => sRead (I (22 + k) 3) (F (26 + k)) (x + 2 * nI k9 + 1)) 0 b 0 (-9) = (none, f, h) := by rw [← hq]; rfl
      rw [e9]
      refine aw_iload dX8_callsTold_117 rfl ?_
      by_cases e_119_0 : w = 0
      · refine aw_tableC (off := 25) (tgt := 144) e_119_0 dX8_callsTold_119 (by decide) (by decide) (by decide) (by decide) ?_
        refine aw_iload dX8_callsTold_144 rfl ?_
        refine aw_iret dX8_callsTold_146 (Nat.zero_le _) (Nat.zero_le _) ?_
        refine ⟨rfl, _, _, SC.mn I F _, rfl, ?_⟩
        first | (simp [ctR, *]; done) | (simp_all [ctR]; done)
      by_cases e_119_1 : w = 1
      · refine aw_tableC (off := 28) (tgt := 147) e_119_1 dX8_callsTold_119 (by decide) (by decide) (by decide) (by decide) ?_
        refine aw_bipush (v := (-9)) dX8_callsTold_147 (by decide) ?_
        refine aw_iret dX8_callsTold_149 (Nat.zero_le _) (Nat.zero_le _) ?_
        refine ⟨rfl, _, _, SC.mn I F _, rfl, ?_⟩
        first | (simp [ctR, *]; done) | (simp_all [ctR]; done)
      by_cases e_119_2 : w = 2
      · refine aw_tableC (off := 31) (tgt := 150) e_119_2 dX8_callsTold_119 (by decide) (by decide) (by decide) (by decide) ?_
        refine aw_iload dX8_callsTold_150 rfl ?_
        refine aw_iret dX8_callsTold_152 (Nat.zero_le _) (Nat.zero_le _) ?_
        refine ⟨rfl, _, _, SC.mn I F _, rfl, ?_⟩
        first | (simp [ctR, *]; done) | (simp_all [ctR]; done)
      refine aw_tableOut (tgt := 153) dX8_callsTold_119 (aw_out3 e_119_0 e_119_1 e_119_2) (by decide) ?_
      refine aw_aload_n dX8_callsTold_153 rfl rfl ?_
      refine aw_aload dX8_callsTold_154 rfl ?_
      refine aw_iload dX8_callsTold_156 rfl ?_
      refine aw_iload dX8_callsTold_158 rfl ?_
      refine aw_callV cw_X8_howManyGoOn ml_X8_281 im_X8_howManyGoOn sl_X8_X8_howManyGoOn rfl (by omega) rfl (c_X8_howManyGoOn pk G I (mnF F (myC pk g I c)) n hn hW.1 hI0 _ _) ⟨Nat.le_of_ble_eq_true rfl, Nat.le_of_ble_eq_true rfl⟩ ⟨Nat.zero_le _, Nat.zero_le _⟩ rfl rfl (Nat.le_of_ble_eq_true rfl) dX8_callsTold_160 ?_
      rintro _ _ ⟨rfl, rfl⟩
      rw [goN_c _ (my := mnF F (myC pk g I c) 3) (my' := myC pk g I c) (fun j hj => pf6 _ _ j (by have := hW.1; omega))]
      refine aw_iret dX8_callsTold_163 (Nat.zero_le _) (Nat.zero_le _) ?_
      refine ⟨rfl, _, _, SC.mn I F _, rfl, ?_⟩
      first | (simp [ctR, *]; done) | (simp_all [ctR]; done)
    · have hi6 := lp_lt (N := b) (by omega) c_19
      refine aw_aload_n dX8_callsTold_22 rfl rfl ?_
      refine aw_iload_n dX8_callsTold_23 rfl rfl ?_
      refine aw_iconst (v := 2) dX8_callsTold_24 (by decide) ?_
      refine aw_iload dX8_callsTold_25 rfl ?_
      refine aw_imul dX8_callsTold_27 ?_
      refine aw_iadd dX8_callsTold_28 ?_
      refine aw_callV cw_X6_read ml_X8_226 im_X6_read sl_X6_X6_read rfl (by omega) (entC_row _ _ hk _ _) (c_X6_read pk G I (mnF F (myC pk g I c)) n hn _ hk hz hI _) ⟨Nat.le_of_ble_eq_true rfl, Nat.le_of_ble_eq_true rfl⟩ ⟨Nat.zero_le _, Nat.zero_le _⟩ rfl rfl (Nat.le_of_ble_eq_true rfl) dX8_callsTold_29 ?_
      rintro _ _ ⟨rfl, rfl⟩
      rw [show mnF F (myC pk g I c) (26 + k) = F (26 + k) from st_Fn (by omega)]
      refine aw_istore dX8_callsTold_32 (by decide) rfl ?_
      refine aw_aload_n dX8_callsTold_34 rfl rfl ?_
      refine aw_iload_n dX8_callsTold_35 rfl rfl ?_
      refine aw_iconst (v := 2) dX8_callsTold_36 (by decide) ?_
      refine aw_iload dX8_callsTold_37 rfl ?_
      refine aw_imul dX8_callsTold_39 ?_
      refine aw_iadd dX8_callsTold_40 ?_
      refine aw_iconst (v := 1) dX8_callsTold_41 (by decide) ?_
      refine aw_iadd dX8_callsTold_42 ?_
      refine aw_callV cw_X6_read ml_X8_226 im_X6_read sl_X6_X6_read rfl (by omega) (entC_row _ _ hk _ _) (c_X6_read pk G I (mnF F (myC pk g I c)) n hn _ hk hz hI _) ⟨Nat.le_of_ble_eq_true rfl, Nat.le_of_ble_eq_true rfl⟩ ⟨Nat.zero_le _, Nat.zero_le _⟩ rfl rfl (Nat.le_of_ble_eq_true rfl) dX8_callsTold_43 ?_
      rintro _ _ ⟨rfl, rfl⟩
      rw [show mnF F (myC pk g I c) (26 + k) = F (26 + k) from st_Fn (by omega)]
      refine aw_istore dX8_callsTold_46 (by decide) rfl ?_
      refine aw_aload_n dX8_callsTold_48 rfl rfl ?_
      refine aw_iload dX8_callsTold_49 rfl ?_
      obtain ⟨p, hp, ex⟩ := (perC hW.1 (sRead (I (22 + k) 3) (F (26 + k)) (x + 2 * nI i))).resolve_left (by rw [hall i hi6]; decide)
      refine aw_callV cw_X8_personAt ml_X8_87 im_X8_personAt sl_X8_X8_personAt rfl (by omega) rfl (c_X8_personAt pk G _ _ n hn hW hI0 hp ex) ⟨Nat.le_of_ble_eq_true rfl, Nat.le_of_ble_eq_true rfl⟩ ⟨Nat.zero_le _, Nat.zero_le _⟩ rfl rfl (Nat.le_of_ble_eq_true rfl) dX8_callsTold_51 ?_
      rintro _ _ ⟨rfl, rfl⟩
      refine aw_ifnull dX8_callsTold_54 ?_
      refine aw_aload_n dX8_callsTold_57 rfl rfl ?_
      refine aw_get fd_X8_109_8 dX8_callsTold_58 (by omega) rfl rfl ?_
      refine aw_iload dX8_callsTold_61 rfl ?_
      refine aw_callS cw_X8_has ml_X8_112 sm_X8_has (c_X8_has _ _ _ _) ⟨Nat.le_of_ble_eq_true rfl, Nat.le_of_ble_eq_true rfl⟩ ⟨Nat.zero_le _, Nat.zero_le _⟩ rfl rfl (Nat.le_of_ble_eq_true rfl) dX8_callsTold_63 ?_
      rintro _ _ ⟨rfl, rfl⟩
      refine aw_ifB_eq (tgt := 86) dX8_callsTold_66 (by decide) (fun c_66 => ?_) (fun c_66 => ?_)
      · obtain ⟨m2, rfl⟩ : ∃ m2, m = m2 + 1 := ⟨m - 1, by omega⟩
        have e9 : ctN (I 0 9) (myC pk g I c) (fun k9 => sRead (I (22 + k) 3) (F (26 + k)) (x + 2 * nI k9)) (fun k9 => sRead (I (22 + k) 3) (F (26 + k)) (x + 2 * nI k9 + 1)) 0 b 0 (-9) = (some i, f, h) := by
          rw [← hq, ctN, if_neg (by first | (simp [c_66]; done) | (simp [c_66, c_76]; done) | (simp [c_66, c_76, c_83]; done))]
        rw [e9]
        refine aw_iload dX8_callsTold_86 rfl ?_
        refine aw_iconst (v := 1) dX8_callsTold_88 (by decide) ?_
        refine aw_icmp_ne (tgt := 97) dX8_callsTold_89 (by decide) (fun c_89 => ?_) (fun c_89 => ?_)
        · refine aw_bipush (v := (-100)) dX8_callsTold_97 (by decide) ?_
          refine aw_iload dX8_callsTold_99 rfl ?_
          refine aw_isub dX8_callsTold_101 ?_
          refine aw_iret dX8_callsTold_102 (Nat.zero_le _) (Nat.zero_le _) ?_
          refine ⟨rfl, _, _, SC.mn I F _, rfl, ?_⟩
          simp [ctR, *]
        · refine aw_iload dX8_callsTold_92 rfl ?_
          refine aw_goto (tgt := 102) dX8_callsTold_94 (by decide) ?_
          refine aw_iret dX8_callsTold_102 (Nat.zero_le _) (Nat.zero_le _) ?_
          refine ⟨rfl, _, _, SC.mn I F _, rfl, ?_⟩
          simp [ctR, *]
      · refine aw_aload dX8_callsTold_69 rfl ?_
        refine aw_iload dX8_callsTold_71 rfl ?_
        refine aw_iald dX8_callsTold_73 (by omega) rfl (by rw [ex]; exact vp_in_nI (by have := hW.1; omega) (by decide)) ?_
        rw [show mnF F (myC pk g I c) 3 (sRead (I (22 + k) 3) (F (26 + k)) (x + 2 * nI i)).toNatClampNeg = myC pk g I c (sRead (I (22 + k) 3) (F (26 + k)) (x + 2 * nI i)).toNatClampNeg from by rw [mn3]; exact pf6 _ _ _ (by rw [ex, nI_clamp (by have := hW.1; omega)]; have := hW.1; omega)]
        refine aw_iload dX8_callsTold_74 rfl ?_
        refine aw_icmp_lt (tgt := 86) dX8_callsTold_76 (by decide) (fun c_76 => ?_) (fun c_76 => ?_)
        · obtain ⟨m2, rfl⟩ : ∃ m2, m = m2 + 1 := ⟨m - 1, by omega⟩
          have e9 : ctN (I 0 9) (myC pk g I c) (fun k9 => sRead (I (22 + k) 3) (F (26 + k)) (x + 2 * nI k9)) (fun k9 => sRead (I (22 + k) 3) (F (26 + k)) (x + 2 * nI k9 + 1)) 0 b 0 (-9) = (some i, f, h) := by
            rw [← hq, ctN, if_neg (by first | (simp [c_66]; done) | (simp [c_66, c_76]; done) | (simp [c_66, c_76, c_83]; done))]
          rw [e9]
          refine aw_iload dX8_callsTold_86 rfl ?_
          refine aw_iconst (v := 1) dX8_callsTold_88 (by decide) ?_
          refine aw_icmp_ne (tgt := 97) dX8_callsTold_89 (by decide) (fun c_89 => ?_) (fun c_89 => ?_)
          · refine aw_bipush (v := (-100)) dX8_callsTold_97 (by decide) ?_
            refine aw_iload dX8_callsTold_99 rfl ?_
            refine aw_isub dX8_callsTold_101 ?_
            refine aw_iret dX8_callsTold_102 (Nat.zero_le _) (Nat.zero_le _) ?_
            refine ⟨rfl, _, _, SC.mn I F _, rfl, ?_⟩
            simp [ctR, *]
          · refine aw_iload dX8_callsTold_92 rfl ?_
            refine aw_goto (tgt := 102) dX8_callsTold_94 (by decide) ?_
            refine aw_iret dX8_callsTold_102 (Nat.zero_le _) (Nat.zero_le _) ?_
            refine ⟨rfl, _, _, SC.mn I F _, rfl, ?_⟩
            simp [ctR, *]
        · refine aw_iload dX8_callsTold_79 rfl ?_
          refine aw_iload dX8_callsTold_81 rfl ?_
          refine aw_icmp_gt (tgt := 103) dX8_callsTold_83 (by decide) (fun c_83 => ?_) (fun c_83 => ?_)
          · refine aw_iload dX8_callsTold_103 rfl ?_
            refine aw_istore dX8_callsTold_105 (by decide) rfl ?_
            refine aw_iload dX8_callsTold_107 rfl ?_
            refine aw_istore dX8_callsTold_109 (by decide) rfl ?_
            refine aw_iinc (v := 1) dX8_callsTold_111 rfl (by decide) (by decide) rfl ?_
            refine aw_goto (tgt := 16) dX8_callsTold_114 (by decide) ?_
            rw [nI_1]
            obtain ⟨m2, rfl⟩ : ∃ m2, m = m2 + 1 := ⟨m - 1, by omega⟩
            exact ih m2 (by omega) (i + 1) _ _ _ _ (by omega) (by rw [← hq, ctN, if_pos (by simp [c_66, c_76, c_83])])
          · obtain ⟨m2, rfl⟩ : ∃ m2, m = m2 + 1 := ⟨m - 1, by omega⟩
            have e9 : ctN (I 0 9) (myC pk g I c) (fun k9 => sRead (I (22 + k) 3) (F (26 + k)) (x + 2 * nI k9)) (fun k9 => sRead (I (22 + k) 3) (F (26 + k)) (x + 2 * nI k9 + 1)) 0 b 0 (-9) = (some i, f, h) := by
              rw [← hq, ctN, if_neg (by first | (simp [c_66]; done) | (simp [c_66, c_76]; done) | (simp [c_66, c_76, c_83]; done))]
            rw [e9]
            refine aw_iload dX8_callsTold_86 rfl ?_
            refine aw_iconst (v := 1) dX8_callsTold_88 (by decide) ?_
            refine aw_icmp_ne (tgt := 97) dX8_callsTold_89 (by decide) (fun c_89 => ?_) (fun c_89 => ?_)
            · refine aw_bipush (v := (-100)) dX8_callsTold_97 (by decide) ?_
              refine aw_iload dX8_callsTold_99 rfl ?_
              refine aw_isub dX8_callsTold_101 ?_
              refine aw_iret dX8_callsTold_102 (Nat.zero_le _) (Nat.zero_le _) ?_
              refine ⟨rfl, _, _, SC.mn I F _, rfl, ?_⟩
              simp [ctR, *]
            · refine aw_iload dX8_callsTold_92 rfl ?_
              refine aw_goto (tgt := 102) dX8_callsTold_94 (by decide) ?_
              refine aw_iret dX8_callsTold_102 (Nat.zero_le _) (Nat.zero_le _) ?_
              refine ⟨rfl, _, _, SC.mn I F _, rfl, ?_⟩
              simp [ctR, *]
set_option maxRecDepth 100000 in
set_option maxHeartbeats 4000000 in
theorem c_X8_callsTold {l : Launch} {D : va_G} {tc : Nat → ClassId} (pk : Nat → Nat) (G : Nat → Option Nat) (I F : Nat → Nat → Int32) (n : Nat) (hn : 30 ≤ n) {c : Nat} {g : Nat → Nat} (hW : WP pk G n c g) (hI0 : I 0 7 = nI c) {k : Nat} (hk : k < 4) {z : Nat} (hz : z ≤ 60) (hI : I (22 + k) 3 = nI z) (x w : Int32) {b : Nat} (hb : b ≤ 20) (hall : ∀ k9, k9 < b → sP c ((fun k9 => sRead (I (22 + k) 3) (F (26 + k)) (x + 2 * nI k9)) k9) = true) : AM l D tc yX8_callsTold cX8_callsTold 11 (some .int) 3 66 0 0 [.ref 0, .ref (22 + k), .int x, .int (nI b), .int w] n (hC pk G I F) (fun v n1 h1 => n1 = n ∧ (∃ I1 F1, SC I F I1 F1 ∧ h1 = hC pk G I1 F1 ∧ v = some (.int (ctR (I 0 9) (myC pk g I c) c w (ctN (I 0 9) (myC pk g I c) (fun k9 => sRead (I (22 + k) 3) (F (26 + k)) (x + 2 * nI k9)) (fun k9 => sRead (I (22 + k) 3) (F (26 + k)) (x + 2 * nI k9 + 1)) 0 b 0 (-9)))))) := by
  refine am_of (L := [some (.ref 0), some (.ref (22 + k)), some (.int x), some (.int (nI b)), some (.int w), none, none, none, none, none, none]) (by decide +kernel) (Nat.le_of_ble_eq_true rfl) rfl ?_
  refine aw_aload_n dX8_callsTold_0 rfl rfl ?_
  refine aw_callV cw_X8_maysNow ml_X8_129 im_X8_maysNow sl_X8_X8_maysNow rfl (by omega) rfl (c_X8_maysNow pk G _ _ n hn hW hI0) ⟨Nat.le_of_ble_eq_true rfl, Nat.le_of_ble_eq_true rfl⟩ ⟨Nat.zero_le _, Nat.zero_le _⟩ rfl rfl (Nat.le_of_ble_eq_true rfl) dX8_callsTold_1 ?_
  rintro _ _ ⟨rfl, rfl⟩
  refine aw_astore dX8_callsTold_4 (by decide) rfl ?_
  refine aw_iconst (v := 0) dX8_callsTold_6 (by decide) ?_
  refine aw_istore dX8_callsTold_7 (by decide) rfl ?_
  refine aw_bipush (v := (-9)) dX8_callsTold_9 (by decide) ?_
  refine aw_istore dX8_callsTold_11 (by decide) rfl ?_
  refine aw_iconst (v := 0) dX8_callsTold_13 (by decide) ?_
  refine aw_istore dX8_callsTold_14 (by decide) rfl ?_
  exact lp_X8_callsTold pk G I F n hn hW hI0 hk hz hI x w hb hall b 0 0 (-9) none none (by omega) rfl
set_option maxRecDepth 100000 in
set_option maxHeartbeats 4000000 in
theorem c_X8_calls_no {l : Launch} {D : va_G} {tc : Nat → ClassId} (pk : Nat → Nat) (G : Nat → Option Nat) (I F : Nat → Nat → Int32) (n : Nat) (hn : 30 ≤ n) (J : Nat → Nat → Int32) (hJ : J = st_I I 0 11 0) {x : Int32} (hx : sP 4 x = false) (a : Int32) (i : Int32) (m : Int32) (w : Int32) : AM l D tc yX8_calls cX8_calls 8 (some .int) 4 96 0 0 [.ref 0, .int x, .int a, .int i, .int m, .int w] n (hC pk G I F) (fun v n1 h1 => n1 = n ∧ (v = some (.int (-1)) ∧ h1 = hC pk G J F)) := by
  refine am_of (L := [some (.ref 0), some (.int x), some (.int a), some (.int i), some (.int m), some (.int w), none, none]) (by decide +kernel) (Nat.le_of_ble_eq_true rfl) rfl ?_
  refine aw_aload_n dX8_calls_0 rfl rfl ?_
  refine aw_iconst (v := 0) dX8_calls_1 (by decide) ?_
  refine aw_putI fp_X8_56_8 dX8_calls_2 (by omega) rfl rfl rfl (Nat.le_of_ble_eq_true rfl) rfl hJ.symm ?_
  clear hJ
  refine aw_aload_n dX8_calls_5 rfl rfl ?_
  refine aw_iload_n dX8_calls_6 rfl rfl ?_
  refine aw_callV cw_X8_sheetAt ml_X8_60 im_X8_sheetAt sl_X8_X8_sheetAt rfl (by omega) rfl (c_X8_sheetAt_no pk G _ _ n hn hx) ⟨Nat.le_of_ble_eq_true rfl, Nat.le_of_ble_eq_true rfl⟩ ⟨Nat.zero_le _, Nat.zero_le _⟩ rfl rfl (Nat.le_of_ble_eq_true rfl) dX8_calls_7 ?_
  rintro _ _ ⟨rfl, rfl⟩
  refine aw_astoreN dX8_calls_10 (by decide) rfl ?_
  refine aw_aloadN dX8_calls_12 rfl ?_
  refine aw_ifnonnullN dX8_calls_14 ?_
  refine aw_iconst (v := (-1)) dX8_calls_17 (by decide) ?_
  refine aw_iret dX8_calls_18 (Nat.zero_le _) (Nat.zero_le _) ?_
  exact ⟨rfl, rfl, rfl⟩
set_option maxRecDepth 100000 in
set_option maxHeartbeats 4000000 in
theorem c_X8_calls {l : Launch} {D : va_G} {tc : Nat → ClassId} (pk : Nat → Nat) (G : Nat → Option Nat) (I F : Nat → Nat → Int32) (n : Nat) (hn : 30 ≤ n) (J : Nat → Nat → Int32) (hJ : J = st_I I 0 11 0) {c : Nat} {g : Nat → Nat} (hW : WP pk G n c g) (hI0 : J 0 7 = nI c) {k : Nat} (hk : k < 4) {z : Nat} (hz : z ≤ 60) (hI : J (22 + k) 3 = nI z) (a i m w : Int32) : AM l D tc yX8_calls cX8_calls 8 (some .int) 4 96 0 0 [.ref 0, .int (nI k), .int a, .int i, .int m, .int w] n (hC pk G I F) (fun v n1 h1 => n1 = n ∧ (∃ I1 F1, SC (if (sW a 0 2 && sW m 0 20 && sW w 0 3) then (if (sFt (J (22 + k) 1) (J (22 + k) 2) (J (22 + k) 3) a i (2 * m)) = 0 then J else st_I J 0 11 (sFt (J (22 + k) 1) (J (22 + k) 2) (J (22 + k) 3) a i (2 * m))) else J) F I1 F1 ∧ h1 = hC pk G I1 F1 ∧ v = some (.int (if (sW a 0 2 && sW m 0 20 && sW w 0 3) then (if (sFt (J (22 + k) 1) (J (22 + k) 2) (J (22 + k) 3) a i (2 * m)) = 0 then (if J 0 7 = 0 then -3 else if anF c (fun k9 => sRead (J (22 + k) 3) (F (26 + k)) (i + 2 * nI k9)) m.toNatClampNeg then ctR (J 0 9) (myC pk g J c) c w (ctN (J 0 9) (myC pk g J c) (fun k9 => sRead (J (22 + k) 3) (F (26 + k)) (i + 2 * nI k9)) (fun k9 => sRead (J (22 + k) 3) (F (26 + k)) (i + 2 * nI k9 + 1)) 0 m.toNatClampNeg 0 (-9)) else -1) else -10 - (sFt (J (22 + k) 1) (J (22 + k) 2) (J (22 + k) 3) a i (2 * m))) else -2)))) := by
  refine am_of (L := [some (.ref 0), some (.int (nI k)), some (.int a), some (.int i), some (.int m), some (.int w), none, none]) (by decide +kernel) (Nat.le_of_ble_eq_true rfl) rfl ?_
  refine aw_aload_n dX8_calls_0 rfl rfl ?_
  refine aw_iconst (v := 0) dX8_calls_1 (by decide) ?_
  refine aw_putI fp_X8_56_8 dX8_calls_2 (by omega) rfl rfl rfl (Nat.le_of_ble_eq_true rfl) rfl hJ.symm ?_
  clear hJ
  refine aw_aload_n dX8_calls_5 rfl rfl ?_
  refine aw_iload_n dX8_calls_6 rfl rfl ?_
  refine aw_callV cw_X8_sheetAt ml_X8_60 im_X8_sheetAt sl_X8_X8_sheetAt rfl (by omega) rfl (c_X8_sheetAt pk G _ _ n hn hk) ⟨Nat.le_of_ble_eq_true rfl, Nat.le_of_ble_eq_true rfl⟩ ⟨Nat.zero_le _, Nat.zero_le _⟩ rfl rfl (Nat.le_of_ble_eq_true rfl) dX8_calls_7 ?_
  rintro _ _ ⟨rfl, rfl⟩
  refine aw_astore dX8_calls_10 (by decide) rfl ?_
  refine aw_aload dX8_calls_12 rfl ?_
  refine aw_ifnonnull (tgt := 19) dX8_calls_14 (by decide) ?_
  refine aw_iload_n dX8_calls_19 rfl rfl ?_
  refine aw_callS cw_X8_isLane ml_X8_64 sm_X8_isLane (c_X8_isLane _ _ _) ⟨Nat.le_of_ble_eq_true rfl, Nat.le_of_ble_eq_true rfl⟩ ⟨Nat.zero_le _, Nat.zero_le _⟩ rfl rfl (Nat.le_of_ble_eq_true rfl) dX8_calls_20 ?_
  rintro _ _ ⟨rfl, rfl⟩
  refine aw_ifB_eq (tgt := 47) dX8_calls_23 (by decide) (fun c_23 => ?_) (fun c_23 => ?_)
  · refine aw_bipush (v := (-2)) dX8_calls_47 (by decide) ?_
    refine aw_iret dX8_calls_49 (Nat.zero_le _) (Nat.zero_le _) ?_
    refine ⟨rfl, _, _, SC.rf _ _, ?_, ?_⟩ <;> first | (simp [*]; done) | (simp_all; done)
  · refine aw_iload dX8_calls_26 rfl ?_
    refine aw_iconst (v := 0) dX8_calls_28 (by decide) ?_
    refine aw_bipush (v := (20)) dX8_calls_29 (by decide) ?_
    refine aw_callS cw_X8_isWithin ml_X8_122 sm_X8_isWithin (c_X8_isWithin _ _ _ _ _) ⟨Nat.le_of_ble_eq_true rfl, Nat.le_of_ble_eq_true rfl⟩ ⟨Nat.zero_le _, Nat.zero_le _⟩ rfl rfl (Nat.le_of_ble_eq_true rfl) dX8_calls_31 ?_
    rintro _ _ ⟨rfl, rfl⟩
    refine aw_ifB_eq (tgt := 47) dX8_calls_34 (by decide) (fun c_34 => ?_) (fun c_34 => ?_)
    · refine aw_bipush (v := (-2)) dX8_calls_47 (by decide) ?_
      refine aw_iret dX8_calls_49 (Nat.zero_le _) (Nat.zero_le _) ?_
      refine ⟨rfl, _, _, SC.rf _ _, ?_, ?_⟩ <;> first | (simp [*]; done) | (simp_all; done)
    · refine aw_iload dX8_calls_37 rfl ?_
      refine aw_iconst (v := 0) dX8_calls_39 (by decide) ?_
      refine aw_iconst (v := 3) dX8_calls_40 (by decide) ?_
      refine aw_callS cw_X8_isWithin ml_X8_122 sm_X8_isWithin (c_X8_isWithin _ _ _ _ _) ⟨Nat.le_of_ble_eq_true rfl, Nat.le_of_ble_eq_true rfl⟩ ⟨Nat.zero_le _, Nat.zero_le _⟩ rfl rfl (Nat.le_of_ble_eq_true rfl) dX8_calls_41 ?_
      rintro _ _ ⟨rfl, rfl⟩
      refine aw_ifB_ne (tgt := 50) dX8_calls_44 (by decide) (fun c_44 => ?_) (fun c_44 => ?_)
      · refine aw_aload dX8_calls_50 rfl ?_
        refine aw_iload_n dX8_calls_52 rfl rfl ?_
        refine aw_iload_n dX8_calls_53 rfl rfl ?_
        refine aw_iconst (v := 2) dX8_calls_54 (by decide) ?_
        refine aw_iload dX8_calls_55 rfl ?_
        refine aw_imul dX8_calls_57 ?_
        refine aw_callS cw_X8_faultOfTaking ml_X8_68 sm_X8_faultOfTaking (c_X8_faultOfTaking pk G _ _ n hn hk _ _ _) ⟨Nat.le_of_ble_eq_true rfl, Nat.le_of_ble_eq_true rfl⟩ ⟨Nat.zero_le _, Nat.zero_le _⟩ rfl rfl (Nat.le_of_ble_eq_true rfl) dX8_calls_58 ?_
        rintro _ _ ⟨rfl, rfl⟩
        refine aw_istore dX8_calls_61 (by decide) rfl ?_
        refine aw_iload dX8_calls_63 rfl ?_
        refine aw_if_eq (tgt := 75) dX8_calls_65 (by decide) (fun c_65 => ?_) (fun c_65 => ?_)
        · refine aw_aload_n dX8_calls_75 rfl rfl ?_
          refine aw_get fd_X8_84_8 dX8_calls_76 (by omega) rfl rfl ?_
          refine aw_if_ne (tgt := 85) dX8_calls_79 (by decide) (fun c_79 => ?_) (fun c_79 => ?_)
          · refine aw_aload_n dX8_calls_85 rfl rfl ?_
            refine aw_aload dX8_calls_86 rfl ?_
            refine aw_iload_n dX8_calls_88 rfl rfl ?_
            refine aw_iload dX8_calls_89 rfl ?_
            obtain ⟨b, hb, rfl⟩ := sW_ex (m := 20) (by decide) c_34
            refine aw_callV cw_X8_allNameSomebody ml_X8_167 im_X8_allNameSomebody sl_X8_X8_allNameSomebody rfl (by omega) rfl (c_X8_allNameSomebody pk G _ _ n hn hW hI0 hk hz hI _ hb) ⟨Nat.le_of_ble_eq_true rfl, Nat.le_of_ble_eq_true rfl⟩ ⟨Nat.zero_le _, Nat.zero_le _⟩ rfl rfl (Nat.le_of_ble_eq_true rfl) dX8_calls_91 ?_
            rintro _ _ ⟨rfl, rfl⟩
            refine aw_ifB_ne (tgt := 99) dX8_calls_94 (by decide) (fun c_94 => ?_) (fun c_94 => ?_)
            · refine aw_aload_n dX8_calls_99 rfl rfl ?_
              refine aw_aload dX8_calls_100 rfl ?_
              refine aw_iload_n dX8_calls_102 rfl rfl ?_
              refine aw_iload dX8_calls_103 rfl ?_
              refine aw_iload dX8_calls_105 rfl ?_
              refine aw_callV cw_X8_callsTold ml_X8_171 im_X8_callsTold sl_X8_X8_callsTold rfl (by omega) rfl (c_X8_callsTold pk G _ _ n hn hW hI0 hk hz hI _ _ hb (anF_yes c_94)) ⟨Nat.le_of_ble_eq_true rfl, Nat.le_of_ble_eq_true rfl⟩ ⟨Nat.zero_le _, Nat.zero_le _⟩ rfl rfl (Nat.le_of_ble_eq_true rfl) dX8_calls_107 ?_
              rintro _ _ ⟨I1, F1, hs, rfl, rfl⟩
              refine aw_iret dX8_calls_110 (Nat.zero_le _) (Nat.zero_le _) ?_
              have e1 : (sW a 0 2 && sW (nI b) 0 20 && sW w 0 3) = true := by simp [*]
              have e2 : (nI b).toNatClampNeg = b := nI_clamp (by omega)
              rw [if_pos e1, if_pos e1, if_pos c_65, if_pos c_65, if_neg c_79, e2, if_pos c_94]
              exact ⟨rfl, I1, F1, hs, rfl, rfl⟩
            · refine aw_iconst (v := (-1)) dX8_calls_97 (by decide) ?_
              refine aw_iret dX8_calls_98 (Nat.zero_le _) (Nat.zero_le _) ?_
              have e1 : (sW a 0 2 && sW (nI b) 0 20 && sW w 0 3) = true := by simp [*]
              have e2 : (nI b).toNatClampNeg = b := nI_clamp (by omega)
              rw [if_pos e1, if_pos e1, if_pos c_65, if_pos c_65, if_neg c_79, e2, if_neg (by rw [c_94]; decide)]
              exact ⟨rfl, _, _, SC.rf _ _, rfl, rfl⟩
          · refine aw_bipush (v := (-3)) dX8_calls_82 (by decide) ?_
            refine aw_iret dX8_calls_84 (Nat.zero_le _) (Nat.zero_le _) ?_
            refine ⟨rfl, _, _, SC.rf _ _, ?_, ?_⟩ <;> first | (simp [*]; done) | (simp_all; done)
        · refine aw_aload_n dX8_calls_68 rfl rfl ?_
          refine aw_iload dX8_calls_69 rfl ?_
          refine aw_callV cw_X8_faulted ml_X8_72 im_X8_faulted sl_X8_X8_faulted rfl (by omega) rfl (c_X8_faulted pk G _ _ n hn _) ⟨Nat.le_of_ble_eq_true rfl, Nat.le_of_ble_eq_true rfl⟩ ⟨Nat.zero_le _, Nat.zero_le _⟩ rfl rfl (Nat.le_of_ble_eq_true rfl) dX8_calls_71 ?_
          rintro _ _ ⟨rfl, rfl⟩
          refine aw_iret dX8_calls_74 (Nat.zero_le _) (Nat.zero_le _) ?_
          refine ⟨rfl, _, _, SC.rf _ _, ?_, ?_⟩ <;> first | (simp [*]; done) | (simp_all; done)
      · refine aw_bipush (v := (-2)) dX8_calls_47 (by decide) ?_
        refine aw_iret dX8_calls_49 (Nat.zero_le _) (Nat.zero_le _) ?_
        refine ⟨rfl, _, _, SC.rf _ _, ?_, ?_⟩ <;> first | (simp [*]; done) | (simp_all; done)
