section IFB
variable {l : Launch} {D : va_G} {tc : Nat → ClassId} {own : String} {cc : ByteArray} {nL : Nat} {ret : Option FieldType} {R : Room} {n0 mc ms : Nat} {Q : Option Value → Nat → aw_H → Prop} {pc : Nat} {L : List (Option Value)} {st rest : List Value} {n : Nat} {h : aw_H} {cells slots : Nat}
theorem aw_ifB_eq {b : Bool} {off : Int} {tgt : Nat} (d : decode cc pc = .ok (.ifCond .eq off, 3)) (ht : (pc : Int) + off = (tgt : Int)) (kt : b = false → AW l D tc own cc nL ret R n0 mc ms Q tgt L rest n h cells slots) (kf : b = true → AW l D tc own cc nL ret R n0 mc ms Q (pc + 3) L rest n h cells slots) : AW l D tc own cc nL ret R n0 mc ms Q pc L (.int (b2i b) :: rest) n h cells slots := aw_if_eq d ht (fun q => kt ((b2i_eq0 _).mp q)) (fun q => kf ((b2i_ne0 _).mp q))
theorem aw_ifB_ne {b : Bool} {off : Int} {tgt : Nat} (d : decode cc pc = .ok (.ifCond .ne off, 3)) (ht : (pc : Int) + off = (tgt : Int)) (kt : b = true → AW l D tc own cc nL ret R n0 mc ms Q tgt L rest n h cells slots) (kf : b = false → AW l D tc own cc nL ret R n0 mc ms Q (pc + 3) L rest n h cells slots) : AW l D tc own cc nL ret R n0 mc ms Q pc L (.int (b2i b) :: rest) n h cells slots := aw_if_ne d ht (fun q => kt ((b2i_ne0 _).mp q)) (fun q => kf ((b2i_eq0 _).mp q))
end IFB
/-! what stays apart from the class's scratch; who is asked only of six -/
def SC (I F I1 F1 : Nat → Nat → Int32) : Prop := (∀ a, a ≠ 4 → I1 a = I a) ∧ ∀ a, a ≠ 3 → a ≠ 5 → a ≠ 6 → a ≠ 15 → a ≠ 16 → F1 a = F a
theorem SC.rf (I F : Nat → Nat → Int32) : SC I F I F := ⟨fun _ _ => rfl, fun _ _ _ _ _ _ => rfl⟩
theorem SC.tr {I F I1 F1 I2 F2 : Nat → Nat → Int32} (h : SC I F I1 F1) (h2 : SC I1 F1 I2 F2) : SC I F I2 F2 := ⟨fun a q => (h2.1 a q).trans (h.1 a q), fun a q1 q2 q3 q4 q5 => (h2.2 a q1 q2 q3 q4 q5).trans (h.2 a q1 q2 q3 q4 q5)⟩
theorem L3_ne (I : Nat → Nat → Int32) (f h s : Int32) {a : Nat} (ha : a ≠ 4) : L3 I f h s a = I a := by funext k; simp [L3, ha]
theorem SC.l3 (I F : Nat → Nat → Int32) (f h s : Int32) : SC I F (L3 I f h s) F := ⟨fun a q => L3_ne I f h s q, fun _ _ _ _ _ _ => rfl⟩
theorem SC.F {I F : Nat → Nat → Int32} (a : Nat) (ha : a = 3 ∨ a = 5 ∨ a = 6 ∨ a = 15 ∨ a = 16) (g : Nat → Int32) : SC I F I (st_F F a g) := ⟨fun _ _ => rfl, fun b q1 q2 q3 q4 q5 => st_Fn (by omega)⟩
theorem SC.mn (I F : Nat → Nat → Int32) (my : Nat → Int32) : SC I F I (mnF F my) := SC.F 3 (by decide) _
theorem SC.gt (I F : Nat → Nat → Int32) (x : Int32) (k : Nat) : SC I F I (gtF F x k) := (SC.F 5 (by decide) _).tr (SC.F 6 (by decide) _)
theorem SC.lp (I F : Nat → Nat → Int32) (k : Nat) : SC I F I (lpF F k) := (SC.F 15 (by decide) _).tr (SC.F 16 (by decide) _)
theorem stp_c {my my' : Nat → Int32} {set : Int32} {i : Nat} {q : Int32 × Int32 × Int32 × Int32} (h : my i = my' i) : stp my set i q = stp my' set i q := by unfold stp; rw [h]
theorem rndN_c {my my' : Nat → Int32} {set : Int32} {q : Int32 × Int32 × Int32 × Int32} : ∀ k, (∀ i, i < k → my i = my' i) → rndN my set q k = rndN my' set q k
  | 0, _ => rfl
  | k + 1, h => by rw [rndN, rndN, rndN_c k (fun i hi => h i (by omega)), stp_c (h k (by omega))]
theorem itN_c {my my' : Nat → Int32} {set : Int32} (h : ∀ i, i < 6 → my i = my' i) : ∀ r, itN my set r = itN my' set r
  | 0 => rfl
  | r + 1 => by rw [itN, itN, itN_c h r, rndN_c 6 h]
theorem sCall_c {my my' : Nat → Int32} {set : Int32} (h : ∀ i, i < 6 → my i = my' i) : sCall my set = sCall my' set := itN_c h 19
theorem sDown_c {my my' : Nat → Int32} {set : Int32} (h : ∀ i, i < 6 → my i = my' i) : sDown my set = sDown my' set := by unfold sDown; rw [sCall_c h]
theorem lfN_c {my my' : Nat → Int32} {set : Int32} (h : ∀ i, i < 6 → my i = my' i) : ∀ k, lfN my set k = lfN my' set k
  | 0 => rfl
  | k + 1 => by rw [lfN, lfN, lfN_c h k, sDown_c h]
theorem dnN_c {my my' : Nat → Int32} {set : Int32} (h : ∀ i, i < 6 → my i = my' i) : dnN my set = dnN my' set := by funext k; unfold dnN; rw [lfN_c h, sDown_c h]
theorem frN_c {my my' : Nat → Int32} {set : Int32} (h : ∀ i, i < 6 → my i = my' i) : frN my set = frN my' set := by funext k; unfold frN; rw [lfN_c h, sCall_c h]
theorem gtC_c {my my' : Nat → Int32} {set : Int32} (h : ∀ i, i < 6 → my i = my' i) : ∀ m i, gtC my set i m = gtC my' set i m
  | 0, _ => rfl
  | m + 1, i => by rw [gtC, gtC, lfN_c h, gtC_c h m]
theorem gtM_c {my my' : Nat → Int32} {set : Int32} (h : ∀ i, i < 6 → my i = my' i) : gtM my set = gtM my' set := gtC_c h 6 0
theorem sPlace_c {my my' : Nat → Int32} {set p : Int32} (h : ∀ i, i < 6 → my i = my' i) : sPlace my set p = sPlace my' set p := by unfold sPlace; rw [dnN_c h, gtM_c h]
theorem pf6 (g f : Nat → Int32) : ∀ i, i < 6 → pf g f 6 i = g i := fun i hi => by unfold pf; rw [if_pos hi]
theorem rdAll_c {my my' wh fa on : Nat → Int32} (h : ∀ i, i < 6 → my i = my' i) : ∀ {c : Nat}, (∀ k, k < c → vp_in (wh k) 6) → rdAll my wh fa on c = rdAll my' wh fa on c
  | 0, _ => rfl
  | c + 1, hw => by
    obtain ⟨j, hj, e⟩ := vp_in_of (hw c (by omega)) (by decide)
    rw [rdAll, rdAll, rdAll_c h (fun k hk => hw k (by omega))]
    unfold rdSo
    rw [e, nI_clamp (by omega), h j hj]
theorem mn3 (F : Nat → Nat → Int32) (my : Nat → Int32) : mnF F my 3 = pf my (F 3) 6 := rfl
def sel8 (w a0 a1 a2 a3 a4 a5 a6 a7 : Int32) : Int32 := if w = 0 then a0 else if w = 1 then a1 else if w = 2 then a2 else if w = 3 then a3 else if w = 4 then a4 else if w = 5 then a5 else if w = 6 then a6 else if w = 7 then a7 else -2
def sPop (x : Int32) : Int32 :=
  let a := x - ((x.toUInt32 >>> (Int32.toUInt32 1 &&& Int32.toUInt32 31)).toInt32 &&& 1431655765)
  let b := (a &&& 858993459) + ((a.toUInt32 >>> (Int32.toUInt32 2 &&& Int32.toUInt32 31)).toInt32 &&& 858993459)
  let c := (b + (b.toUInt32 >>> (Int32.toUInt32 4 &&& Int32.toUInt32 31)).toInt32) &&& 252645135
  let d := c + (c.toUInt32 >>> (Int32.toUInt32 8 &&& Int32.toUInt32 31)).toInt32
  let e := d + (d.toUInt32 >>> (Int32.toUInt32 16 &&& Int32.toUInt32 31)).toInt32
  e &&& 63

set_option maxRecDepth 100000 in
set_option maxHeartbeats 4000000 in
theorem c_J6_bitCount_0f7a4 {l : Launch} {D : va_G} {tc : Nat → ClassId} (x : Int32) (n : Nat) (h : aw_H) : AM l D tc yJ6_bitCount_0f7a4 cJ6_bitCount_0f7a4 1 (some .int) 0 0 0 0 [.int x] n h (fun v n1 h1 => n1 = n ∧ (v = some (.int (sPop x)) ∧ h1 = h)) := by
  refine am_of (L := [some (.int x)]) (by decide +kernel) (Nat.le_of_ble_eq_true rfl) rfl ?_
  refine aw_iload_n dJ6_bitCount_0f7a4_0 rfl rfl ?_
  refine aw_iload_n dJ6_bitCount_0f7a4_1 rfl rfl ?_
  refine aw_iconst (v := 1) dJ6_bitCount_0f7a4_2 (by decide) ?_
  refine aw_iushr dJ6_bitCount_0f7a4_3 ?_
  refine aw_ldcw dJ6_bitCount_0f7a4_4 ct_J6_265 ?_
  refine aw_iand dJ6_bitCount_0f7a4_7 ?_
  refine aw_isub dJ6_bitCount_0f7a4_8 ?_
  refine aw_istore_n dJ6_bitCount_0f7a4_9 rfl (by decide) rfl ?_
  refine aw_iload_n dJ6_bitCount_0f7a4_10 rfl rfl ?_
  refine aw_ldcw dJ6_bitCount_0f7a4_11 ct_J6_266 ?_
  refine aw_iand dJ6_bitCount_0f7a4_14 ?_
  refine aw_iload_n dJ6_bitCount_0f7a4_15 rfl rfl ?_
  refine aw_iconst (v := 2) dJ6_bitCount_0f7a4_16 (by decide) ?_
  refine aw_iushr dJ6_bitCount_0f7a4_17 ?_
  refine aw_ldcw dJ6_bitCount_0f7a4_18 ct_J6_266 ?_
  refine aw_iand dJ6_bitCount_0f7a4_21 ?_
  refine aw_iadd dJ6_bitCount_0f7a4_22 ?_
  refine aw_istore_n dJ6_bitCount_0f7a4_23 rfl (by decide) rfl ?_
  refine aw_iload_n dJ6_bitCount_0f7a4_24 rfl rfl ?_
  refine aw_iload_n dJ6_bitCount_0f7a4_25 rfl rfl ?_
  refine aw_iconst (v := 4) dJ6_bitCount_0f7a4_26 (by decide) ?_
  refine aw_iushr dJ6_bitCount_0f7a4_27 ?_
  refine aw_iadd dJ6_bitCount_0f7a4_28 ?_
  refine aw_ldcw dJ6_bitCount_0f7a4_29 ct_J6_267 ?_
  refine aw_iand dJ6_bitCount_0f7a4_32 ?_
  refine aw_istore_n dJ6_bitCount_0f7a4_33 rfl (by decide) rfl ?_
  refine aw_iload_n dJ6_bitCount_0f7a4_34 rfl rfl ?_
  refine aw_iload_n dJ6_bitCount_0f7a4_35 rfl rfl ?_
  refine aw_bipush (v := (8)) dJ6_bitCount_0f7a4_36 (by decide) ?_
  refine aw_iushr dJ6_bitCount_0f7a4_38 ?_
  refine aw_iadd dJ6_bitCount_0f7a4_39 ?_
  refine aw_istore_n dJ6_bitCount_0f7a4_40 rfl (by decide) rfl ?_
  refine aw_iload_n dJ6_bitCount_0f7a4_41 rfl rfl ?_
  refine aw_iload_n dJ6_bitCount_0f7a4_42 rfl rfl ?_
  refine aw_bipush (v := (16)) dJ6_bitCount_0f7a4_43 (by decide) ?_
  refine aw_iushr dJ6_bitCount_0f7a4_45 ?_
  refine aw_iadd dJ6_bitCount_0f7a4_46 ?_
  refine aw_istore_n dJ6_bitCount_0f7a4_47 rfl (by decide) rfl ?_
  refine aw_iload_n dJ6_bitCount_0f7a4_48 rfl rfl ?_
  refine aw_bipush (v := (63)) dJ6_bitCount_0f7a4_49 (by decide) ?_
  refine aw_iand dJ6_bitCount_0f7a4_51 ?_
  refine aw_iret dJ6_bitCount_0f7a4_52 (Nat.zero_le _) (Nat.zero_le _) ?_
  exact ⟨rfl, rfl, rfl⟩
set_option maxRecDepth 100000 in
set_option maxHeartbeats 4000000 in
theorem c_X8_ofPerson_no {l : Launch} {D : va_G} {tc : Nat → ClassId} (pk : Nat → Nat) (G : Nat → Option Nat) (I F : Nat → Nat → Int32) (n : Nat) (hn : 30 ≤ n) {c : Nat} (hI0 : I 0 7 = nI c) {x : Int32} (hx : sP c x = false) (w : Int32) : AM l D tc yX8_ofPerson cX8_ofPerson 4 (some .int) 4 88 0 0 [.ref 0, .int x, .int w] n (hC pk G I F) (fun v n1 h1 => n1 = n ∧ (v = some (.int (-1)) ∧ h1 = hC pk G I F)) := by
  refine am_of (L := [some (.ref 0), some (.int x), some (.int w), none]) (by decide +kernel) (Nat.le_of_ble_eq_true rfl) rfl ?_
  refine aw_aload_n dX8_ofPerson_0 rfl rfl ?_
  refine aw_iload_n dX8_ofPerson_1 rfl rfl ?_
  refine aw_callV cw_X8_personAt ml_X8_87 im_X8_personAt sl_X8_X8_personAt rfl (by omega) rfl (c_X8_personAt_no pk G _ _ n hn hI0 hx) ⟨Nat.le_of_ble_eq_true rfl, Nat.le_of_ble_eq_true rfl⟩ ⟨Nat.zero_le _, Nat.zero_le _⟩ rfl rfl (Nat.le_of_ble_eq_true rfl) dX8_ofPerson_2 ?_
  rintro _ _ ⟨rfl, rfl⟩
  refine aw_astore_nN dX8_ofPerson_5 rfl (by decide) rfl ?_
  refine aw_aload_nN dX8_ofPerson_6 rfl rfl ?_
  refine aw_ifnonnullN dX8_ofPerson_7 ?_
  refine aw_iconst (v := (-1)) dX8_ofPerson_10 (by decide) ?_
  refine aw_iret dX8_ofPerson_11 (Nat.zero_le _) (Nat.zero_le _) ?_
  exact ⟨rfl, rfl, rfl⟩
set_option maxRecDepth 100000 in
set_option maxHeartbeats 4000000 in
theorem c_X8_ofPerson {l : Launch} {D : va_G} {tc : Nat → ClassId} (pk : Nat → Nat) (G : Nat → Option Nat) (I F : Nat → Nat → Int32) (n : Nat) (hn : 30 ≤ n) {c : Nat} {g : Nat → Nat} (hW : WP pk G n c g) (hI0 : I 0 7 = nI c) {p : Nat} (hp : p < c) (w : Int32) : AM l D tc yX8_ofPerson cX8_ofPerson 4 (some .int) 4 88 0 0 [.ref 0, .int (nI p), .int w] n (hC pk G I F) (fun v n1 h1 => n1 = n ∧ (v = some (.int (sel8 w (kd (pk (g p))) (I (g p + 30) 1) (I (g p + 30) 2) (sWould (kd (pk (g p))) (I (g p + 30) 1)) (sMay (kd (pk (g p))) (I (g p + 30) 1) (I (g p + 30) 2) (I 0 8)) (b2i (sHas (I 0 9) (nI p))) (sBy F (nI p)) (sTo F (nI p)))) ∧ h1 = (hC pk G I F))) := by
  refine am_of (L := [some (.ref 0), some (.int (nI p)), some (.int w), none]) (by decide +kernel) (Nat.le_of_ble_eq_true rfl) rfl ?_
  refine aw_aload_n dX8_ofPerson_0 rfl rfl ?_
  refine aw_iload_n dX8_ofPerson_1 rfl rfl ?_
  refine aw_callV cw_X8_personAt ml_X8_87 im_X8_personAt sl_X8_X8_personAt rfl (by omega) rfl (c_X8_personAt pk G _ _ n hn hW hI0 hp rfl) ⟨Nat.le_of_ble_eq_true rfl, Nat.le_of_ble_eq_true rfl⟩ ⟨Nat.zero_le _, Nat.zero_le _⟩ rfl rfl (Nat.le_of_ble_eq_true rfl) dX8_ofPerson_2 ?_
  rintro _ _ ⟨rfl, rfl⟩
  refine aw_astore_n dX8_ofPerson_5 rfl (by decide) rfl ?_
  refine aw_aload_n dX8_ofPerson_6 rfl rfl ?_
  refine aw_ifnonnull (tgt := 12) dX8_ofPerson_7 (by decide) ?_
  refine aw_iload_n dX8_ofPerson_12 rfl rfl ?_
  by_cases e_13_0 : w = 0
  · refine aw_tableC (off := 47) (tgt := 60) e_13_0 dX8_ofPerson_13 (by decide) (by decide) (by decide) (by decide) ?_
    refine aw_aload_n dX8_ofPerson_60 rfl rfl ?_
    refine aw_kindP (hW.2 _ hp).2.2 (hW.2 _ hp).2.1 ⟨Nat.le_of_ble_eq_true rfl, Nat.le_of_ble_eq_true rfl⟩ ⟨Nat.zero_le _, Nat.zero_le _⟩ (Nat.le_of_ble_eq_true rfl) dX8_ofPerson_61 ?_
    refine aw_iret dX8_ofPerson_64 (Nat.zero_le _) (Nat.zero_le _) ?_
    refine ⟨rfl, ?_, rfl⟩
    first | (simp [sel8, b2i, *]; done) | (simp_all [sel8, b2i]; done)
  by_cases e_13_1 : w = 1
  · refine aw_tableC (off := 52) (tgt := 65) e_13_1 dX8_ofPerson_13 (by decide) (by decide) (by decide) (by decide) ?_
    refine aw_aload_n dX8_ofPerson_65 rfl rfl ?_
    refine aw_getP fd_X8_95_1 fd_X8_95_3 fd_X8_95_4 (hW.2 _ hp).2.2 dX8_ofPerson_66 (hW.2 _ hp).2.1 (he_per _) rfl ?_
    refine aw_iret dX8_ofPerson_69 (Nat.zero_le _) (Nat.zero_le _) ?_
    refine ⟨rfl, ?_, rfl⟩
    first | (simp [sel8, b2i, *]; done) | (simp_all [sel8, b2i]; done)
  by_cases e_13_2 : w = 2
  · refine aw_tableC (off := 57) (tgt := 70) e_13_2 dX8_ofPerson_13 (by decide) (by decide) (by decide) (by decide) ?_
    refine aw_aload_n dX8_ofPerson_70 rfl rfl ?_
    refine aw_getP fd_X8_98_1 fd_X8_98_3 fd_X8_98_4 (hW.2 _ hp).2.2 dX8_ofPerson_71 (hW.2 _ hp).2.1 (he_per _) rfl ?_
    refine aw_iret dX8_ofPerson_74 (Nat.zero_le _) (Nat.zero_le _) ?_
    refine ⟨rfl, ?_, rfl⟩
    first | (simp [sel8, b2i, *]; done) | (simp_all [sel8, b2i]; done)
  by_cases e_13_3 : w = 3
  · refine aw_tableC (off := 62) (tgt := 75) e_13_3 dX8_ofPerson_13 (by decide) (by decide) (by decide) (by decide) ?_
    refine aw_aload_n dX8_ofPerson_75 rfl rfl ?_
    refine aw_kindP (hW.2 _ hp).2.2 (hW.2 _ hp).2.1 ⟨Nat.le_of_ble_eq_true rfl, Nat.le_of_ble_eq_true rfl⟩ ⟨Nat.zero_le _, Nat.zero_le _⟩ (Nat.le_of_ble_eq_true rfl) dX8_ofPerson_76 ?_
    refine aw_aload_n dX8_ofPerson_79 rfl rfl ?_
    refine aw_getP fd_X8_95_1 fd_X8_95_3 fd_X8_95_4 (hW.2 _ hp).2.2 dX8_ofPerson_80 (hW.2 _ hp).2.1 (he_per _) rfl ?_
    refine aw_callS cw_X8_wouldGo ml_X8_101 sm_X8_wouldGo (c_X8_wouldGo _ _ _ _) ⟨Nat.le_of_ble_eq_true rfl, Nat.le_of_ble_eq_true rfl⟩ ⟨Nat.zero_le _, Nat.zero_le _⟩ rfl rfl (Nat.le_of_ble_eq_true rfl) dX8_ofPerson_83 ?_
    rintro _ _ ⟨rfl, rfl⟩
    refine aw_iret dX8_ofPerson_86 (Nat.zero_le _) (Nat.zero_le _) ?_
    refine ⟨rfl, ?_, rfl⟩
    first | (simp [sel8, b2i, *]; done) | (simp_all [sel8, b2i]; done)
  by_cases e_13_4 : w = 4
  · refine aw_tableC (off := 74) (tgt := 87) e_13_4 dX8_ofPerson_13 (by decide) (by decide) (by decide) (by decide) ?_
    refine aw_aload_n dX8_ofPerson_87 rfl rfl ?_
    refine aw_aload_n dX8_ofPerson_88 rfl rfl ?_
    refine aw_kindP (hW.2 _ hp).2.2 (hW.2 _ hp).2.1 ⟨Nat.le_of_ble_eq_true rfl, Nat.le_of_ble_eq_true rfl⟩ ⟨Nat.zero_le _, Nat.zero_le _⟩ (Nat.le_of_ble_eq_true rfl) dX8_ofPerson_89 ?_
    refine aw_aload_n dX8_ofPerson_92 rfl rfl ?_
    refine aw_getP fd_X8_95_1 fd_X8_95_3 fd_X8_95_4 (hW.2 _ hp).2.2 dX8_ofPerson_93 (hW.2 _ hp).2.1 (he_per _) rfl ?_
    refine aw_aload_n dX8_ofPerson_96 rfl rfl ?_
    refine aw_getP fd_X8_98_1 fd_X8_98_3 fd_X8_98_4 (hW.2 _ hp).2.2 dX8_ofPerson_97 (hW.2 _ hp).2.1 (he_per _) rfl ?_
    refine aw_callV cw_X8_mayGo ml_X8_105 im_X8_mayGo sl_X8_X8_mayGo rfl (by omega) rfl (c_X8_mayGo pk G _ _ n hn _ _ _) ⟨Nat.le_of_ble_eq_true rfl, Nat.le_of_ble_eq_true rfl⟩ ⟨Nat.zero_le _, Nat.zero_le _⟩ rfl rfl (Nat.le_of_ble_eq_true rfl) dX8_ofPerson_100 ?_
    rintro _ _ ⟨rfl, rfl⟩
    refine aw_iret dX8_ofPerson_103 (Nat.zero_le _) (Nat.zero_le _) ?_
    refine ⟨rfl, ?_, rfl⟩
    first | (simp [sel8, b2i, *]; done) | (simp_all [sel8, b2i]; done)
  by_cases e_13_5 : w = 5
  · refine aw_tableC (off := 91) (tgt := 104) e_13_5 dX8_ofPerson_13 (by decide) (by decide) (by decide) (by decide) ?_
    refine aw_aload_n dX8_ofPerson_104 rfl rfl ?_
    refine aw_get fd_X8_109_8 dX8_ofPerson_105 (by omega) rfl rfl ?_
    refine aw_iload_n dX8_ofPerson_108 rfl rfl ?_
    refine aw_callS cw_X8_has ml_X8_112 sm_X8_has (c_X8_has _ _ _ _) ⟨Nat.le_of_ble_eq_true rfl, Nat.le_of_ble_eq_true rfl⟩ ⟨Nat.zero_le _, Nat.zero_le _⟩ rfl rfl (Nat.le_of_ble_eq_true rfl) dX8_ofPerson_109 ?_
    rintro _ _ ⟨rfl, rfl⟩
    refine aw_ifB_eq (tgt := 119) dX8_ofPerson_112 (by decide) (fun c_112 => ?_) (fun c_112 => ?_)
    · refine aw_iconst (v := 0) dX8_ofPerson_119 (by decide) ?_
      refine aw_iret dX8_ofPerson_120 (Nat.zero_le _) (Nat.zero_le _) ?_
      refine ⟨rfl, ?_, rfl⟩
      first | (simp [sel8, b2i, *]; done) | (simp_all [sel8, b2i]; done)
    · refine aw_iconst (v := 1) dX8_ofPerson_115 (by decide) ?_
      refine aw_goto (tgt := 120) dX8_ofPerson_116 (by decide) ?_
      refine aw_iret dX8_ofPerson_120 (Nat.zero_le _) (Nat.zero_le _) ?_
      refine ⟨rfl, ?_, rfl⟩
      first | (simp [sel8, b2i, *]; done) | (simp_all [sel8, b2i]; done)
  by_cases e_13_6 : w = 6
  · refine aw_tableC (off := 108) (tgt := 121) e_13_6 dX8_ofPerson_13 (by decide) (by decide) (by decide) (by decide) ?_
    refine aw_aload_n dX8_ofPerson_121 rfl rfl ?_
    refine aw_get fd_X8_37_8 dX8_ofPerson_122 (by omega) rfl rfl ?_
    refine aw_iload_n dX8_ofPerson_125 rfl rfl ?_
    refine aw_callV cw_X0_owedBy ml_X8_116 im_X0_owedBy sl_X0_X0_owedBy rfl (by omega) rfl (c_X0_owedBy pk G _ _ n hn _) ⟨Nat.le_of_ble_eq_true rfl, Nat.le_of_ble_eq_true rfl⟩ ⟨Nat.zero_le _, Nat.zero_le _⟩ rfl rfl (Nat.le_of_ble_eq_true rfl) dX8_ofPerson_126 ?_
    rintro _ _ ⟨rfl, rfl⟩
    refine aw_iret dX8_ofPerson_129 (Nat.zero_le _) (Nat.zero_le _) ?_
    refine ⟨rfl, ?_, rfl⟩
    first | (simp [sel8, b2i, *]; done) | (simp_all [sel8, b2i]; done)
  by_cases e_13_7 : w = 7
  · refine aw_tableC (off := 117) (tgt := 130) e_13_7 dX8_ofPerson_13 (by decide) (by decide) (by decide) (by decide) ?_
    refine aw_aload_n dX8_ofPerson_130 rfl rfl ?_
    refine aw_get fd_X8_37_8 dX8_ofPerson_131 (by omega) rfl rfl ?_
    refine aw_iload_n dX8_ofPerson_134 rfl rfl ?_
    refine aw_callV cw_X0_owedTo ml_X8_119 im_X0_owedTo sl_X0_X0_owedTo rfl (by omega) rfl (c_X0_owedTo pk G _ _ n hn _) ⟨Nat.le_of_ble_eq_true rfl, Nat.le_of_ble_eq_true rfl⟩ ⟨Nat.zero_le _, Nat.zero_le _⟩ rfl rfl (Nat.le_of_ble_eq_true rfl) dX8_ofPerson_135 ?_
    rintro _ _ ⟨rfl, rfl⟩
    refine aw_iret dX8_ofPerson_138 (Nat.zero_le _) (Nat.zero_le _) ?_
    refine ⟨rfl, ?_, rfl⟩
    first | (simp [sel8, b2i, *]; done) | (simp_all [sel8, b2i]; done)
  refine aw_tableOut (tgt := 139) dX8_ofPerson_13 (aw_out8 e_13_0 e_13_1 e_13_2 e_13_3 e_13_4 e_13_5 e_13_6 e_13_7) (by decide) ?_
  refine aw_bipush (v := (-2)) dX8_ofPerson_139 (by decide) ?_
  refine aw_iret dX8_ofPerson_141 (Nat.zero_le _) (Nat.zero_le _) ?_
  refine ⟨rfl, ?_, rfl⟩
  first | (simp [sel8, b2i, *]; done) | (simp_all [sel8, b2i]; done)
set_option maxRecDepth 100000 in
set_option maxHeartbeats 4000000 in
theorem c_X8_hurry_no {l : Launch} {D : va_G} {tc : Nat → ClassId} (pk : Nat → Nat) (G : Nat → Option Nat) (I F : Nat → Nat → Int32) (n : Nat) (hn : 30 ≤ n) {c : Nat} (hI0 : I 0 7 = nI c) {x : Int32} (hx : sP c x = false) (w : Int32) : AM l D tc yX8_hurry cX8_hurry 5 (some .int) 1 22 0 0 [.ref 0, .int x, .int w] n (hC pk G I F) (fun v n1 h1 => n1 = n ∧ (v = some (.int (-1)) ∧ h1 = hC pk G I F)) := by
  refine am_of (L := [some (.ref 0), some (.int x), some (.int w), none, none]) (by decide +kernel) (Nat.le_of_ble_eq_true rfl) rfl ?_
  refine aw_aload_n dX8_hurry_0 rfl rfl ?_
  refine aw_iload_n dX8_hurry_1 rfl rfl ?_
  refine aw_callV cw_X8_personAt ml_X8_87 im_X8_personAt sl_X8_X8_personAt rfl (by omega) rfl (c_X8_personAt_no pk G _ _ n hn hI0 hx) ⟨Nat.le_of_ble_eq_true rfl, Nat.le_of_ble_eq_true rfl⟩ ⟨Nat.zero_le _, Nat.zero_le _⟩ rfl rfl (Nat.le_of_ble_eq_true rfl) dX8_hurry_2 ?_
  rintro _ _ ⟨rfl, rfl⟩
  refine aw_astore_nN dX8_hurry_5 rfl (by decide) rfl ?_
  refine aw_aload_nN dX8_hurry_6 rfl rfl ?_
  refine aw_ifnonnullN dX8_hurry_7 ?_
  refine aw_iconst (v := (-1)) dX8_hurry_10 (by decide) ?_
  refine aw_iret dX8_hurry_11 (Nat.zero_le _) (Nat.zero_le _) ?_
  exact ⟨rfl, rfl, rfl⟩
set_option maxRecDepth 100000 in
set_option maxHeartbeats 4000000 in
theorem c_X8_hurry {l : Launch} {D : va_G} {tc : Nat → ClassId} (pk : Nat → Nat) (G : Nat → Option Nat) (I F : Nat → Nat → Int32) (n : Nat) (hn : 30 ≤ n) {c : Nat} {g : Nat → Nat} (hW : WP pk G n c g) (hI0 : I 0 7 = nI c) {p : Nat} (hp : p < c) (w : Int32) : AM l D tc yX8_hurry cX8_hurry 5 (some .int) 1 22 0 0 [.ref 0, .int (nI p), .int w] n (hC pk G I F) (fun v n1 h1 => n1 = n ∧ (v = some (.int (if sW w 0 9 then (I (g p + 30) 1) else -2)) ∧ h1 = hC pk G (if sW w 0 9 then st_I I (g p + 30) 1 w else I) F)) := by
  refine am_of (L := [some (.ref 0), some (.int (nI p)), some (.int w), none, none]) (by decide +kernel) (Nat.le_of_ble_eq_true rfl) rfl ?_
  refine aw_aload_n dX8_hurry_0 rfl rfl ?_
  refine aw_iload_n dX8_hurry_1 rfl rfl ?_
  refine aw_callV cw_X8_personAt ml_X8_87 im_X8_personAt sl_X8_X8_personAt rfl (by omega) rfl (c_X8_personAt pk G _ _ n hn hW hI0 hp rfl) ⟨Nat.le_of_ble_eq_true rfl, Nat.le_of_ble_eq_true rfl⟩ ⟨Nat.zero_le _, Nat.zero_le _⟩ rfl rfl (Nat.le_of_ble_eq_true rfl) dX8_hurry_2 ?_
  rintro _ _ ⟨rfl, rfl⟩
  refine aw_astore_n dX8_hurry_5 rfl (by decide) rfl ?_
  refine aw_aload_n dX8_hurry_6 rfl rfl ?_
  refine aw_ifnonnull (tgt := 12) dX8_hurry_7 (by decide) ?_
  refine aw_iload_n dX8_hurry_12 rfl rfl ?_
  refine aw_iconst (v := 0) dX8_hurry_13 (by decide) ?_
  refine aw_bipush (v := (9)) dX8_hurry_14 (by decide) ?_
  refine aw_callS cw_X8_isWithin ml_X8_122 sm_X8_isWithin (c_X8_isWithin _ _ _ _ _) ⟨Nat.le_of_ble_eq_true rfl, Nat.le_of_ble_eq_true rfl⟩ ⟨Nat.zero_le _, Nat.zero_le _⟩ rfl rfl (Nat.le_of_ble_eq_true rfl) dX8_hurry_16 ?_
  rintro _ _ ⟨rfl, rfl⟩
  refine aw_ifB_ne (tgt := 25) dX8_hurry_19 (by decide) (fun c_19 => ?_) (fun c_19 => ?_)
  · refine aw_aload_n dX8_hurry_25 rfl rfl ?_
    refine aw_getP fd_X8_95_1 fd_X8_95_3 fd_X8_95_4 (hW.2 _ hp).2.2 dX8_hurry_26 (hW.2 _ hp).2.1 (he_per _) rfl ?_
    refine aw_istore dX8_hurry_29 (by decide) rfl ?_
    refine aw_aload_n dX8_hurry_31 rfl rfl ?_
    refine aw_iload_n dX8_hurry_32 rfl rfl ?_
    refine aw_putP fp_X8_95_1 fp_X8_95_3 fp_X8_95_4 (hW.2 _ hp).2.2 dX8_hurry_33 (hW.2 _ hp).2.1 ?_
    refine aw_iload dX8_hurry_36 rfl ?_
    refine aw_iret dX8_hurry_38 (Nat.zero_le _) (Nat.zero_le _) ?_
    refine ⟨rfl, ?_, ?_⟩ <;> first | (simp [*]; done) | (simp_all; done)
  · refine aw_bipush (v := (-2)) dX8_hurry_22 (by decide) ?_
    refine aw_iret dX8_hurry_24 (Nat.zero_le _) (Nat.zero_le _) ?_
    refine ⟨rfl, ?_, ?_⟩ <;> first | (simp [*]; done) | (simp_all; done)
set_option maxRecDepth 100000 in
set_option maxHeartbeats 4000000 in
theorem c_X8_wall_no {l : Launch} {D : va_G} {tc : Nat → ClassId} (pk : Nat → Nat) (G : Nat → Option Nat) (I F : Nat → Nat → Int32) (n : Nat) (hn : 30 ≤ n) {c : Nat} (hI0 : I 0 7 = nI c) {x : Int32} (hx : sP c x = false) (w : Int32) : AM l D tc yX8_wall cX8_wall 5 (some .int) 1 22 0 0 [.ref 0, .int x, .int w] n (hC pk G I F) (fun v n1 h1 => n1 = n ∧ (v = some (.int (-1)) ∧ h1 = hC pk G I F)) := by
  refine am_of (L := [some (.ref 0), some (.int x), some (.int w), none, none]) (by decide +kernel) (Nat.le_of_ble_eq_true rfl) rfl ?_
  refine aw_aload_n dX8_wall_0 rfl rfl ?_
  refine aw_iload_n dX8_wall_1 rfl rfl ?_
  refine aw_callV cw_X8_personAt ml_X8_87 im_X8_personAt sl_X8_X8_personAt rfl (by omega) rfl (c_X8_personAt_no pk G _ _ n hn hI0 hx) ⟨Nat.le_of_ble_eq_true rfl, Nat.le_of_ble_eq_true rfl⟩ ⟨Nat.zero_le _, Nat.zero_le _⟩ rfl rfl (Nat.le_of_ble_eq_true rfl) dX8_wall_2 ?_
  rintro _ _ ⟨rfl, rfl⟩
  refine aw_astore_nN dX8_wall_5 rfl (by decide) rfl ?_
  refine aw_aload_nN dX8_wall_6 rfl rfl ?_
  refine aw_ifnonnullN dX8_wall_7 ?_
  refine aw_iconst (v := (-1)) dX8_wall_10 (by decide) ?_
  refine aw_iret dX8_wall_11 (Nat.zero_le _) (Nat.zero_le _) ?_
  exact ⟨rfl, rfl, rfl⟩
set_option maxRecDepth 100000 in
set_option maxHeartbeats 4000000 in
theorem c_X8_wall {l : Launch} {D : va_G} {tc : Nat → ClassId} (pk : Nat → Nat) (G : Nat → Option Nat) (I F : Nat → Nat → Int32) (n : Nat) (hn : 30 ≤ n) {c : Nat} {g : Nat → Nat} (hW : WP pk G n c g) (hI0 : I 0 7 = nI c) {p : Nat} (hp : p < c) (w : Int32) : AM l D tc yX8_wall cX8_wall 5 (some .int) 1 22 0 0 [.ref 0, .int (nI p), .int w] n (hC pk G I F) (fun v n1 h1 => n1 = n ∧ (v = some (.int (if sW w 0 9 then (I (g p + 30) 2) else -2)) ∧ h1 = hC pk G (if sW w 0 9 then st_I I (g p + 30) 2 w else I) F)) := by
  refine am_of (L := [some (.ref 0), some (.int (nI p)), some (.int w), none, none]) (by decide +kernel) (Nat.le_of_ble_eq_true rfl) rfl ?_
  refine aw_aload_n dX8_wall_0 rfl rfl ?_
  refine aw_iload_n dX8_wall_1 rfl rfl ?_
  refine aw_callV cw_X8_personAt ml_X8_87 im_X8_personAt sl_X8_X8_personAt rfl (by omega) rfl (c_X8_personAt pk G _ _ n hn hW hI0 hp rfl) ⟨Nat.le_of_ble_eq_true rfl, Nat.le_of_ble_eq_true rfl⟩ ⟨Nat.zero_le _, Nat.zero_le _⟩ rfl rfl (Nat.le_of_ble_eq_true rfl) dX8_wall_2 ?_
  rintro _ _ ⟨rfl, rfl⟩
  refine aw_astore_n dX8_wall_5 rfl (by decide) rfl ?_
  refine aw_aload_n dX8_wall_6 rfl rfl ?_
  refine aw_ifnonnull (tgt := 12) dX8_wall_7 (by decide) ?_
  refine aw_iload_n dX8_wall_12 rfl rfl ?_
  refine aw_iconst (v := 0) dX8_wall_13 (by decide) ?_
  refine aw_bipush (v := (9)) dX8_wall_14 (by decide) ?_
  refine aw_callS cw_X8_isWithin ml_X8_122 sm_X8_isWithin (c_X8_isWithin _ _ _ _ _) ⟨Nat.le_of_ble_eq_true rfl, Nat.le_of_ble_eq_true rfl⟩ ⟨Nat.zero_le _, Nat.zero_le _⟩ rfl rfl (Nat.le_of_ble_eq_true rfl) dX8_wall_16 ?_
  rintro _ _ ⟨rfl, rfl⟩
  refine aw_ifB_ne (tgt := 25) dX8_wall_19 (by decide) (fun c_19 => ?_) (fun c_19 => ?_)
  · refine aw_aload_n dX8_wall_25 rfl rfl ?_
    refine aw_getP fd_X8_98_1 fd_X8_98_3 fd_X8_98_4 (hW.2 _ hp).2.2 dX8_wall_26 (hW.2 _ hp).2.1 (he_per _) rfl ?_
    refine aw_istore dX8_wall_29 (by decide) rfl ?_
    refine aw_aload_n dX8_wall_31 rfl rfl ?_
    refine aw_iload_n dX8_wall_32 rfl rfl ?_
    refine aw_putP fp_X8_98_1 fp_X8_98_3 fp_X8_98_4 (hW.2 _ hp).2.2 dX8_wall_33 (hW.2 _ hp).2.1 ?_
    refine aw_iload dX8_wall_36 rfl ?_
    refine aw_iret dX8_wall_38 (Nat.zero_le _) (Nat.zero_le _) ?_
    refine ⟨rfl, ?_, ?_⟩ <;> first | (simp [*]; done) | (simp_all; done)
  · refine aw_bipush (v := (-2)) dX8_wall_22 (by decide) ?_
    refine aw_iret dX8_wall_24 (Nat.zero_le _) (Nat.zero_le _) ?_
    refine ⟨rfl, ?_, ?_⟩ <;> first | (simp [*]; done) | (simp_all; done)
set_option maxRecDepth 100000 in
set_option maxHeartbeats 4000000 in
theorem c_X8_lease {l : Launch} {D : va_G} {tc : Nat → ClassId} (pk : Nat → Nat) (G : Nat → Option Nat) (I F : Nat → Nat → Int32) (n : Nat) (hn : 30 ≤ n) (w : Int32) : AM l D tc yX8_lease cX8_lease 3 (some .int) 1 22 0 0 [.ref 0, .int w] n (hC pk G I F) (fun v n1 h1 => n1 = n ∧ (v = some (.int (if sW w 0 9 then (if I 0 7 = 0 then -3 else I 0 8) else -2)) ∧ h1 = hC pk G (if sW w 0 9 then (if I 0 7 = 0 then I else st_I I 0 8 w) else I) F)) := by
  refine am_of (L := [some (.ref 0), some (.int w), none]) (by decide +kernel) (Nat.le_of_ble_eq_true rfl) rfl ?_
  refine aw_iload_n dX8_lease_0 rfl rfl ?_
  refine aw_iconst (v := 0) dX8_lease_1 (by decide) ?_
  refine aw_bipush (v := (9)) dX8_lease_2 (by decide) ?_
  refine aw_callS cw_X8_isWithin ml_X8_122 sm_X8_isWithin (c_X8_isWithin _ _ _ _ _) ⟨Nat.le_of_ble_eq_true rfl, Nat.le_of_ble_eq_true rfl⟩ ⟨Nat.zero_le _, Nat.zero_le _⟩ rfl rfl (Nat.le_of_ble_eq_true rfl) dX8_lease_4 ?_
  rintro _ _ ⟨rfl, rfl⟩
  refine aw_ifB_ne (tgt := 13) dX8_lease_7 (by decide) (fun c_7 => ?_) (fun c_7 => ?_)
  · refine aw_aload_n dX8_lease_13 rfl rfl ?_
    refine aw_get fd_X8_84_8 dX8_lease_14 (by omega) rfl rfl ?_
    refine aw_if_ne (tgt := 23) dX8_lease_17 (by decide) (fun c_17 => ?_) (fun c_17 => ?_)
    · refine aw_aload_n dX8_lease_23 rfl rfl ?_
      refine aw_get fd_X8_126_8 dX8_lease_24 (by omega) rfl rfl ?_
      refine aw_istore_n dX8_lease_27 rfl (by decide) rfl ?_
      refine aw_aload_n dX8_lease_28 rfl rfl ?_
      refine aw_iload_n dX8_lease_29 rfl rfl ?_
      refine aw_puti fp_X8_126_8 dX8_lease_30 (by omega) rfl rfl rfl (Nat.le_of_ble_eq_true rfl) rfl ?_
      refine aw_iload_n dX8_lease_33 rfl rfl ?_
      refine aw_iret dX8_lease_34 (Nat.zero_le _) (Nat.zero_le _) ?_
      refine ⟨rfl, ?_, ?_⟩ <;> first | (simp [*]; done) | (simp_all; done)
    · refine aw_bipush (v := (-3)) dX8_lease_20 (by decide) ?_
      refine aw_iret dX8_lease_22 (Nat.zero_le _) (Nat.zero_le _) ?_
      refine ⟨rfl, ?_, ?_⟩ <;> first | (simp [*]; done) | (simp_all; done)
  · refine aw_bipush (v := (-2)) dX8_lease_10 (by decide) ?_
    refine aw_iret dX8_lease_12 (Nat.zero_le _) (Nat.zero_le _) ?_
    refine ⟨rfl, ?_, ?_⟩ <;> first | (simp [*]; done) | (simp_all; done)
set_option maxRecDepth 100000 in
set_option maxHeartbeats 4000000 in
theorem c_X8_morning {l : Launch} {D : va_G} {tc : Nat → ClassId} (pk : Nat → Nat) (G : Nat → Option Nat) (I F : Nat → Nat → Int32) (n : Nat) (hn : 30 ≤ n) : AM l D tc yX8_morning cX8_morning 2 (some .int) 2 40 0 0 [.ref 0] n (hC pk G I F) (fun v n1 h1 => n1 = n ∧ (v = some (.int (if I 0 7 = 0 then -3 else I 0 7 - sPop (I 0 9))) ∧ h1 = hC pk G (if I 0 7 = 0 then I else st_I (st_I I 0 9 (sBit (I 0 7) - 1)) 0 10 (I 0 10 + 1)) F)) := by
  refine am_of (L := [some (.ref 0), none]) (by decide +kernel) (Nat.le_of_ble_eq_true rfl) rfl ?_
  refine aw_aload_n dX8_morning_0 rfl rfl ?_
  refine aw_get fd_X8_84_8 dX8_morning_1 (by omega) rfl rfl ?_
  refine aw_if_ne (tgt := 10) dX8_morning_4 (by decide) (fun c_4 => ?_) (fun c_4 => ?_)
  · refine aw_aload_n dX8_morning_10 rfl rfl ?_
    refine aw_get fd_X8_84_8 dX8_morning_11 (by omega) rfl rfl ?_
    refine aw_aload_n dX8_morning_14 rfl rfl ?_
    refine aw_get fd_X8_109_8 dX8_morning_15 (by omega) rfl rfl ?_
    refine aw_callS cw_J6_bitCount_0f7a4 ml_X8_150 sm_J6_bitCount_0f7a4 (c_J6_bitCount_0f7a4 _ _ _) ⟨Nat.le_of_ble_eq_true rfl, Nat.le_of_ble_eq_true rfl⟩ ⟨Nat.zero_le _, Nat.zero_le _⟩ rfl rfl (Nat.le_of_ble_eq_true rfl) dX8_morning_18 ?_
    rintro _ _ ⟨rfl, rfl⟩
    refine aw_isub dX8_morning_21 ?_
    refine aw_istore_n dX8_morning_22 rfl (by decide) rfl ?_
    refine aw_aload_n dX8_morning_23 rfl rfl ?_
    refine aw_aload_n dX8_morning_24 rfl rfl ?_
    refine aw_callV cw_X8_everybody ml_X8_155 im_X8_everybody sl_X8_X8_everybody rfl (by omega) rfl (c_X8_everybody pk G _ _ n hn) ⟨Nat.le_of_ble_eq_true rfl, Nat.le_of_ble_eq_true rfl⟩ ⟨Nat.zero_le _, Nat.zero_le _⟩ rfl rfl (Nat.le_of_ble_eq_true rfl) dX8_morning_25 ?_
    rintro _ _ ⟨rfl, rfl⟩
    refine aw_puti fp_X8_109_8 dX8_morning_28 (by omega) rfl rfl rfl (Nat.le_of_ble_eq_true rfl) rfl ?_
    refine aw_aload_n dX8_morning_31 rfl rfl ?_
    refine aw_dup dX8_morning_32 rfl ?_
    refine aw_get fd_X8_158_8 dX8_morning_33 (by omega) rfl rfl ?_
    refine aw_iconst (v := 1) dX8_morning_36 (by decide) ?_
    refine aw_iadd dX8_morning_37 ?_
    refine aw_puti fp_X8_158_8 dX8_morning_38 (by omega) rfl rfl rfl (Nat.le_of_ble_eq_true rfl) rfl ?_
    refine aw_iload_n dX8_morning_41 rfl rfl ?_
    refine aw_iret dX8_morning_42 (Nat.zero_le _) (Nat.zero_le _) ?_
    refine ⟨rfl, ?_, ?_⟩
    · simp [*]
    · first | (rw [if_pos (by assumption)]) | (rw [if_neg (by assumption)]; rfl)
  · refine aw_bipush (v := (-3)) dX8_morning_7 (by decide) ?_
    refine aw_iret dX8_morning_9 (Nat.zero_le _) (Nat.zero_le _) ?_
    refine ⟨rfl, ?_, ?_⟩
    · simp [*]
    · first | (rw [if_pos (by assumption)]) | (rw [if_neg (by assumption)]; rfl)
set_option maxRecDepth 100000 in
set_option maxHeartbeats 4000000 in
theorem c_X8_owes {l : Launch} {D : va_G} {tc : Nat → ClassId} (pk : Nat → Nat) (G : Nat → Option Nat) (I F : Nat → Nat → Int32) (n : Nat) (hn : 30 ≤ n) {c : Nat} {g : Nat → Nat} (hW : WP pk G n c g) (hI0 : I 0 7 = nI c) (x y : Int32) : AM l D tc yX8_owes cX8_owes 3 (some .int) 3 65 0 0 [.ref 0, .int x, .int y] n (hC pk G I F) (fun v n1 h1 => n1 = n ∧ (v = some (.int (if sP c x && sP c y && !decide (x = y) then sBtw F x y else -1)) ∧ h1 = (hC pk G I F))) := by
  refine am_of (L := [some (.ref 0), some (.int x), some (.int y)]) (by decide +kernel) (Nat.le_of_ble_eq_true rfl) rfl ?_
  refine aw_aload_n dX8_owes_0 rfl rfl ?_
  refine aw_iload_n dX8_owes_1 rfl rfl ?_
  refine aw_iload_n dX8_owes_2 rfl rfl ?_
  refine aw_callV cw_X8_areTwo ml_X8_161 im_X8_areTwo sl_X8_X8_areTwo rfl (by omega) rfl (c_X8_areTwo pk G _ _ n hn hW hI0 _ _) ⟨Nat.le_of_ble_eq_true rfl, Nat.le_of_ble_eq_true rfl⟩ ⟨Nat.zero_le _, Nat.zero_le _⟩ rfl rfl (Nat.le_of_ble_eq_true rfl) dX8_owes_3 ?_
  rintro _ _ ⟨rfl, rfl⟩
  refine aw_ifB_ne (tgt := 11) dX8_owes_6 (by decide) (fun c_6 => ?_) (fun c_6 => ?_)
  · refine aw_aload_n dX8_owes_11 rfl rfl ?_
    refine aw_get fd_X8_37_8 dX8_owes_12 (by omega) rfl rfl ?_
    refine aw_iload_n dX8_owes_15 rfl rfl ?_
    refine aw_iload_n dX8_owes_16 rfl rfl ?_
    refine aw_callV cw_X0_between ml_X8_164 im_X0_between sl_X0_X0_between rfl (by omega) rfl (c_X0_between pk G _ _ n hn _ _) ⟨Nat.le_of_ble_eq_true rfl, Nat.le_of_ble_eq_true rfl⟩ ⟨Nat.zero_le _, Nat.zero_le _⟩ rfl rfl (Nat.le_of_ble_eq_true rfl) dX8_owes_17 ?_
    rintro _ _ ⟨rfl, rfl⟩
    refine aw_iret dX8_owes_20 (Nat.zero_le _) (Nat.zero_le _) ?_
    refine ⟨rfl, ?_, rfl⟩
    first | (rw [if_pos (by assumption)]; done) | (rw [if_neg (by simp only [Bool.not_eq_true]; assumption)]; done)
  · refine aw_iconst (v := (-1)) dX8_owes_9 (by decide) ?_
    refine aw_iret dX8_owes_10 (Nat.zero_le _) (Nat.zero_le _) ?_
    refine ⟨rfl, ?_, rfl⟩
    first | (rw [if_pos (by assumption)]; done) | (rw [if_neg (by simp only [Bool.not_eq_true]; assumption)]; done)
set_option maxRecDepth 100000 in
set_option maxHeartbeats 4000000 in
theorem c_X8_pays {l : Launch} {D : va_G} {tc : Nat → ClassId} (pk : Nat → Nat) (G : Nat → Option Nat) (I F : Nat → Nat → Int32) (n : Nat) (hn : 30 ≤ n) {c : Nat} {g : Nat → Nat} (hW : WP pk G n c g) (hI0 : I 0 7 = nI c) (x y w : Int32) : AM l D tc yX8_pays cX8_pays 4 (some .int) 3 66 0 0 [.ref 0, .int x, .int y, .int w] n (hC pk G I F) (fun v n1 h1 => n1 = n ∧ (v = some (.int (if sP c x && sP c y && !decide (x = y) then (if sW w 1 99 then (if w ≤ sBtw F x y then sBtw (adF F x y (-w)) x y else -3) else -2) else -1)) ∧ h1 = hC pk G I (if sP c x && sP c y && !decide (x = y) then (if sW w 1 99 then (if w ≤ sBtw F x y then adF F x y (-w) else F) else F) else F))) := by
  refine am_of (L := [some (.ref 0), some (.int x), some (.int y), some (.int w)]) (by decide +kernel) (Nat.le_of_ble_eq_true rfl) rfl ?_
  refine aw_aload_n dX8_pays_0 rfl rfl ?_
  refine aw_iload_n dX8_pays_1 rfl rfl ?_
  refine aw_iload_n dX8_pays_2 rfl rfl ?_
  refine aw_callV cw_X8_areTwo ml_X8_161 im_X8_areTwo sl_X8_X8_areTwo rfl (by omega) rfl (c_X8_areTwo pk G _ _ n hn hW hI0 _ _) ⟨Nat.le_of_ble_eq_true rfl, Nat.le_of_ble_eq_true rfl⟩ ⟨Nat.zero_le _, Nat.zero_le _⟩ rfl rfl (Nat.le_of_ble_eq_true rfl) dX8_pays_3 ?_
  rintro _ _ ⟨rfl, rfl⟩
  refine aw_ifB_ne (tgt := 11) dX8_pays_6 (by decide) (fun c_6 => ?_) (fun c_6 => ?_)
  · refine aw_iload_n dX8_pays_11 rfl rfl ?_
    refine aw_iconst (v := 1) dX8_pays_12 (by decide) ?_
    refine aw_bipush (v := (99)) dX8_pays_13 (by decide) ?_
    refine aw_callS cw_X8_isWithin ml_X8_122 sm_X8_isWithin (c_X8_isWithin _ _ _ _ _) ⟨Nat.le_of_ble_eq_true rfl, Nat.le_of_ble_eq_true rfl⟩ ⟨Nat.zero_le _, Nat.zero_le _⟩ rfl rfl (Nat.le_of_ble_eq_true rfl) dX8_pays_15 ?_
    rintro _ _ ⟨rfl, rfl⟩
    refine aw_ifB_ne (tgt := 24) dX8_pays_18 (by decide) (fun c_18 => ?_) (fun c_18 => ?_)
    · refine aw_aload_n dX8_pays_24 rfl rfl ?_
      refine aw_get fd_X8_37_8 dX8_pays_25 (by omega) rfl rfl ?_
      refine aw_iload_n dX8_pays_28 rfl rfl ?_
      refine aw_iload_n dX8_pays_29 rfl rfl ?_
      refine aw_callV cw_X0_between ml_X8_164 im_X0_between sl_X0_X0_between rfl (by omega) rfl (c_X0_between pk G _ _ n hn _ _) ⟨Nat.le_of_ble_eq_true rfl, Nat.le_of_ble_eq_true rfl⟩ ⟨Nat.zero_le _, Nat.zero_le _⟩ rfl rfl (Nat.le_of_ble_eq_true rfl) dX8_pays_30 ?_
      rintro _ _ ⟨rfl, rfl⟩
      refine aw_iload_n dX8_pays_33 rfl rfl ?_
      refine aw_icmp_ge (tgt := 40) dX8_pays_34 (by decide) (fun c_34 => ?_) (fun c_34 => ?_)
      · refine aw_aload_n dX8_pays_40 rfl rfl ?_
        refine aw_get fd_X8_37_8 dX8_pays_41 (by omega) rfl rfl ?_
        refine aw_iload_n dX8_pays_44 rfl rfl ?_
        refine aw_iload_n dX8_pays_45 rfl rfl ?_
        refine aw_iload_n dX8_pays_46 rfl rfl ?_
        refine aw_ineg dX8_pays_47 ?_
        refine aw_callV cw_X0_add ml_X8_146 im_X0_add sl_X0_X0_add rfl (by omega) rfl (c_X0_add pk G _ _ n hn _ _ _) ⟨Nat.le_of_ble_eq_true rfl, Nat.le_of_ble_eq_true rfl⟩ ⟨Nat.zero_le _, Nat.zero_le _⟩ rfl rfl (Nat.le_of_ble_eq_true rfl) dX8_pays_48 ?_
        rintro _ _ ⟨rfl, rfl⟩
        refine aw_aload_n dX8_pays_51 rfl rfl ?_
        refine aw_get fd_X8_37_8 dX8_pays_52 (by omega) rfl rfl ?_
        refine aw_iload_n dX8_pays_55 rfl rfl ?_
        refine aw_iload_n dX8_pays_56 rfl rfl ?_
        refine aw_callV cw_X0_between ml_X8_164 im_X0_between sl_X0_X0_between rfl (by omega) rfl (c_X0_between pk G _ _ n hn _ _) ⟨Nat.le_of_ble_eq_true rfl, Nat.le_of_ble_eq_true rfl⟩ ⟨Nat.zero_le _, Nat.zero_le _⟩ rfl rfl (Nat.le_of_ble_eq_true rfl) dX8_pays_57 ?_
        rintro _ _ ⟨rfl, rfl⟩
        refine aw_iret dX8_pays_60 (Nat.zero_le _) (Nat.zero_le _) ?_
        generalize (sP c x && sP c y && !decide (x = y)) = B at *
        refine ⟨rfl, ?_, ?_⟩ <;> first | (simp [*]; done) | (simp_all; done)
      · refine aw_bipush (v := (-3)) dX8_pays_37 (by decide) ?_
        refine aw_iret dX8_pays_39 (Nat.zero_le _) (Nat.zero_le _) ?_
        generalize (sP c x && sP c y && !decide (x = y)) = B at *
        refine ⟨rfl, ?_, ?_⟩ <;> first | (simp [*]; done) | (simp_all; done)
    · refine aw_bipush (v := (-2)) dX8_pays_21 (by decide) ?_
      refine aw_iret dX8_pays_23 (Nat.zero_le _) (Nat.zero_le _) ?_
      generalize (sP c x && sP c y && !decide (x = y)) = B at *
      refine ⟨rfl, ?_, ?_⟩ <;> first | (simp [*]; done) | (simp_all; done)
  · refine aw_iconst (v := (-1)) dX8_pays_9 (by decide) ?_
    refine aw_iret dX8_pays_10 (Nat.zero_le _) (Nat.zero_le _) ?_
    generalize (sP c x && sP c y && !decide (x = y)) = B at *
    refine ⟨rfl, ?_, ?_⟩ <;> first | (simp [*]; done) | (simp_all; done)
set_option maxRecDepth 100000 in
set_option maxHeartbeats 4000000 in
theorem c_X8_balance_no {l : Launch} {D : va_G} {tc : Nat → ClassId} (pk : Nat → Nat) (G : Nat → Option Nat) (I F : Nat → Nat → Int32) (n : Nat) (hn : 30 ≤ n) {c : Nat} (hI0 : I 0 7 = nI c) {x : Int32} (hx : sP c x = false) : AM l D tc yX8_balance cX8_balance 2 (some .int) 5 109 0 0 [.ref 0, .int x] n (hC pk G I F) (fun v n1 h1 => n1 = n ∧ (v = some (.int (-1)) ∧ h1 = hC pk G I F)) := by
  refine am_of (L := [some (.ref 0), some (.int x)]) (by decide +kernel) (Nat.le_of_ble_eq_true rfl) rfl ?_
  refine aw_aload_n dX8_balance_0 rfl rfl ?_
  refine aw_iload_n dX8_balance_1 rfl rfl ?_
  refine aw_callV cw_X8_personAt ml_X8_87 im_X8_personAt sl_X8_X8_personAt rfl (by omega) rfl (c_X8_personAt_no pk G _ _ n hn hI0 hx) ⟨Nat.le_of_ble_eq_true rfl, Nat.le_of_ble_eq_true rfl⟩ ⟨Nat.zero_le _, Nat.zero_le _⟩ rfl rfl (Nat.le_of_ble_eq_true rfl) dX8_balance_2 ?_
  rintro _ _ ⟨rfl, rfl⟩
  refine aw_ifnonnullN dX8_balance_5 ?_
  refine aw_iconst (v := (-1)) dX8_balance_8 (by decide) ?_
  refine aw_iret dX8_balance_9 (Nat.zero_le _) (Nat.zero_le _) ?_
  exact ⟨rfl, rfl, rfl⟩
set_option maxRecDepth 100000 in
set_option maxHeartbeats 4000000 in
theorem c_X8_balance {l : Launch} {D : va_G} {tc : Nat → ClassId} (pk : Nat → Nat) (G : Nat → Option Nat) (I F : Nat → Nat → Int32) (n : Nat) (hn : 30 ≤ n) {c : Nat} {g : Nat → Nat} (hW : WP pk G n c g) (hI0 : I 0 7 = nI c) {p : Nat} (hp : p < c) : AM l D tc yX8_balance cX8_balance 2 (some .int) 5 109 0 0 [.ref 0, .int (nI p)] n (hC pk G I F) (fun v n1 h1 => n1 = n ∧ (v = some (.int (sBal F (nI p) + 10000)) ∧ h1 = (hC pk G I F))) := by
  refine am_of (L := [some (.ref 0), some (.int (nI p))]) (by decide +kernel) (Nat.le_of_ble_eq_true rfl) rfl ?_
  refine aw_aload_n dX8_balance_0 rfl rfl ?_
  refine aw_iload_n dX8_balance_1 rfl rfl ?_
  refine aw_callV cw_X8_personAt ml_X8_87 im_X8_personAt sl_X8_X8_personAt rfl (by omega) rfl (c_X8_personAt pk G _ _ n hn hW hI0 hp rfl) ⟨Nat.le_of_ble_eq_true rfl, Nat.le_of_ble_eq_true rfl⟩ ⟨Nat.zero_le _, Nat.zero_le _⟩ rfl rfl (Nat.le_of_ble_eq_true rfl) dX8_balance_2 ?_
  rintro _ _ ⟨rfl, rfl⟩
  refine aw_ifnonnull (tgt := 10) dX8_balance_5 (by decide) ?_
  refine aw_aload_n dX8_balance_10 rfl rfl ?_
  refine aw_get fd_X8_37_8 dX8_balance_11 (by omega) rfl rfl ?_
  refine aw_iload_n dX8_balance_14 rfl rfl ?_
  refine aw_callV cw_X0_balanceOf ml_X8_193 im_X0_balanceOf sl_X0_X0_balanceOf rfl (by omega) rfl (c_X0_balanceOf pk G _ _ n hn _) ⟨Nat.le_of_ble_eq_true rfl, Nat.le_of_ble_eq_true rfl⟩ ⟨Nat.zero_le _, Nat.zero_le _⟩ rfl rfl (Nat.le_of_ble_eq_true rfl) dX8_balance_15 ?_
  rintro _ _ ⟨rfl, rfl⟩
  refine aw_sipush (v := (10000)) dX8_balance_18 (by decide) ?_
  refine aw_iadd dX8_balance_21 ?_
  refine aw_iret dX8_balance_22 (Nat.zero_le _) (Nat.zero_le _) ?_
  exact ⟨rfl, rfl, rfl⟩
set_option maxRecDepth 100000 in
set_option maxHeartbeats 4000000 in
theorem c_X8_cleared {l : Launch} {D : va_G} {tc : Nat → ClassId} (pk : Nat → Nat) (G : Nat → Option Nat) (I F : Nat → Nat → Int32) (n : Nat) (hn : 30 ≤ n) (w : Int32) : AM l D tc yX8_cleared cX8_cleared 2 (some .int) 6 131 0 0 [.ref 0, .int w] n (hC pk G I F) (fun v n1 h1 => n1 = n ∧ (∃ I1 F1, SC I F I1 F1 ∧ h1 = hC pk G I1 F1 ∧ v = some (.int (if sW w 0 1 then (if I 0 7 = 0 then -3 else if w = 0 then sSteps F else 6 - gpN (F 16) (blN F (F 15) 6) 63 63) else -2)))) := by
  refine am_of (L := [some (.ref 0), some (.int w)]) (by decide +kernel) (Nat.le_of_ble_eq_true rfl) rfl ?_
  refine aw_iload_n dX8_cleared_0 rfl rfl ?_
  refine aw_iconst (v := 0) dX8_cleared_1 (by decide) ?_
  refine aw_iconst (v := 1) dX8_cleared_2 (by decide) ?_
  refine aw_callS cw_X8_isWithin ml_X8_122 sm_X8_isWithin (c_X8_isWithin _ _ _ _ _) ⟨Nat.le_of_ble_eq_true rfl, Nat.le_of_ble_eq_true rfl⟩ ⟨Nat.zero_le _, Nat.zero_le _⟩ rfl rfl (Nat.le_of_ble_eq_true rfl) dX8_cleared_3 ?_
  rintro _ _ ⟨rfl, rfl⟩
  refine aw_ifB_ne (tgt := 12) dX8_cleared_6 (by decide) (fun c_6 => ?_) (fun c_6 => ?_)
  · refine aw_aload_n dX8_cleared_12 rfl rfl ?_
    refine aw_get fd_X8_84_8 dX8_cleared_13 (by omega) rfl rfl ?_
    refine aw_if_ne (tgt := 22) dX8_cleared_16 (by decide) (fun c_16 => ?_) (fun c_16 => ?_)
    · refine aw_iload_n dX8_cleared_22 rfl rfl ?_
      refine aw_if_ne (tgt := 36) dX8_cleared_23 (by decide) (fun c_23 => ?_) (fun c_23 => ?_)
      · refine aw_aload_n dX8_cleared_36 rfl rfl ?_
        refine aw_get fd_X8_37_8 dX8_cleared_37 (by omega) rfl rfl ?_
        refine aw_callV cw_X0_leastPayments ml_X8_199 im_X0_leastPayments sl_X0_X0_leastPayments rfl (by omega) rfl (c_X0_leastPayments pk G _ _ n hn) ⟨Nat.le_of_ble_eq_true rfl, Nat.le_of_ble_eq_true rfl⟩ ⟨Nat.zero_le _, Nat.zero_le _⟩ rfl rfl (Nat.le_of_ble_eq_true rfl) dX8_cleared_40 ?_
        rintro _ _ ⟨rfl, rfl⟩
        refine aw_iret dX8_cleared_43 (Nat.zero_le _) (Nat.zero_le _) ?_
        refine ⟨rfl, _, _, ?_, rfl, ?_⟩
        · first | exact SC.rf _ _ | exact SC.lp _ _ _
        · first | (simp [*]; done) | (simp_all; done)
      · refine aw_aload_n dX8_cleared_26 rfl rfl ?_
        refine aw_get fd_X8_37_8 dX8_cleared_27 (by omega) rfl rfl ?_
        refine aw_callV cw_X0_leastSteps ml_X8_196 im_X0_leastSteps sl_X0_X0_leastSteps rfl (by omega) rfl (c_X0_leastSteps pk G _ _ n hn) ⟨Nat.le_of_ble_eq_true rfl, Nat.le_of_ble_eq_true rfl⟩ ⟨Nat.zero_le _, Nat.zero_le _⟩ rfl rfl (Nat.le_of_ble_eq_true rfl) dX8_cleared_30 ?_
        rintro _ _ ⟨rfl, rfl⟩
        refine aw_goto (tgt := 43) dX8_cleared_33 (by decide) ?_
        refine aw_iret dX8_cleared_43 (Nat.zero_le _) (Nat.zero_le _) ?_
        refine ⟨rfl, _, _, ?_, rfl, ?_⟩
        · first | exact SC.rf _ _ | exact SC.lp _ _ _
        · first | (simp [*]; done) | (simp_all; done)
    · refine aw_bipush (v := (-3)) dX8_cleared_19 (by decide) ?_
      refine aw_iret dX8_cleared_21 (Nat.zero_le _) (Nat.zero_le _) ?_
      refine ⟨rfl, _, _, ?_, rfl, ?_⟩
      · first | exact SC.rf _ _ | exact SC.lp _ _ _
      · first | (simp [*]; done) | (simp_all; done)
  · refine aw_bipush (v := (-2)) dX8_cleared_9 (by decide) ?_
    refine aw_iret dX8_cleared_11 (Nat.zero_le _) (Nat.zero_le _) ?_
    refine ⟨rfl, _, _, ?_, rfl, ?_⟩
    · first | exact SC.rf _ _ | exact SC.lp _ _ _
    · first | (simp [*]; done) | (simp_all; done)
set_option maxRecDepth 100000 in
set_option maxHeartbeats 4000000 in
theorem c_X8_back {l : Launch} {D : va_G} {tc : Nat → ClassId} (pk : Nat → Nat) (G : Nat → Option Nat) (I F : Nat → Nat → Int32) (n : Nat) (hn : 30 ≤ n) (w : Int32) : AM l D tc yX8_back cX8_back 2 (some .int) 1 22 0 0 [.ref 0, .int w] n (hC pk G I F) (fun v n1 h1 => n1 = n ∧ (v = some (.int (if sW w 0 (I 17 3) then I 17 3 - w else -2)) ∧ h1 = hC pk G (if sW w 0 (I 17 3) then st_I I 17 3 (I 17 3 - w) else I) F)) := by
  refine am_of (L := [some (.ref 0), some (.int w)]) (by decide +kernel) (Nat.le_of_ble_eq_true rfl) rfl ?_
  refine aw_iload_n dX8_back_0 rfl rfl ?_
  refine aw_iconst (v := 0) dX8_back_1 (by decide) ?_
  refine aw_aload_n dX8_back_2 rfl rfl ?_
  refine aw_get fd_X8_44_8 dX8_back_3 (by omega) rfl rfl ?_
  refine aw_get fd_X8_202_5 dX8_back_6 (by omega) rfl rfl ?_
  refine aw_callS cw_X8_isWithin ml_X8_122 sm_X8_isWithin (c_X8_isWithin _ _ _ _ _) ⟨Nat.le_of_ble_eq_true rfl, Nat.le_of_ble_eq_true rfl⟩ ⟨Nat.zero_le _, Nat.zero_le _⟩ rfl rfl (Nat.le_of_ble_eq_true rfl) dX8_back_9 ?_
  rintro _ _ ⟨rfl, rfl⟩
  refine aw_ifB_ne (tgt := 18) dX8_back_12 (by decide) (fun c_12 => ?_) (fun c_12 => ?_)
  · refine aw_aload_n dX8_back_18 rfl rfl ?_
    refine aw_get fd_X8_44_8 dX8_back_19 (by omega) rfl rfl ?_
    refine aw_dup dX8_back_22 rfl ?_
    refine aw_get fd_X8_202_5 dX8_back_23 (by omega) rfl rfl ?_
    refine aw_iload_n dX8_back_26 rfl rfl ?_
    refine aw_isub dX8_back_27 ?_
    refine aw_puti fp_X8_202_5 dX8_back_28 (by omega) rfl rfl rfl (Nat.le_of_ble_eq_true rfl) rfl ?_
    refine aw_aload_n dX8_back_31 rfl rfl ?_
    refine aw_get fd_X8_44_8 dX8_back_32 (by omega) rfl rfl ?_
    refine aw_get fd_X8_202_5 dX8_back_35 (by omega) rfl rfl ?_
    refine aw_iret dX8_back_38 (Nat.zero_le _) (Nat.zero_le _) ?_
    refine ⟨rfl, ?_, ?_⟩
    · first | (rw [if_pos c_12]; rfl) | (rw [if_neg (by rw [c_12]; decide)])
    · first | (rw [if_pos c_12]) | (rw [if_neg (by rw [c_12]; decide)])
  · refine aw_bipush (v := (-2)) dX8_back_15 (by decide) ?_
    refine aw_iret dX8_back_17 (Nat.zero_le _) (Nat.zero_le _) ?_
    refine ⟨rfl, ?_, ?_⟩
    · first | (rw [if_pos c_12]; rfl) | (rw [if_neg (by rw [c_12]; decide)])
    · first | (rw [if_pos c_12]) | (rw [if_neg (by rw [c_12]; decide)])
set_option maxRecDepth 100000 in
set_option maxHeartbeats 4000000 in
theorem c_X8_trace {l : Launch} {D : va_G} {tc : Nat → ClassId} (pk : Nat → Nat) (G : Nat → Option Nat) (I F : Nat → Nat → Int32) (n : Nat) (hn : 30 ≤ n) : AM l D tc yX8_trace cX8_trace 1 (some .int) 0 0 0 0 [.ref 0] n (hC pk G I F) (fun v n1 h1 => n1 = n ∧ (v = some (.int (I 21 0)) ∧ h1 = (hC pk G I F))) := by
  refine am_of (L := [some (.ref 0)]) (by decide +kernel) (Nat.le_of_ble_eq_true rfl) rfl ?_
  refine aw_aload_n dX8_trace_0 rfl rfl ?_
  refine aw_get fd_X8_51_8 dX8_trace_1 (by omega) rfl rfl ?_
  refine aw_get fd_X8_252_7 dX8_trace_4 (by omega) rfl rfl ?_
  refine aw_iret dX8_trace_7 (Nat.zero_le _) (Nat.zero_le _) ?_
  exact ⟨rfl, rfl, rfl⟩
set_option maxRecDepth 100000 in
set_option maxHeartbeats 4000000 in
theorem c_X8_fault {l : Launch} {D : va_G} {tc : Nat → ClassId} (pk : Nat → Nat) (G : Nat → Option Nat) (I F : Nat → Nat → Int32) (n : Nat) (hn : 30 ≤ n) : AM l D tc yX8_fault cX8_fault 1 (some .int) 0 0 0 0 [.ref 0] n (hC pk G I F) (fun v n1 h1 => n1 = n ∧ (v = some (.int (I 0 11)) ∧ h1 = (hC pk G I F))) := by
  refine am_of (L := [some (.ref 0)]) (by decide +kernel) (Nat.le_of_ble_eq_true rfl) rfl ?_
  refine aw_aload_n dX8_fault_0 rfl rfl ?_
  refine aw_get fd_X8_56_8 dX8_fault_1 (by omega) rfl rfl ?_
  refine aw_iret dX8_fault_4 (Nat.zero_le _) (Nat.zero_le _) ?_
  exact ⟨rfl, rfl, rfl⟩
def sel5 (w a0 a1 a2 a3 a4 : Int32) : Int32 := if w = 0 then a0 else if w = 1 then a1 else if w = 2 then a2 else if w = 3 then a3 else if w = 4 then a4 else -2
set_option maxRecDepth 100000 in
set_option maxHeartbeats 4000000 in
theorem c_X8_many {l : Launch} {D : va_G} {tc : Nat → ClassId} (pk : Nat → Nat) (G : Nat → Option Nat) (I F : Nat → Nat → Int32) (n : Nat) (hn : 30 ≤ n) (w : Int32) : AM l D tc yX8_many cX8_many 2 (some .int) 1 20 0 0 [.ref 0, .int w] n (hC pk G I F) (fun v n1 h1 => n1 = n ∧ (v = some (.int (sel5 w (I 0 7) (I 0 8) (sPop (I 0 9)) (I 0 10) (I 17 3))) ∧ h1 = (hC pk G I F))) := by
  refine am_of (L := [some (.ref 0), some (.int w)]) (by decide +kernel) (Nat.le_of_ble_eq_true rfl) rfl ?_
  refine aw_iload_n dX8_many_0 rfl rfl ?_
  by_cases e_1_0 : w = 0
  · refine aw_tableC (off := 35) (tgt := 36) e_1_0 dX8_many_1 (by decide) (by decide) (by decide) (by decide) ?_
    refine aw_aload_n dX8_many_36 rfl rfl ?_
    refine aw_get fd_X8_84_8 dX8_many_37 (by omega) rfl rfl ?_
    refine aw_iret dX8_many_40 (Nat.zero_le _) (Nat.zero_le _) ?_
    refine ⟨rfl, ?_, rfl⟩
    simp [sel5, *]
  by_cases e_1_1 : w = 1
  · refine aw_tableC (off := 40) (tgt := 41) e_1_1 dX8_many_1 (by decide) (by decide) (by decide) (by decide) ?_
    refine aw_aload_n dX8_many_41 rfl rfl ?_
    refine aw_get fd_X8_126_8 dX8_many_42 (by omega) rfl rfl ?_
    refine aw_iret dX8_many_45 (Nat.zero_le _) (Nat.zero_le _) ?_
    refine ⟨rfl, ?_, rfl⟩
    simp [sel5, *]
  by_cases e_1_2 : w = 2
  · refine aw_tableC (off := 45) (tgt := 46) e_1_2 dX8_many_1 (by decide) (by decide) (by decide) (by decide) ?_
    refine aw_aload_n dX8_many_46 rfl rfl ?_
    refine aw_get fd_X8_109_8 dX8_many_47 (by omega) rfl rfl ?_
    refine aw_callS cw_J6_bitCount_0f7a4 ml_X8_150 sm_J6_bitCount_0f7a4 (c_J6_bitCount_0f7a4 _ _ _) ⟨Nat.le_of_ble_eq_true rfl, Nat.le_of_ble_eq_true rfl⟩ ⟨Nat.zero_le _, Nat.zero_le _⟩ rfl rfl (Nat.le_of_ble_eq_true rfl) dX8_many_50 ?_
    rintro _ _ ⟨rfl, rfl⟩
    refine aw_iret dX8_many_53 (Nat.zero_le _) (Nat.zero_le _) ?_
    refine ⟨rfl, ?_, rfl⟩
    simp [sel5, *]
  by_cases e_1_3 : w = 3
  · refine aw_tableC (off := 53) (tgt := 54) e_1_3 dX8_many_1 (by decide) (by decide) (by decide) (by decide) ?_
    refine aw_aload_n dX8_many_54 rfl rfl ?_
    refine aw_get fd_X8_158_8 dX8_many_55 (by omega) rfl rfl ?_
    refine aw_iret dX8_many_58 (Nat.zero_le _) (Nat.zero_le _) ?_
    refine ⟨rfl, ?_, rfl⟩
    simp [sel5, *]
  by_cases e_1_4 : w = 4
  · refine aw_tableC (off := 58) (tgt := 59) e_1_4 dX8_many_1 (by decide) (by decide) (by decide) (by decide) ?_
    refine aw_aload_n dX8_many_59 rfl rfl ?_
    refine aw_get fd_X8_44_8 dX8_many_60 (by omega) rfl rfl ?_
    refine aw_get fd_X8_202_5 dX8_many_63 (by omega) rfl rfl ?_
    refine aw_iret dX8_many_66 (Nat.zero_le _) (Nat.zero_le _) ?_
    refine ⟨rfl, ?_, rfl⟩
    simp [sel5, *]
  refine aw_tableOut (tgt := 67) dX8_many_1 (aw_out5 e_1_0 e_1_1 e_1_2 e_1_3 e_1_4) (by decide) ?_
  refine aw_bipush (v := (-2)) dX8_many_67 (by decide) ?_
  refine aw_iret dX8_many_69 (Nat.zero_le _) (Nat.zero_le _) ?_
  refine ⟨rfl, ?_, rfl⟩
  simp [sel5, *]
set_option maxRecDepth 100000 in
set_option maxHeartbeats 4000000 in
theorem c_X8_tell_no {l : Launch} {D : va_G} {tc : Nat → ClassId} (pk : Nat → Nat) (G : Nat → Option Nat) (I F : Nat → Nat → Int32) (n : Nat) (hn : 30 ≤ n) {c : Nat} (hI0 : I 0 7 = nI c) {x : Int32} (hx : sP c x = false) : AM l D tc yX8_tell cX8_tell 3 (some .int) 4 85 0 0 [.ref 0, .int x] n (hC pk G I F) (fun v n1 h1 => n1 = n ∧ (v = some (.int (-1)) ∧ h1 = hC pk G I F)) := by
  refine am_of (L := [some (.ref 0), some (.int x), none]) (by decide +kernel) (Nat.le_of_ble_eq_true rfl) rfl ?_
  refine aw_aload_n dX8_tell_0 rfl rfl ?_
  refine aw_iload_n dX8_tell_1 rfl rfl ?_
  refine aw_callV cw_X8_personAt ml_X8_87 im_X8_personAt sl_X8_X8_personAt rfl (by omega) rfl (c_X8_personAt_no pk G _ _ n hn hI0 hx) ⟨Nat.le_of_ble_eq_true rfl, Nat.le_of_ble_eq_true rfl⟩ ⟨Nat.zero_le _, Nat.zero_le _⟩ rfl rfl (Nat.le_of_ble_eq_true rfl) dX8_tell_2 ?_
  rintro _ _ ⟨rfl, rfl⟩
  refine aw_astore_nN dX8_tell_5 rfl (by decide) rfl ?_
  refine aw_aload_nN dX8_tell_6 rfl rfl ?_
  refine aw_ifnonnullN dX8_tell_7 ?_
  refine aw_iconst (v := (-1)) dX8_tell_10 (by decide) ?_
  refine aw_goto (tgt := 22) dX8_tell_11 (by decide) ?_
  refine aw_iret dX8_tell_22 (Nat.zero_le _) (Nat.zero_le _) ?_
  exact ⟨rfl, rfl, rfl⟩
set_option maxRecDepth 100000 in
set_option maxHeartbeats 4000000 in
theorem c_X8_hear_no {l : Launch} {D : va_G} {tc : Nat → ClassId} (pk : Nat → Nat) (G : Nat → Option Nat) (I F : Nat → Nat → Int32) (n : Nat) (hn : 30 ≤ n) {c : Nat} (hI0 : I 0 7 = nI c) {x : Int32} (hx : sP c x = false) : AM l D tc yX8_hear cX8_hear 3 (some .int) 2 42 0 0 [.ref 0, .int x] n (hC pk G I F) (fun v n1 h1 => n1 = n ∧ (v = some (.int (-1)) ∧ h1 = hC pk G I F)) := by
  refine am_of (L := [some (.ref 0), some (.int x), none]) (by decide +kernel) (Nat.le_of_ble_eq_true rfl) rfl ?_
  refine aw_aload_n dX8_hear_0 rfl rfl ?_
  refine aw_iload_n dX8_hear_1 rfl rfl ?_
  refine aw_callV cw_X8_personAt ml_X8_87 im_X8_personAt sl_X8_X8_personAt rfl (by omega) rfl (c_X8_personAt_no pk G _ _ n hn hI0 hx) ⟨Nat.le_of_ble_eq_true rfl, Nat.le_of_ble_eq_true rfl⟩ ⟨Nat.zero_le _, Nat.zero_le _⟩ rfl rfl (Nat.le_of_ble_eq_true rfl) dX8_hear_2 ?_
  rintro _ _ ⟨rfl, rfl⟩
  refine aw_astore_nN dX8_hear_5 rfl (by decide) rfl ?_
  refine aw_aload_nN dX8_hear_6 rfl rfl ?_
  refine aw_ifnonnullN dX8_hear_7 ?_
  refine aw_iconst (v := (-1)) dX8_hear_10 (by decide) ?_
  refine aw_goto (tgt := 22) dX8_hear_11 (by decide) ?_
  refine aw_iret dX8_hear_22 (Nat.zero_le _) (Nat.zero_le _) ?_
  exact ⟨rfl, rfl, rfl⟩
set_option maxRecDepth 100000 in
set_option maxHeartbeats 4000000 in
theorem c_X8_tell {l : Launch} {D : va_G} {tc : Nat → ClassId} (pk : Nat → Nat) (G : Nat → Option Nat) (I F : Nat → Nat → Int32) (n : Nat) (hn : 30 ≤ n) {c : Nat} {g : Nat → Nat} (hW : WP pk G n c g) (hI0 : I 0 7 = nI c) {p : Nat} (hp : p < c) : AM l D tc yX8_tell cX8_tell 3 (some .int) 4 85 0 0 [.ref 0, .int (nI p)] n (hC pk G I F) (fun v n1 h1 => n1 = n ∧ (v = some (.int (sTell (pk (g p)) (I (g p + 30) 1))) ∧ h1 = hC pk G (trTell (pk (g p)) I) F)) := by
  refine am_of (L := [some (.ref 0), some (.int (nI p)), none]) (by decide +kernel) (Nat.le_of_ble_eq_true rfl) rfl ?_
  refine aw_aload_n dX8_tell_0 rfl rfl ?_
  refine aw_iload_n dX8_tell_1 rfl rfl ?_
  refine aw_callV cw_X8_personAt ml_X8_87 im_X8_personAt sl_X8_X8_personAt rfl (by omega) rfl (c_X8_personAt pk G _ _ n hn hW hI0 hp rfl) ⟨Nat.le_of_ble_eq_true rfl, Nat.le_of_ble_eq_true rfl⟩ ⟨Nat.zero_le _, Nat.zero_le _⟩ rfl rfl (Nat.le_of_ble_eq_true rfl) dX8_tell_2 ?_
  rintro _ _ ⟨rfl, rfl⟩
  refine aw_astore_n dX8_tell_5 rfl (by decide) rfl ?_
  refine aw_aload_n dX8_tell_6 rfl rfl ?_
  refine aw_ifnonnull (tgt := 14) dX8_tell_7 (by decide) ?_
  refine aw_aload_n dX8_tell_14 rfl rfl ?_
  refine aw_aload_n dX8_tell_15 rfl rfl ?_
  refine aw_get fd_X8_51_8 dX8_tell_16 (by omega) rfl rfl ?_
  refine aw_tellP hn (hW.2 _ hp).2.2 (hW.2 _ hp).2.1 ⟨Nat.le_of_ble_eq_true rfl, Nat.le_of_ble_eq_true rfl⟩ ⟨Nat.zero_le _, Nat.zero_le _⟩ (Nat.le_of_ble_eq_true rfl) dX8_tell_19 ?_
  refine aw_iret dX8_tell_22 (Nat.zero_le _) (Nat.zero_le _) ?_
  exact ⟨rfl, rfl, rfl⟩
set_option maxRecDepth 100000 in
set_option maxHeartbeats 4000000 in
theorem c_X8_hear {l : Launch} {D : va_G} {tc : Nat → ClassId} (pk : Nat → Nat) (G : Nat → Option Nat) (I F : Nat → Nat → Int32) (n : Nat) (hn : 30 ≤ n) {c : Nat} {g : Nat → Nat} (hW : WP pk G n c g) (hI0 : I 0 7 = nI c) {p : Nat} (hp : p < c) : AM l D tc yX8_hear cX8_hear 3 (some .int) 2 42 0 0 [.ref 0, .int (nI p)] n (hC pk G I F) (fun v n1 h1 => n1 = n ∧ (v = some (.int (sHear (pk (g p)) (I (g p + 30) 0))) ∧ h1 = hC pk G (trHear (pk (g p)) I) F)) := by
  refine am_of (L := [some (.ref 0), some (.int (nI p)), none]) (by decide +kernel) (Nat.le_of_ble_eq_true rfl) rfl ?_
  refine aw_aload_n dX8_hear_0 rfl rfl ?_
  refine aw_iload_n dX8_hear_1 rfl rfl ?_
  refine aw_callV cw_X8_personAt ml_X8_87 im_X8_personAt sl_X8_X8_personAt rfl (by omega) rfl (c_X8_personAt pk G _ _ n hn hW hI0 hp rfl) ⟨Nat.le_of_ble_eq_true rfl, Nat.le_of_ble_eq_true rfl⟩ ⟨Nat.zero_le _, Nat.zero_le _⟩ rfl rfl (Nat.le_of_ble_eq_true rfl) dX8_hear_2 ?_
  rintro _ _ ⟨rfl, rfl⟩
  refine aw_astore_n dX8_hear_5 rfl (by decide) rfl ?_
  refine aw_aload_n dX8_hear_6 rfl rfl ?_
  refine aw_ifnonnull (tgt := 14) dX8_hear_7 (by decide) ?_
  refine aw_aload_n dX8_hear_14 rfl rfl ?_
  refine aw_aload_n dX8_hear_15 rfl rfl ?_
  refine aw_get fd_X8_51_8 dX8_hear_16 (by omega) rfl rfl ?_
  refine aw_hearP hn (hW.2 _ hp).2.2 (hW.2 _ hp).2.1 ⟨Nat.le_of_ble_eq_true rfl, Nat.le_of_ble_eq_true rfl⟩ ⟨Nat.zero_le _, Nat.zero_le _⟩ (Nat.le_of_ble_eq_true rfl) dX8_hear_19 ?_
  refine aw_iret dX8_hear_22 (Nat.zero_le _) (Nat.zero_le _) ?_
  exact ⟨rfl, rfl, rfl⟩
set_option maxRecDepth 100000 in
set_option maxHeartbeats 4000000 in
theorem c_X8_as_no {l : Launch} {D : va_G} {tc : Nat → ClassId} (pk : Nat → Nat) (G : Nat → Option Nat) (I F : Nat → Nat → Int32) (n : Nat) (hn : 30 ≤ n) {c : Nat} (hI0 : I 0 7 = nI c) {x : Int32} (hx : sP c x = false) (w : Int32) : AM l D tc yX8_as cX8_as 4 (some .int) 1 22 0 0 [.ref 0, .int x, .int w] n (hC pk G I F) (fun v n1 h1 => n1 = n ∧ (v = some (.int (-1)) ∧ h1 = hC pk G (st_I I 0 11 0) F)) := by
  refine am_of (L := [some (.ref 0), some (.int x), some (.int w), none]) (by decide +kernel) (Nat.le_of_ble_eq_true rfl) rfl ?_
  refine aw_aload_n dX8_as_0 rfl rfl ?_
  refine aw_iconst (v := 0) dX8_as_1 (by decide) ?_
  refine aw_puti fp_X8_56_8 dX8_as_2 (by omega) rfl rfl rfl (Nat.le_of_ble_eq_true rfl) rfl ?_
  refine aw_aload_n dX8_as_5 rfl rfl ?_
  refine aw_iload_n dX8_as_6 rfl rfl ?_
  refine aw_callV cw_X8_personAt ml_X8_87 im_X8_personAt sl_X8_X8_personAt rfl (by omega) rfl (c_X8_personAt_no pk G (st_I I 0 11 0) _ n hn (show st_I I 0 11 0 0 7 = nI c from hI0) hx) ⟨Nat.le_of_ble_eq_true rfl, Nat.le_of_ble_eq_true rfl⟩ ⟨Nat.zero_le _, Nat.zero_le _⟩ rfl rfl (Nat.le_of_ble_eq_true rfl) dX8_as_7 ?_
  rintro _ _ ⟨rfl, rfl⟩
  refine aw_astore_nN dX8_as_10 rfl (by decide) rfl ?_
  refine aw_aload_nN dX8_as_11 rfl rfl ?_
  refine aw_ifnonnullN dX8_as_12 ?_
  refine aw_iconst (v := (-1)) dX8_as_15 (by decide) ?_
  refine aw_iret dX8_as_16 (Nat.zero_le _) (Nat.zero_le _) ?_
  exact ⟨rfl, rfl, rfl⟩
theorem st_II (I : Nat → Nat → Int32) (a k : Nat) (u v : Int32) : st_I (st_I I a k u) a k v = st_I I a k v := by
  funext b j
  unfold st_I upd
  by_cases e : b = a
  · by_cases e2 : j = k <;> simp [e, e2]
  · simp [e]
set_option maxRecDepth 100000 in
set_option maxHeartbeats 4000000 in
theorem c_X8_as {l : Launch} {D : va_G} {tc : Nat → ClassId} (pk : Nat → Nat) (G : Nat → Option Nat) (I F : Nat → Nat → Int32) (n : Nat) (hn : 30 ≤ n) {c : Nat} {g : Nat → Nat} (hW : WP pk G n c g) (hI0 : I 0 7 = nI c) {p : Nat} (hp : p < c) (w : Int32) : AM l D tc yX8_as cX8_as 4 (some .int) 1 22 0 0 [.ref 0, .int (nI p), .int w] n (hC pk G I F) (fun v n1 h1 => n1 = n ∧ (v = some (.int (if sW w 0 2 then (if sOne (pk (g p)) w = 0 then -12 else 1) else -2)) ∧ h1 = hC pk G (if sW w 0 2 then (if sOne (pk (g p)) w = 0 then st_I I 0 11 2 else st_I I 0 11 0) else st_I I 0 11 0) F)) := by
  refine am_of (L := [some (.ref 0), some (.int (nI p)), some (.int w), none]) (by decide +kernel) (Nat.le_of_ble_eq_true rfl) rfl ?_
  refine aw_aload_n dX8_as_0 rfl rfl ?_
  refine aw_iconst (v := 0) dX8_as_1 (by decide) ?_
  refine aw_puti fp_X8_56_8 dX8_as_2 (by omega) rfl rfl rfl (Nat.le_of_ble_eq_true rfl) rfl ?_
  refine aw_aload_n dX8_as_5 rfl rfl ?_
  refine aw_iload_n dX8_as_6 rfl rfl ?_
  refine aw_callV cw_X8_personAt ml_X8_87 im_X8_personAt sl_X8_X8_personAt rfl (by omega) rfl (c_X8_personAt pk G (st_I I 0 11 0) _ n hn hW (show st_I I 0 11 0 0 7 = nI c from hI0) hp rfl) ⟨Nat.le_of_ble_eq_true rfl, Nat.le_of_ble_eq_true rfl⟩ ⟨Nat.zero_le _, Nat.zero_le _⟩ rfl rfl (Nat.le_of_ble_eq_true rfl) dX8_as_7 ?_
  rintro _ _ ⟨rfl, rfl⟩
  refine aw_astore_n dX8_as_10 rfl (by decide) rfl ?_
  refine aw_aload_n dX8_as_11 rfl rfl ?_
  refine aw_ifnonnull (tgt := 17) dX8_as_12 (by decide) ?_
  refine aw_iload_n dX8_as_17 rfl rfl ?_
  refine aw_iconst (v := 0) dX8_as_18 (by decide) ?_
  refine aw_iconst (v := 2) dX8_as_19 (by decide) ?_
  refine aw_callS cw_X8_isWithin ml_X8_122 sm_X8_isWithin (c_X8_isWithin _ _ _ _ _) ⟨Nat.le_of_ble_eq_true rfl, Nat.le_of_ble_eq_true rfl⟩ ⟨Nat.zero_le _, Nat.zero_le _⟩ rfl rfl (Nat.le_of_ble_eq_true rfl) dX8_as_20 ?_
  rintro _ _ ⟨rfl, rfl⟩
  refine aw_ifB_ne (tgt := 29) dX8_as_23 (by decide) (fun c_23 => ?_) (fun c_23 => ?_)
  · refine aw_aload_n dX8_as_29 rfl rfl ?_
    refine aw_iload_n dX8_as_30 rfl rfl ?_
    refine aw_callS cw_X8_isOneOf ml_X8_248 sm_X8_isOneOf (c_X8_isOneOf pk G _ _ n hn (hW.2 _ hp).2.2 (hW.2 _ hp).2.1 _) ⟨Nat.le_of_ble_eq_true rfl, Nat.le_of_ble_eq_true rfl⟩ ⟨Nat.zero_le _, Nat.zero_le _⟩ rfl rfl (Nat.le_of_ble_eq_true rfl) dX8_as_31 ?_
    rintro _ _ ⟨rfl, rfl⟩
    refine aw_if_eq (tgt := 41) dX8_as_34 (by decide) (fun c_34 => ?_) (fun c_34 => ?_)
    · refine aw_aload_n dX8_as_41 rfl rfl ?_
      refine aw_iconst (v := 2) dX8_as_42 (by decide) ?_
      refine aw_callV cw_X8_faulted ml_X8_72 im_X8_faulted sl_X8_X8_faulted rfl (by omega) rfl (c_X8_faulted pk G _ _ n hn _) ⟨Nat.le_of_ble_eq_true rfl, Nat.le_of_ble_eq_true rfl⟩ ⟨Nat.zero_le _, Nat.zero_le _⟩ rfl rfl (Nat.le_of_ble_eq_true rfl) dX8_as_43 ?_
      rintro _ _ ⟨rfl, rfl⟩
      refine aw_iret dX8_as_46 (Nat.zero_le _) (Nat.zero_le _) ?_
      refine ⟨rfl, ?_, ?_⟩
      · first | (simp [*]; done) | (simp_all; done)
      · first | (simp [st_II, *]; done) | (simp_all [st_II]; done)
    · refine aw_iconst (v := 1) dX8_as_37 (by decide) ?_
      refine aw_goto (tgt := 46) dX8_as_38 (by decide) ?_
      refine aw_iret dX8_as_46 (Nat.zero_le _) (Nat.zero_le _) ?_
      refine ⟨rfl, ?_, ?_⟩
      · first | (simp [*]; done) | (simp_all; done)
      · first | (simp [st_II, *]; done) | (simp_all [st_II]; done)
  · refine aw_bipush (v := (-2)) dX8_as_26 (by decide) ?_
    refine aw_iret dX8_as_28 (Nat.zero_le _) (Nat.zero_le _) ?_
    refine ⟨rfl, ?_, ?_⟩
    · first | (simp [*]; done) | (simp_all; done)
    · first | (simp [st_II, *]; done) | (simp_all [st_II]; done)
set_option maxRecDepth 100000 in
set_option maxHeartbeats 4000000 in
theorem c_X8_reading_no {l : Launch} {D : va_G} {tc : Nat → ClassId} (pk : Nat → Nat) (G : Nat → Option Nat) (I F : Nat → Nat → Int32) (n : Nat) (hn : 30 ≤ n) {c : Nat} (hI0 : I 0 7 = nI c) {x : Int32} (hx : sP c x = false) (y : Int32) (w : Int32) : AM l D tc yX8_reading cX8_reading 4 (some .int) 2 45 0 0 [.ref 0, .int x, .int y, .int w] n (hC pk G I F) (fun v n1 h1 => n1 = n ∧ (v = some (.int (-1)) ∧ h1 = hC pk G I F)) := by
  refine am_of (L := [some (.ref 0), some (.int x), some (.int y), some (.int w)]) (by decide +kernel) (Nat.le_of_ble_eq_true rfl) rfl ?_
  refine aw_aload_n dX8_reading_0 rfl rfl ?_
  refine aw_iload_n dX8_reading_1 rfl rfl ?_
  refine aw_callV cw_X8_personAt ml_X8_87 im_X8_personAt sl_X8_X8_personAt rfl (by omega) rfl (c_X8_personAt_no pk G _ _ n hn hI0 hx) ⟨Nat.le_of_ble_eq_true rfl, Nat.le_of_ble_eq_true rfl⟩ ⟨Nat.zero_le _, Nat.zero_le _⟩ rfl rfl (Nat.le_of_ble_eq_true rfl) dX8_reading_2 ?_
  rintro _ _ ⟨rfl, rfl⟩
  refine aw_ifnonnullN dX8_reading_5 ?_
  refine aw_iconst (v := (-1)) dX8_reading_8 (by decide) ?_
  refine aw_iret dX8_reading_9 (Nat.zero_le _) (Nat.zero_le _) ?_
  exact ⟨rfl, rfl, rfl⟩
theorem on_b2i {w : Int32} (h : sW w 0 1 = true) : b2i (decide (w = 1)) = w := by
  obtain ⟨a, ha, rfl⟩ := sW_ex (m := 1) (by decide) h
  match a, ha with
  | 0, _ => decide
  | 1, _ => decide
set_option maxRecDepth 100000 in
set_option maxHeartbeats 4000000 in
theorem c_X8_reading {l : Launch} {D : va_G} {tc : Nat → ClassId} (pk : Nat → Nat) (G : Nat → Option Nat) (I F : Nat → Nat → Int32) (n : Nat) (hn : 30 ≤ n) {c : Nat} {g : Nat → Nat} (hW : WP pk G n c g) (hI0 : I 0 7 = nI c) {p : Nat} (hp : p < c) {r : Nat} (hr : r ≤ 8) (hI1 : I 17 3 = nI r) (y w : Int32) : AM l D tc yX8_reading cX8_reading 4 (some .int) 2 45 0 0 [.ref 0, .int (nI p), .int y, .int w] n (hC pk G I F) (fun v n1 h1 => n1 = n ∧ (v = some (.int (if sW y 0 18 && sW w 0 1 then (if r < 8 then nI r else -4) else -2)) ∧ h1 = hC pk G (if sW y 0 18 && sW w 0 1 then (if r < 8 then st_I I 17 3 (nI (r + 1)) else I) else I) (if sW y 0 18 && sW w 0 1 then (if r < 8 then rdF F r (nI p) y w else F) else F))) := by
  refine am_of (L := [some (.ref 0), some (.int (nI p)), some (.int y), some (.int w)]) (by decide +kernel) (Nat.le_of_ble_eq_true rfl) rfl ?_
  refine aw_aload_n dX8_reading_0 rfl rfl ?_
  refine aw_iload_n dX8_reading_1 rfl rfl ?_
  refine aw_callV cw_X8_personAt ml_X8_87 im_X8_personAt sl_X8_X8_personAt rfl (by omega) rfl (c_X8_personAt pk G _ _ n hn hW hI0 hp rfl) ⟨Nat.le_of_ble_eq_true rfl, Nat.le_of_ble_eq_true rfl⟩ ⟨Nat.zero_le _, Nat.zero_le _⟩ rfl rfl (Nat.le_of_ble_eq_true rfl) dX8_reading_2 ?_
  rintro _ _ ⟨rfl, rfl⟩
  refine aw_ifnonnull (tgt := 10) dX8_reading_5 (by decide) ?_
  refine aw_iload_n dX8_reading_10 rfl rfl ?_
  refine aw_iconst (v := 0) dX8_reading_11 (by decide) ?_
  refine aw_bipush (v := (18)) dX8_reading_12 (by decide) ?_
  refine aw_callS cw_X8_isWithin ml_X8_122 sm_X8_isWithin (c_X8_isWithin _ _ _ _ _) ⟨Nat.le_of_ble_eq_true rfl, Nat.le_of_ble_eq_true rfl⟩ ⟨Nat.zero_le _, Nat.zero_le _⟩ rfl rfl (Nat.le_of_ble_eq_true rfl) dX8_reading_14 ?_
  rintro _ _ ⟨rfl, rfl⟩
  refine aw_ifB_eq (tgt := 29) dX8_reading_17 (by decide) (fun c_17 => ?_) (fun c_17 => ?_)
  · refine aw_bipush (v := (-2)) dX8_reading_29 (by decide) ?_
    refine aw_iret dX8_reading_31 (Nat.zero_le _) (Nat.zero_le _) ?_
    refine ⟨rfl, ?_, ?_⟩ <;> first | (simp [*]; done) | (simp_all; done)
  · refine aw_iload_n dX8_reading_20 rfl rfl ?_
    refine aw_iconst (v := 0) dX8_reading_21 (by decide) ?_
    refine aw_iconst (v := 1) dX8_reading_22 (by decide) ?_
    refine aw_callS cw_X8_isWithin ml_X8_122 sm_X8_isWithin (c_X8_isWithin _ _ _ _ _) ⟨Nat.le_of_ble_eq_true rfl, Nat.le_of_ble_eq_true rfl⟩ ⟨Nat.zero_le _, Nat.zero_le _⟩ rfl rfl (Nat.le_of_ble_eq_true rfl) dX8_reading_23 ?_
    rintro _ _ ⟨rfl, rfl⟩
    refine aw_ifB_ne (tgt := 32) dX8_reading_26 (by decide) (fun c_26 => ?_) (fun c_26 => ?_)
    · refine aw_aload_n dX8_reading_32 rfl rfl ?_
      refine aw_get fd_X8_44_8 dX8_reading_33 (by omega) rfl rfl ?_
      refine aw_get fd_X8_202_5 dX8_reading_36 (by omega) rfl rfl ?_
      refine aw_bipush (v := (8)) dX8_reading_39 (by decide) ?_
      refine aw_icmp_lt (tgt := 47) dX8_reading_41 (by decide) (fun c_41 => ?_) (fun c_41 => ?_)
      · have hr8 : r < 8 := by
          rcases Nat.lt_or_ge r 8 with q | q
          · exact q
          · exact absurd (by rw [hI1] at c_41; exact c_41) (nI_nlt (b := 8) q (by omega))
        refine aw_aload_n dX8_reading_47 rfl rfl ?_
        refine aw_get fd_X8_44_8 dX8_reading_48 (by omega) rfl rfl ?_
        refine aw_iload_n dX8_reading_51 rfl rfl ?_
        refine aw_iload_n dX8_reading_52 rfl rfl ?_
        refine aw_iload_n dX8_reading_53 rfl rfl ?_
        refine aw_iconst (v := 1) dX8_reading_54 (by decide) ?_
        refine aw_icmp_ne (tgt := 62) dX8_reading_55 (by decide) (fun c_55 => ?_) (fun c_55 => ?_)
        · refine aw_iconst (v := 0) dX8_reading_62 (by decide) ?_
          refine aw_callV (rest := []) (av := [.int (nI p), .int y, .int (b2i (decide (w = 1)))]) cw_X5_add ml_X8_203 im_X5_add sl_X5_X5_add rfl (by omega) rfl (c_X5_add pk G _ _ n hn (c := r) (by omega) hI1 _ _ (decide (w = 1))) ⟨Nat.le_of_ble_eq_true rfl, Nat.le_of_ble_eq_true rfl⟩ ⟨Nat.zero_le _, Nat.zero_le _⟩ rfl (by simp [b2i, *]) (Nat.le_of_ble_eq_true rfl) dX8_reading_63 ?_
          rintro _ _ ⟨rfl, rfl⟩
          refine aw_iret dX8_reading_66 (Nat.zero_le _) (Nat.zero_le _) ?_
          rw [on_b2i c_26]
          refine ⟨rfl, ?_, ?_⟩ <;> first | (simp [*]; done) | (simp_all; done)
        · refine aw_iconst (v := 1) dX8_reading_58 (by decide) ?_
          refine aw_goto (tgt := 63) dX8_reading_59 (by decide) ?_
          refine aw_callV (rest := []) (av := [.int (nI p), .int y, .int (b2i (decide (w = 1)))]) cw_X5_add ml_X8_203 im_X5_add sl_X5_X5_add rfl (by omega) rfl (c_X5_add pk G _ _ n hn (c := r) (by omega) hI1 _ _ (decide (w = 1))) ⟨Nat.le_of_ble_eq_true rfl, Nat.le_of_ble_eq_true rfl⟩ ⟨Nat.zero_le _, Nat.zero_le _⟩ rfl (by simp [b2i, *]) (Nat.le_of_ble_eq_true rfl) dX8_reading_63 ?_
          rintro _ _ ⟨rfl, rfl⟩
          refine aw_iret dX8_reading_66 (Nat.zero_le _) (Nat.zero_le _) ?_
          rw [on_b2i c_26]
          refine ⟨rfl, ?_, ?_⟩ <;> first | (simp [*]; done) | (simp_all; done)
      · refine aw_bipush (v := (-4)) dX8_reading_44 (by decide) ?_
        refine aw_iret dX8_reading_46 (Nat.zero_le _) (Nat.zero_le _) ?_
        have hr8 : ¬ r < 8 := fun q => c_41 (by rw [hI1]; exact nI_lt q (by decide))
        refine ⟨rfl, ?_, ?_⟩ <;> first | (simp [*]; done) | (simp_all; done)
    · refine aw_bipush (v := (-2)) dX8_reading_29 (by decide) ?_
      refine aw_iret dX8_reading_31 (Nat.zero_le _) (Nat.zero_le _) ?_
      refine ⟨rfl, ?_, ?_⟩ <;> first | (simp [*]; done) | (simp_all; done)
