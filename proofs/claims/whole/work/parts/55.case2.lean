set_option maxRecDepth 100000 in
set_option maxHeartbeats 4000000 in
theorem lc_loss {p : Program} {l : Launch} {e : Env} {s : State} {m : MethodId} {below : List Frame} {meth : Method} {c : Code} {b L : Nat} {xs : Nat → Int32} {D : va_G} {tc : Nat → ClassId} {H : Heap} {locs : List Loc} {cells slots : Nat} {Q : State → Prop} {pk : Nat → Nat} {G : Nat → Option Nat} {I F : Nat → Nat → Int32} {n c0 : Nat} {g : Nat → Nat} {x r : Nat} {J Hm : Nat → Nat → Int32} {ad ad2 : Nat → Nat} {ls : Array Slot} {x3 : Int32} (C0 : lw_At p s m meth c b L xs) (hK : aw_K D tc s) (hn : 30 ≤ n) (hR : Rel pk G I F n c0 g x r J Hm) (hI : LI D tc s H locs n (hC pk G I F) ad (aw_ws tc ad2 15 (hM J Hm))) (hl : lv_has ls 4 [(3, .int x3), (2, .ref (ad2 0)), (1, .ref (ad 0)), (0, .ref b)]) (hv : ∀ k : Nat, k < 6 → vp_in (x3 + nI k) L) (hc : cells + 6 ≤ 600000 ∧ slots + 18 ≤ 7302250) (kk : LK p l e s m below meth c b D tc cells slots Q ls ad ad2) : W p l e room_1 s m #[Value.ref b] below meth c H locs cells slots Q (F0 m 553 ls []) := by
  obtain ⟨hx, hb, hr, hml, hown, hts, hX, hbl, hlocks, hgv⟩ := id C0
  have hbA : ¬ LA s b := Nat.not_le.mpr hbl
  obtain ⟨w, pk1, G1, I1, F1, n1, c1, g1, x1, r1, J1, H1, hA, hB, hR1, hn1, hw⟩ := e_loss (l := l) (D := D) (tc := tc) hn hR (xs (x3 + 1).toNatClampNeg)
  obtain ⟨z, rfl⟩ := isN_i hw
  refine lv_aload_n hx hb dL_law_553 rfl (lv_at hl 2 rfl) ?_
  refine lv_aload_n hx hb dL_law_554 rfl (lv_at hl 3 rfl) ?_
  refine lv_iload_n hx hb dL_law_555 rfl (lv_at hl 0 rfl) ?_
  refine lv_iconst (v := 1) hx hb dL_law_556 (by decide) ?_
  refine lv_iadd hx hb dL_law_557 ?_
  refine va_sld hx hb hX hbl hbA hI.2.2 (hv 1 (by decide)) dL_law_558 ?_
  refine lw_call (av := [.int (xs (x3 + 1).toNatClampNeg)]) (rest := []) C0 hK hI hA cw_X8_loss ml_L_63 im_X8_loss sl_X8_X8_loss rfl (by omega) rfl (fun _ => rfl) rfl ⟨Nat.le_of_ble_eq_true rfl, Nat.le_of_ble_eq_true rfl⟩ ⟨by omega, by omega⟩ (Nat.le_of_ble_eq_true rfl) hl.1 dL_law_559 (fun v n2 h2 ad1 Hh locs1 hq hle had hI1 => ?_)
  obtain ⟨rfl, rfl, I2, F2, rfl, hSC⟩ := hq
  refine W.eq (g2 := F0 m 562 ls [.int z]) rfl ?_
  have hI2 : LI D tc s Hh locs1 15 (hM J Hm) ad2 (aw_ws tc ad1 n2 (hC pk1 G1 I2 F2)) := ⟨ww_Ps hI1.1, ww_Ds hI1.2.1, hI1.2.2⟩
  refine lv_aload_n hx hb dL_law_562 rfl (lv_at hl 1 rfl) ?_
  refine lv_aload_n hx hb dL_law_563 rfl (lv_at hl 3 rfl) ?_
  refine lv_iload_n hx hb dL_law_564 rfl (lv_at hl 0 rfl) ?_
  refine lv_iconst (v := 1) hx hb dL_law_565 (by decide) ?_
  refine lv_iadd hx hb dL_law_566 ?_
  refine va_sld hx hb hX hbl hbA hI1.2.2 (hv 1 (by decide)) dL_law_567 ?_
  refine lw_call (av := [.int (xs (x3 + 1).toNatClampNeg)]) (rest := [.int z]) C0 hK hI2 hB cw_X9_loss ml_L_66 im_X9_loss sl_X9_X9_loss rfl (by decide) rfl (fun _ => rfl) rfl ⟨Nat.le_of_ble_eq_true rfl, Nat.le_of_ble_eq_true rfl⟩ ⟨by omega, by omega⟩ (Nat.le_of_ble_eq_true rfl) hl.1 dL_law_568 (fun v n3 h3 ad3 Hh2 locs2 hq2 hle2 had2 hI3 => ?_)
  obtain ⟨rfl, rfl, J2, H2, rfl, hSM⟩ := hq2
  refine W.eq (g2 := F0 m 571 ls [.int z, .int z]) rfl ?_
  refine lv_icmp_eq (tgt := 1211) hx hb dL_law_571 (by decide) (fun _ => ?_) (fun c9 => absurd rfl c9)
  refine W.widen (k := cells + 6) (n := slots + 18) (by omega) (by omega) ?_
  exact kk pk1 G1 I2 F2 _ c1 g1 x1 r1 J2 H2 ad1 ad3 _ _ (by omega) (Rel_SM hSM (Rel_SC hSC hR1)) ⟨ww_Ps hI3.1, ww_Ds hI3.2.1, hI3.2.2⟩ (had 0 (by omega)) (had2 0 (by omega))
set_option maxRecDepth 100000 in
set_option maxHeartbeats 4000000 in
theorem lc_let {p : Program} {l : Launch} {e : Env} {s : State} {m : MethodId} {below : List Frame} {meth : Method} {c : Code} {b L : Nat} {xs : Nat → Int32} {D : va_G} {tc : Nat → ClassId} {H : Heap} {locs : List Loc} {cells slots : Nat} {Q : State → Prop} {pk : Nat → Nat} {G : Nat → Option Nat} {I F : Nat → Nat → Int32} {n c0 : Nat} {g : Nat → Nat} {x r : Nat} {J Hm : Nat → Nat → Int32} {ad ad2 : Nat → Nat} {ls : Array Slot} {x3 : Int32} (C0 : lw_At p s m meth c b L xs) (hK : aw_K D tc s) (hn : 30 ≤ n) (hR : Rel pk G I F n c0 g x r J Hm) (hI : LI D tc s H locs n (hC pk G I F) ad (aw_ws tc ad2 15 (hM J Hm))) (hl : lv_has ls 4 [(3, .int x3), (2, .ref (ad2 0)), (1, .ref (ad 0)), (0, .ref b)]) (hv : ∀ k : Nat, k < 6 → vp_in (x3 + nI k) L) (hc : cells + 6 ≤ 600000 ∧ slots + 18 ≤ 7302250) (kk : LK p l e s m below meth c b D tc cells slots Q ls ad ad2) : W p l e room_1 s m #[Value.ref b] below meth c H locs cells slots Q (F0 m 576 ls []) := by
  obtain ⟨hx, hb, hr, hml, hown, hts, hX, hbl, hlocks, hgv⟩ := id C0
  have hbA : ¬ LA s b := Nat.not_le.mpr hbl
  obtain ⟨w, pk1, G1, I1, F1, n1, c1, g1, x1, r1, J1, H1, hA, hB, hR1, hn1, hw⟩ := e_let (l := l) (D := D) (tc := tc) hn hR (xs (x3 + 1).toNatClampNeg) (xs (x3 + 2).toNatClampNeg)
  obtain ⟨z, rfl⟩ := isN_i hw
  refine lv_aload_n hx hb dL_law_576 rfl (lv_at hl 2 rfl) ?_
  refine lv_aload_n hx hb dL_law_577 rfl (lv_at hl 3 rfl) ?_
  refine lv_iload_n hx hb dL_law_578 rfl (lv_at hl 0 rfl) ?_
  refine lv_iconst (v := 1) hx hb dL_law_579 (by decide) ?_
  refine lv_iadd hx hb dL_law_580 ?_
  refine va_sld hx hb hX hbl hbA hI.2.2 (hv 1 (by decide)) dL_law_581 ?_
  refine lv_aload_n hx hb dL_law_582 rfl (lv_at hl 3 rfl) ?_
  refine lv_iload_n hx hb dL_law_583 rfl (lv_at hl 0 rfl) ?_
  refine lv_iconst (v := 2) hx hb dL_law_584 (by decide) ?_
  refine lv_iadd hx hb dL_law_585 ?_
  refine va_sld hx hb hX hbl hbA hI.2.2 (hv 2 (by decide)) dL_law_586 ?_
  refine lw_call (av := [.int (xs (x3 + 1).toNatClampNeg), .int (xs (x3 + 2).toNatClampNeg)]) (rest := []) C0 hK hI hA cw_X8_let ml_L_67 im_X8_let sl_X8_X8_let rfl (by omega) rfl (fun _ => rfl) rfl ⟨Nat.le_of_ble_eq_true rfl, Nat.le_of_ble_eq_true rfl⟩ ⟨by omega, by omega⟩ (Nat.le_of_ble_eq_true rfl) hl.1 dL_law_587 (fun v n2 h2 ad1 Hh locs1 hq hle had hI1 => ?_)
  obtain ⟨rfl, rfl, I2, F2, rfl, hSC⟩ := hq
  refine W.eq (g2 := F0 m 590 ls [.int z]) rfl ?_
  have hI2 : LI D tc s Hh locs1 15 (hM J Hm) ad2 (aw_ws tc ad1 n2 (hC pk1 G1 I2 F2)) := ⟨ww_Ps hI1.1, ww_Ds hI1.2.1, hI1.2.2⟩
  refine lv_aload_n hx hb dL_law_590 rfl (lv_at hl 1 rfl) ?_
  refine lv_aload_n hx hb dL_law_591 rfl (lv_at hl 3 rfl) ?_
  refine lv_iload_n hx hb dL_law_592 rfl (lv_at hl 0 rfl) ?_
  refine lv_iconst (v := 1) hx hb dL_law_593 (by decide) ?_
  refine lv_iadd hx hb dL_law_594 ?_
  refine va_sld hx hb hX hbl hbA hI1.2.2 (hv 1 (by decide)) dL_law_595 ?_
  refine lv_aload_n hx hb dL_law_596 rfl (lv_at hl 3 rfl) ?_
  refine lv_iload_n hx hb dL_law_597 rfl (lv_at hl 0 rfl) ?_
  refine lv_iconst (v := 2) hx hb dL_law_598 (by decide) ?_
  refine lv_iadd hx hb dL_law_599 ?_
  refine va_sld hx hb hX hbl hbA hI1.2.2 (hv 2 (by decide)) dL_law_600 ?_
  refine lw_call (av := [.int (xs (x3 + 1).toNatClampNeg), .int (xs (x3 + 2).toNatClampNeg)]) (rest := [.int z]) C0 hK hI2 hB cw_X9_let ml_L_70 im_X9_let sl_X9_X9_let rfl (by decide) rfl (fun _ => rfl) rfl ⟨Nat.le_of_ble_eq_true rfl, Nat.le_of_ble_eq_true rfl⟩ ⟨by omega, by omega⟩ (Nat.le_of_ble_eq_true rfl) hl.1 dL_law_601 (fun v n3 h3 ad3 Hh2 locs2 hq2 hle2 had2 hI3 => ?_)
  obtain ⟨rfl, rfl, J2, H2, rfl, hSM⟩ := hq2
  refine W.eq (g2 := F0 m 604 ls [.int z, .int z]) rfl ?_
  refine lv_icmp_eq (tgt := 1211) hx hb dL_law_604 (by decide) (fun _ => ?_) (fun c9 => absurd rfl c9)
  refine W.widen (k := cells + 6) (n := slots + 18) (by omega) (by omega) ?_
  exact kk pk1 G1 I2 F2 _ c1 g1 x1 r1 J2 H2 ad1 ad3 _ _ (by omega) (Rel_SM hSM (Rel_SC hSC hR1)) ⟨ww_Ps hI3.1, ww_Ds hI3.2.1, hI3.2.2⟩ (had 0 (by omega)) (had2 0 (by omega))
set_option maxRecDepth 100000 in
set_option maxHeartbeats 4000000 in
theorem lc_balance {p : Program} {l : Launch} {e : Env} {s : State} {m : MethodId} {below : List Frame} {meth : Method} {c : Code} {b L : Nat} {xs : Nat → Int32} {D : va_G} {tc : Nat → ClassId} {H : Heap} {locs : List Loc} {cells slots : Nat} {Q : State → Prop} {pk : Nat → Nat} {G : Nat → Option Nat} {I F : Nat → Nat → Int32} {n c0 : Nat} {g : Nat → Nat} {x r : Nat} {J Hm : Nat → Nat → Int32} {ad ad2 : Nat → Nat} {ls : Array Slot} {x3 : Int32} (C0 : lw_At p s m meth c b L xs) (hK : aw_K D tc s) (hn : 30 ≤ n) (hR : Rel pk G I F n c0 g x r J Hm) (hI : LI D tc s H locs n (hC pk G I F) ad (aw_ws tc ad2 15 (hM J Hm))) (hl : lv_has ls 4 [(3, .int x3), (2, .ref (ad2 0)), (1, .ref (ad 0)), (0, .ref b)]) (hv : ∀ k : Nat, k < 6 → vp_in (x3 + nI k) L) (hc : cells + 6 ≤ 600000 ∧ slots + 18 ≤ 7302250) (kk : LK p l e s m below meth c b D tc cells slots Q ls ad ad2) : W p l e room_1 s m #[Value.ref b] below meth c H locs cells slots Q (F0 m 609 ls []) := by
  obtain ⟨hx, hb, hr, hml, hown, hts, hX, hbl, hlocks, hgv⟩ := id C0
  have hbA : ¬ LA s b := Nat.not_le.mpr hbl
  obtain ⟨w, pk1, G1, I1, F1, n1, c1, g1, x1, r1, J1, H1, hA, hB, hR1, hn1, hw⟩ := e_balance (l := l) (D := D) (tc := tc) hn hR (xs (x3 + 1).toNatClampNeg)
  obtain ⟨z, rfl⟩ := isN_i hw
  refine lv_aload_n hx hb dL_law_609 rfl (lv_at hl 2 rfl) ?_
  refine lv_aload_n hx hb dL_law_610 rfl (lv_at hl 3 rfl) ?_
  refine lv_iload_n hx hb dL_law_611 rfl (lv_at hl 0 rfl) ?_
  refine lv_iconst (v := 1) hx hb dL_law_612 (by decide) ?_
  refine lv_iadd hx hb dL_law_613 ?_
  refine va_sld hx hb hX hbl hbA hI.2.2 (hv 1 (by decide)) dL_law_614 ?_
  refine lw_call (av := [.int (xs (x3 + 1).toNatClampNeg)]) (rest := []) C0 hK hI hA cw_X8_balance ml_L_71 im_X8_balance sl_X8_X8_balance rfl (by omega) rfl (fun _ => rfl) rfl ⟨Nat.le_of_ble_eq_true rfl, Nat.le_of_ble_eq_true rfl⟩ ⟨by omega, by omega⟩ (Nat.le_of_ble_eq_true rfl) hl.1 dL_law_615 (fun v n2 h2 ad1 Hh locs1 hq hle had hI1 => ?_)
  obtain ⟨rfl, rfl, I2, F2, rfl, hSC⟩ := hq
  refine W.eq (g2 := F0 m 618 ls [.int z]) rfl ?_
  have hI2 : LI D tc s Hh locs1 15 (hM J Hm) ad2 (aw_ws tc ad1 n2 (hC pk1 G1 I2 F2)) := ⟨ww_Ps hI1.1, ww_Ds hI1.2.1, hI1.2.2⟩
  refine lv_aload_n hx hb dL_law_618 rfl (lv_at hl 1 rfl) ?_
  refine lv_aload_n hx hb dL_law_619 rfl (lv_at hl 3 rfl) ?_
  refine lv_iload_n hx hb dL_law_620 rfl (lv_at hl 0 rfl) ?_
  refine lv_iconst (v := 1) hx hb dL_law_621 (by decide) ?_
  refine lv_iadd hx hb dL_law_622 ?_
  refine va_sld hx hb hX hbl hbA hI1.2.2 (hv 1 (by decide)) dL_law_623 ?_
  refine lw_call (av := [.int (xs (x3 + 1).toNatClampNeg)]) (rest := [.int z]) C0 hK hI2 hB cw_X9_balance ml_L_74 im_X9_balance sl_X9_X9_balance rfl (by decide) rfl (fun _ => rfl) rfl ⟨Nat.le_of_ble_eq_true rfl, Nat.le_of_ble_eq_true rfl⟩ ⟨by omega, by omega⟩ (Nat.le_of_ble_eq_true rfl) hl.1 dL_law_624 (fun v n3 h3 ad3 Hh2 locs2 hq2 hle2 had2 hI3 => ?_)
  obtain ⟨rfl, rfl, J2, H2, rfl, hSM⟩ := hq2
  refine W.eq (g2 := F0 m 627 ls [.int z, .int z]) rfl ?_
  refine lv_icmp_eq (tgt := 1211) hx hb dL_law_627 (by decide) (fun _ => ?_) (fun c9 => absurd rfl c9)
  refine W.widen (k := cells + 6) (n := slots + 18) (by omega) (by omega) ?_
  exact kk pk1 G1 I2 F2 _ c1 g1 x1 r1 J2 H2 ad1 ad3 _ _ (by omega) (Rel_SM hSM (Rel_SC hSC hR1)) ⟨ww_Ps hI3.1, ww_Ds hI3.2.1, hI3.2.2⟩ (had 0 (by omega)) (had2 0 (by omega))
set_option maxRecDepth 100000 in
set_option maxHeartbeats 4000000 in
theorem lc_cleared {p : Program} {l : Launch} {e : Env} {s : State} {m : MethodId} {below : List Frame} {meth : Method} {c : Code} {b L : Nat} {xs : Nat → Int32} {D : va_G} {tc : Nat → ClassId} {H : Heap} {locs : List Loc} {cells slots : Nat} {Q : State → Prop} {pk : Nat → Nat} {G : Nat → Option Nat} {I F : Nat → Nat → Int32} {n c0 : Nat} {g : Nat → Nat} {x r : Nat} {J Hm : Nat → Nat → Int32} {ad ad2 : Nat → Nat} {ls : Array Slot} {x3 : Int32} (C0 : lw_At p s m meth c b L xs) (hK : aw_K D tc s) (hn : 30 ≤ n) (hR : Rel pk G I F n c0 g x r J Hm) (hI : LI D tc s H locs n (hC pk G I F) ad (aw_ws tc ad2 15 (hM J Hm))) (hl : lv_has ls 4 [(3, .int x3), (2, .ref (ad2 0)), (1, .ref (ad 0)), (0, .ref b)]) (hv : ∀ k : Nat, k < 6 → vp_in (x3 + nI k) L) (hc : cells + 6 ≤ 600000 ∧ slots + 18 ≤ 7302250) (kk : LK p l e s m below meth c b D tc cells slots Q ls ad ad2) : W p l e room_1 s m #[Value.ref b] below meth c H locs cells slots Q (F0 m 632 ls []) := by
  obtain ⟨hx, hb, hr, hml, hown, hts, hX, hbl, hlocks, hgv⟩ := id C0
  have hbA : ¬ LA s b := Nat.not_le.mpr hbl
  obtain ⟨w, pk1, G1, I1, F1, n1, c1, g1, x1, r1, J1, H1, hA, hB, hR1, hn1, hw⟩ := e_cleared (l := l) (D := D) (tc := tc) hn hR (xs (x3 + 1).toNatClampNeg)
  obtain ⟨z, rfl⟩ := isN_i hw
  refine lv_aload_n hx hb dL_law_632 rfl (lv_at hl 2 rfl) ?_
  refine lv_aload_n hx hb dL_law_633 rfl (lv_at hl 3 rfl) ?_
  refine lv_iload_n hx hb dL_law_634 rfl (lv_at hl 0 rfl) ?_
  refine lv_iconst (v := 1) hx hb dL_law_635 (by decide) ?_
  refine lv_iadd hx hb dL_law_636 ?_
  refine va_sld hx hb hX hbl hbA hI.2.2 (hv 1 (by decide)) dL_law_637 ?_
  refine lw_call (av := [.int (xs (x3 + 1).toNatClampNeg)]) (rest := []) C0 hK hI hA cw_X8_cleared ml_L_75 im_X8_cleared sl_X8_X8_cleared rfl (by omega) rfl (fun _ => rfl) rfl ⟨Nat.le_of_ble_eq_true rfl, Nat.le_of_ble_eq_true rfl⟩ ⟨by omega, by omega⟩ (Nat.le_of_ble_eq_true rfl) hl.1 dL_law_638 (fun v n2 h2 ad1 Hh locs1 hq hle had hI1 => ?_)
  obtain ⟨rfl, rfl, I2, F2, rfl, hSC⟩ := hq
  refine W.eq (g2 := F0 m 641 ls [.int z]) rfl ?_
  have hI2 : LI D tc s Hh locs1 15 (hM J Hm) ad2 (aw_ws tc ad1 n2 (hC pk1 G1 I2 F2)) := ⟨ww_Ps hI1.1, ww_Ds hI1.2.1, hI1.2.2⟩
  refine lv_aload_n hx hb dL_law_641 rfl (lv_at hl 1 rfl) ?_
  refine lv_aload_n hx hb dL_law_642 rfl (lv_at hl 3 rfl) ?_
  refine lv_iload_n hx hb dL_law_643 rfl (lv_at hl 0 rfl) ?_
  refine lv_iconst (v := 1) hx hb dL_law_644 (by decide) ?_
  refine lv_iadd hx hb dL_law_645 ?_
  refine va_sld hx hb hX hbl hbA hI1.2.2 (hv 1 (by decide)) dL_law_646 ?_
  refine lw_call (av := [.int (xs (x3 + 1).toNatClampNeg)]) (rest := [.int z]) C0 hK hI2 hB cw_X9_cleared ml_L_78 im_X9_cleared sl_X9_X9_cleared rfl (by decide) rfl (fun _ => rfl) rfl ⟨Nat.le_of_ble_eq_true rfl, Nat.le_of_ble_eq_true rfl⟩ ⟨by omega, by omega⟩ (Nat.le_of_ble_eq_true rfl) hl.1 dL_law_647 (fun v n3 h3 ad3 Hh2 locs2 hq2 hle2 had2 hI3 => ?_)
  obtain ⟨rfl, rfl, J2, H2, rfl, hSM⟩ := hq2
  refine W.eq (g2 := F0 m 650 ls [.int z, .int z]) rfl ?_
  refine lv_icmp_eq (tgt := 1211) hx hb dL_law_650 (by decide) (fun _ => ?_) (fun c9 => absurd rfl c9)
  refine W.widen (k := cells + 6) (n := slots + 18) (by omega) (by omega) ?_
  exact kk pk1 G1 I2 F2 _ c1 g1 x1 r1 J2 H2 ad1 ad3 _ _ (by omega) (Rel_SM hSM (Rel_SC hSC hR1)) ⟨ww_Ps hI3.1, ww_Ds hI3.2.1, hI3.2.2⟩ (had 0 (by omega)) (had2 0 (by omega))
set_option maxRecDepth 100000 in
set_option maxHeartbeats 4000000 in
theorem lc_were {p : Program} {l : Launch} {e : Env} {s : State} {m : MethodId} {below : List Frame} {meth : Method} {c : Code} {b L : Nat} {xs : Nat → Int32} {D : va_G} {tc : Nat → ClassId} {H : Heap} {locs : List Loc} {cells slots : Nat} {Q : State → Prop} {pk : Nat → Nat} {G : Nat → Option Nat} {I F : Nat → Nat → Int32} {n c0 : Nat} {g : Nat → Nat} {x r : Nat} {J Hm : Nat → Nat → Int32} {ad ad2 : Nat → Nat} {ls : Array Slot} {x3 : Int32} (C0 : lw_At p s m meth c b L xs) (hK : aw_K D tc s) (hn : 30 ≤ n) (hR : Rel pk G I F n c0 g x r J Hm) (hI : LI D tc s H locs n (hC pk G I F) ad (aw_ws tc ad2 15 (hM J Hm))) (hl : lv_has ls 4 [(3, .int x3), (2, .ref (ad2 0)), (1, .ref (ad 0)), (0, .ref b)]) (hv : ∀ k : Nat, k < 6 → vp_in (x3 + nI k) L) (hc : cells + 6 ≤ 600000 ∧ slots + 18 ≤ 7302250) (kk : LK p l e s m below meth c b D tc cells slots Q ls ad ad2) : W p l e room_1 s m #[Value.ref b] below meth c H locs cells slots Q (F0 m 655 ls []) := by
  obtain ⟨hx, hb, hr, hml, hown, hts, hX, hbl, hlocks, hgv⟩ := id C0
  have hbA : ¬ LA s b := Nat.not_le.mpr hbl
  obtain ⟨w, pk1, G1, I1, F1, n1, c1, g1, x1, r1, J1, H1, hA, hB, hR1, hn1, hw⟩ := e_were (l := l) (D := D) (tc := tc) hn hR (xs (x3 + 1).toNatClampNeg) (xs (x3 + 2).toNatClampNeg) (xs (x3 + 3).toNatClampNeg)
  obtain ⟨z, rfl⟩ := isN_i hw
  refine lv_aload_n hx hb dL_law_655 rfl (lv_at hl 2 rfl) ?_
  refine lv_aload_n hx hb dL_law_656 rfl (lv_at hl 3 rfl) ?_
  refine lv_iload_n hx hb dL_law_657 rfl (lv_at hl 0 rfl) ?_
  refine lv_iconst (v := 1) hx hb dL_law_658 (by decide) ?_
  refine lv_iadd hx hb dL_law_659 ?_
  refine va_sld hx hb hX hbl hbA hI.2.2 (hv 1 (by decide)) dL_law_660 ?_
  refine lv_aload_n hx hb dL_law_661 rfl (lv_at hl 3 rfl) ?_
  refine lv_iload_n hx hb dL_law_662 rfl (lv_at hl 0 rfl) ?_
  refine lv_iconst (v := 2) hx hb dL_law_663 (by decide) ?_
  refine lv_iadd hx hb dL_law_664 ?_
  refine va_sld hx hb hX hbl hbA hI.2.2 (hv 2 (by decide)) dL_law_665 ?_
  refine lv_aload_n hx hb dL_law_666 rfl (lv_at hl 3 rfl) ?_
  refine lv_iload_n hx hb dL_law_667 rfl (lv_at hl 0 rfl) ?_
  refine lv_iconst (v := 3) hx hb dL_law_668 (by decide) ?_
  refine lv_iadd hx hb dL_law_669 ?_
  refine va_sld hx hb hX hbl hbA hI.2.2 (hv 3 (by decide)) dL_law_670 ?_
  refine lw_call (av := [.int (xs (x3 + 1).toNatClampNeg), .int (xs (x3 + 2).toNatClampNeg), .int (xs (x3 + 3).toNatClampNeg)]) (rest := []) C0 hK hI hA cw_X8_were ml_L_79 im_X8_were sl_X8_X8_were rfl (by omega) rfl (fun _ => rfl) rfl ⟨Nat.le_of_ble_eq_true rfl, Nat.le_of_ble_eq_true rfl⟩ ⟨by omega, by omega⟩ (Nat.le_of_ble_eq_true rfl) hl.1 dL_law_671 (fun v n2 h2 ad1 Hh locs1 hq hle had hI1 => ?_)
  obtain ⟨rfl, rfl, I2, F2, rfl, hSC⟩ := hq
  refine W.eq (g2 := F0 m 674 ls [.int z]) rfl ?_
  have hI2 : LI D tc s Hh locs1 15 (hM J Hm) ad2 (aw_ws tc ad1 n2 (hC pk1 G1 I2 F2)) := ⟨ww_Ps hI1.1, ww_Ds hI1.2.1, hI1.2.2⟩
  refine lv_aload_n hx hb dL_law_674 rfl (lv_at hl 1 rfl) ?_
  refine lv_aload_n hx hb dL_law_675 rfl (lv_at hl 3 rfl) ?_
  refine lv_iload_n hx hb dL_law_676 rfl (lv_at hl 0 rfl) ?_
  refine lv_iconst (v := 1) hx hb dL_law_677 (by decide) ?_
  refine lv_iadd hx hb dL_law_678 ?_
  refine va_sld hx hb hX hbl hbA hI1.2.2 (hv 1 (by decide)) dL_law_679 ?_
  refine lv_aload_n hx hb dL_law_680 rfl (lv_at hl 3 rfl) ?_
  refine lv_iload_n hx hb dL_law_681 rfl (lv_at hl 0 rfl) ?_
  refine lv_iconst (v := 2) hx hb dL_law_682 (by decide) ?_
  refine lv_iadd hx hb dL_law_683 ?_
  refine va_sld hx hb hX hbl hbA hI1.2.2 (hv 2 (by decide)) dL_law_684 ?_
  refine lv_aload_n hx hb dL_law_685 rfl (lv_at hl 3 rfl) ?_
  refine lv_iload_n hx hb dL_law_686 rfl (lv_at hl 0 rfl) ?_
  refine lv_iconst (v := 3) hx hb dL_law_687 (by decide) ?_
  refine lv_iadd hx hb dL_law_688 ?_
  refine va_sld hx hb hX hbl hbA hI1.2.2 (hv 3 (by decide)) dL_law_689 ?_
  refine lw_call (av := [.int (xs (x3 + 1).toNatClampNeg), .int (xs (x3 + 2).toNatClampNeg), .int (xs (x3 + 3).toNatClampNeg)]) (rest := [.int z]) C0 hK hI2 hB cw_X9_were ml_L_82 im_X9_were sl_X9_X9_were rfl (by decide) rfl (fun _ => rfl) rfl ⟨Nat.le_of_ble_eq_true rfl, Nat.le_of_ble_eq_true rfl⟩ ⟨by omega, by omega⟩ (Nat.le_of_ble_eq_true rfl) hl.1 dL_law_690 (fun v n3 h3 ad3 Hh2 locs2 hq2 hle2 had2 hI3 => ?_)
  obtain ⟨rfl, rfl, J2, H2, rfl, hSM⟩ := hq2
  refine W.eq (g2 := F0 m 693 ls [.int z, .int z]) rfl ?_
  refine lv_icmp_eq (tgt := 1211) hx hb dL_law_693 (by decide) (fun _ => ?_) (fun c9 => absurd rfl c9)
  refine W.widen (k := cells + 6) (n := slots + 18) (by omega) (by omega) ?_
  exact kk pk1 G1 I2 F2 _ c1 g1 x1 r1 J2 H2 ad1 ad3 _ _ (by omega) (Rel_SM hSM (Rel_SC hSC hR1)) ⟨ww_Ps hI3.1, ww_Ds hI3.2.1, hI3.2.2⟩ (had 0 (by omega)) (had2 0 (by omega))
set_option maxRecDepth 100000 in
set_option maxHeartbeats 4000000 in
theorem lc_reading {p : Program} {l : Launch} {e : Env} {s : State} {m : MethodId} {below : List Frame} {meth : Method} {c : Code} {b L : Nat} {xs : Nat → Int32} {D : va_G} {tc : Nat → ClassId} {H : Heap} {locs : List Loc} {cells slots : Nat} {Q : State → Prop} {pk : Nat → Nat} {G : Nat → Option Nat} {I F : Nat → Nat → Int32} {n c0 : Nat} {g : Nat → Nat} {x r : Nat} {J Hm : Nat → Nat → Int32} {ad ad2 : Nat → Nat} {ls : Array Slot} {x3 : Int32} (C0 : lw_At p s m meth c b L xs) (hK : aw_K D tc s) (hn : 30 ≤ n) (hR : Rel pk G I F n c0 g x r J Hm) (hI : LI D tc s H locs n (hC pk G I F) ad (aw_ws tc ad2 15 (hM J Hm))) (hl : lv_has ls 4 [(3, .int x3), (2, .ref (ad2 0)), (1, .ref (ad 0)), (0, .ref b)]) (hv : ∀ k : Nat, k < 6 → vp_in (x3 + nI k) L) (hc : cells + 6 ≤ 600000 ∧ slots + 18 ≤ 7302250) (kk : LK p l e s m below meth c b D tc cells slots Q ls ad ad2) : W p l e room_1 s m #[Value.ref b] below meth c H locs cells slots Q (F0 m 698 ls []) := by
  obtain ⟨hx, hb, hr, hml, hown, hts, hX, hbl, hlocks, hgv⟩ := id C0
  have hbA : ¬ LA s b := Nat.not_le.mpr hbl
  obtain ⟨w, pk1, G1, I1, F1, n1, c1, g1, x1, r1, J1, H1, hA, hB, hR1, hn1, hw⟩ := e_reading (l := l) (D := D) (tc := tc) hn hR (xs (x3 + 1).toNatClampNeg) (xs (x3 + 2).toNatClampNeg) (xs (x3 + 3).toNatClampNeg)
  obtain ⟨z, rfl⟩ := isN_i hw
  refine lv_aload_n hx hb dL_law_698 rfl (lv_at hl 2 rfl) ?_
  refine lv_aload_n hx hb dL_law_699 rfl (lv_at hl 3 rfl) ?_
  refine lv_iload_n hx hb dL_law_700 rfl (lv_at hl 0 rfl) ?_
  refine lv_iconst (v := 1) hx hb dL_law_701 (by decide) ?_
  refine lv_iadd hx hb dL_law_702 ?_
  refine va_sld hx hb hX hbl hbA hI.2.2 (hv 1 (by decide)) dL_law_703 ?_
  refine lv_aload_n hx hb dL_law_704 rfl (lv_at hl 3 rfl) ?_
  refine lv_iload_n hx hb dL_law_705 rfl (lv_at hl 0 rfl) ?_
  refine lv_iconst (v := 2) hx hb dL_law_706 (by decide) ?_
  refine lv_iadd hx hb dL_law_707 ?_
  refine va_sld hx hb hX hbl hbA hI.2.2 (hv 2 (by decide)) dL_law_708 ?_
  refine lv_aload_n hx hb dL_law_709 rfl (lv_at hl 3 rfl) ?_
  refine lv_iload_n hx hb dL_law_710 rfl (lv_at hl 0 rfl) ?_
  refine lv_iconst (v := 3) hx hb dL_law_711 (by decide) ?_
  refine lv_iadd hx hb dL_law_712 ?_
  refine va_sld hx hb hX hbl hbA hI.2.2 (hv 3 (by decide)) dL_law_713 ?_
  refine lw_call (av := [.int (xs (x3 + 1).toNatClampNeg), .int (xs (x3 + 2).toNatClampNeg), .int (xs (x3 + 3).toNatClampNeg)]) (rest := []) C0 hK hI hA cw_X8_reading ml_L_83 im_X8_reading sl_X8_X8_reading rfl (by omega) rfl (fun _ => rfl) rfl ⟨Nat.le_of_ble_eq_true rfl, Nat.le_of_ble_eq_true rfl⟩ ⟨by omega, by omega⟩ (Nat.le_of_ble_eq_true rfl) hl.1 dL_law_714 (fun v n2 h2 ad1 Hh locs1 hq hle had hI1 => ?_)
  obtain ⟨rfl, rfl, I2, F2, rfl, hSC⟩ := hq
  refine W.eq (g2 := F0 m 717 ls [.int z]) rfl ?_
  have hI2 : LI D tc s Hh locs1 15 (hM J Hm) ad2 (aw_ws tc ad1 n2 (hC pk1 G1 I2 F2)) := ⟨ww_Ps hI1.1, ww_Ds hI1.2.1, hI1.2.2⟩
  refine lv_aload_n hx hb dL_law_717 rfl (lv_at hl 1 rfl) ?_
  refine lv_aload_n hx hb dL_law_718 rfl (lv_at hl 3 rfl) ?_
  refine lv_iload_n hx hb dL_law_719 rfl (lv_at hl 0 rfl) ?_
  refine lv_iconst (v := 1) hx hb dL_law_720 (by decide) ?_
  refine lv_iadd hx hb dL_law_721 ?_
  refine va_sld hx hb hX hbl hbA hI1.2.2 (hv 1 (by decide)) dL_law_722 ?_
  refine lv_aload_n hx hb dL_law_723 rfl (lv_at hl 3 rfl) ?_
  refine lv_iload_n hx hb dL_law_724 rfl (lv_at hl 0 rfl) ?_
  refine lv_iconst (v := 2) hx hb dL_law_725 (by decide) ?_
  refine lv_iadd hx hb dL_law_726 ?_
  refine va_sld hx hb hX hbl hbA hI1.2.2 (hv 2 (by decide)) dL_law_727 ?_
  refine lv_aload_n hx hb dL_law_728 rfl (lv_at hl 3 rfl) ?_
  refine lv_iload_n hx hb dL_law_729 rfl (lv_at hl 0 rfl) ?_
  refine lv_iconst (v := 3) hx hb dL_law_730 (by decide) ?_
  refine lv_iadd hx hb dL_law_731 ?_
  refine va_sld hx hb hX hbl hbA hI1.2.2 (hv 3 (by decide)) dL_law_732 ?_
  refine lw_call (av := [.int (xs (x3 + 1).toNatClampNeg), .int (xs (x3 + 2).toNatClampNeg), .int (xs (x3 + 3).toNatClampNeg)]) (rest := [.int z]) C0 hK hI2 hB cw_X9_reading ml_L_86 im_X9_reading sl_X9_X9_reading rfl (by decide) rfl (fun _ => rfl) rfl ⟨Nat.le_of_ble_eq_true rfl, Nat.le_of_ble_eq_true rfl⟩ ⟨by omega, by omega⟩ (Nat.le_of_ble_eq_true rfl) hl.1 dL_law_733 (fun v n3 h3 ad3 Hh2 locs2 hq2 hle2 had2 hI3 => ?_)
  obtain ⟨rfl, rfl, J2, H2, rfl, hSM⟩ := hq2
  refine W.eq (g2 := F0 m 736 ls [.int z, .int z]) rfl ?_
  refine lv_icmp_eq (tgt := 1211) hx hb dL_law_736 (by decide) (fun _ => ?_) (fun c9 => absurd rfl c9)
  refine W.widen (k := cells + 6) (n := slots + 18) (by omega) (by omega) ?_
  exact kk pk1 G1 I2 F2 _ c1 g1 x1 r1 J2 H2 ad1 ad3 _ _ (by omega) (Rel_SM hSM (Rel_SC hSC hR1)) ⟨ww_Ps hI3.1, ww_Ds hI3.2.1, hI3.2.2⟩ (had 0 (by omega)) (had2 0 (by omega))
set_option maxRecDepth 100000 in
set_option maxHeartbeats 4000000 in
theorem lc_back {p : Program} {l : Launch} {e : Env} {s : State} {m : MethodId} {below : List Frame} {meth : Method} {c : Code} {b L : Nat} {xs : Nat → Int32} {D : va_G} {tc : Nat → ClassId} {H : Heap} {locs : List Loc} {cells slots : Nat} {Q : State → Prop} {pk : Nat → Nat} {G : Nat → Option Nat} {I F : Nat → Nat → Int32} {n c0 : Nat} {g : Nat → Nat} {x r : Nat} {J Hm : Nat → Nat → Int32} {ad ad2 : Nat → Nat} {ls : Array Slot} {x3 : Int32} (C0 : lw_At p s m meth c b L xs) (hK : aw_K D tc s) (hn : 30 ≤ n) (hR : Rel pk G I F n c0 g x r J Hm) (hI : LI D tc s H locs n (hC pk G I F) ad (aw_ws tc ad2 15 (hM J Hm))) (hl : lv_has ls 4 [(3, .int x3), (2, .ref (ad2 0)), (1, .ref (ad 0)), (0, .ref b)]) (hv : ∀ k : Nat, k < 6 → vp_in (x3 + nI k) L) (hc : cells + 6 ≤ 600000 ∧ slots + 18 ≤ 7302250) (kk : LK p l e s m below meth c b D tc cells slots Q ls ad ad2) : W p l e room_1 s m #[Value.ref b] below meth c H locs cells slots Q (F0 m 741 ls []) := by
  obtain ⟨hx, hb, hr, hml, hown, hts, hX, hbl, hlocks, hgv⟩ := id C0
  have hbA : ¬ LA s b := Nat.not_le.mpr hbl
  obtain ⟨w, pk1, G1, I1, F1, n1, c1, g1, x1, r1, J1, H1, hA, hB, hR1, hn1, hw⟩ := e_back (l := l) (D := D) (tc := tc) hn hR (xs (x3 + 1).toNatClampNeg)
  obtain ⟨z, rfl⟩ := isN_i hw
  refine lv_aload_n hx hb dL_law_741 rfl (lv_at hl 2 rfl) ?_
  refine lv_aload_n hx hb dL_law_742 rfl (lv_at hl 3 rfl) ?_
  refine lv_iload_n hx hb dL_law_743 rfl (lv_at hl 0 rfl) ?_
  refine lv_iconst (v := 1) hx hb dL_law_744 (by decide) ?_
  refine lv_iadd hx hb dL_law_745 ?_
  refine va_sld hx hb hX hbl hbA hI.2.2 (hv 1 (by decide)) dL_law_746 ?_
  refine lw_call (av := [.int (xs (x3 + 1).toNatClampNeg)]) (rest := []) C0 hK hI hA cw_X8_back ml_L_87 im_X8_back sl_X8_X8_back rfl (by omega) rfl (fun _ => rfl) rfl ⟨Nat.le_of_ble_eq_true rfl, Nat.le_of_ble_eq_true rfl⟩ ⟨by omega, by omega⟩ (Nat.le_of_ble_eq_true rfl) hl.1 dL_law_747 (fun v n2 h2 ad1 Hh locs1 hq hle had hI1 => ?_)
  obtain ⟨rfl, rfl, I2, F2, rfl, hSC⟩ := hq
  refine W.eq (g2 := F0 m 750 ls [.int z]) rfl ?_
  have hI2 : LI D tc s Hh locs1 15 (hM J Hm) ad2 (aw_ws tc ad1 n2 (hC pk1 G1 I2 F2)) := ⟨ww_Ps hI1.1, ww_Ds hI1.2.1, hI1.2.2⟩
  refine lv_aload_n hx hb dL_law_750 rfl (lv_at hl 1 rfl) ?_
  refine lv_aload_n hx hb dL_law_751 rfl (lv_at hl 3 rfl) ?_
  refine lv_iload_n hx hb dL_law_752 rfl (lv_at hl 0 rfl) ?_
  refine lv_iconst (v := 1) hx hb dL_law_753 (by decide) ?_
  refine lv_iadd hx hb dL_law_754 ?_
  refine va_sld hx hb hX hbl hbA hI1.2.2 (hv 1 (by decide)) dL_law_755 ?_
  refine lw_call (av := [.int (xs (x3 + 1).toNatClampNeg)]) (rest := [.int z]) C0 hK hI2 hB cw_X9_back ml_L_90 im_X9_back sl_X9_X9_back rfl (by decide) rfl (fun _ => rfl) rfl ⟨Nat.le_of_ble_eq_true rfl, Nat.le_of_ble_eq_true rfl⟩ ⟨by omega, by omega⟩ (Nat.le_of_ble_eq_true rfl) hl.1 dL_law_756 (fun v n3 h3 ad3 Hh2 locs2 hq2 hle2 had2 hI3 => ?_)
  obtain ⟨rfl, rfl, J2, H2, rfl, hSM⟩ := hq2
  refine W.eq (g2 := F0 m 759 ls [.int z, .int z]) rfl ?_
  refine lv_icmp_eq (tgt := 1211) hx hb dL_law_759 (by decide) (fun _ => ?_) (fun c9 => absurd rfl c9)
  refine W.widen (k := cells + 6) (n := slots + 18) (by omega) (by omega) ?_
  exact kk pk1 G1 I2 F2 _ c1 g1 x1 r1 J2 H2 ad1 ad3 _ _ (by omega) (Rel_SM hSM (Rel_SC hSC hR1)) ⟨ww_Ps hI3.1, ww_Ds hI3.2.1, hI3.2.2⟩ (had 0 (by omega)) (had2 0 (by omega))
set_option maxRecDepth 100000 in
set_option maxHeartbeats 4000000 in
theorem lc_hastes {p : Program} {l : Launch} {e : Env} {s : State} {m : MethodId} {below : List Frame} {meth : Method} {c : Code} {b L : Nat} {xs : Nat → Int32} {D : va_G} {tc : Nat → ClassId} {H : Heap} {locs : List Loc} {cells slots : Nat} {Q : State → Prop} {pk : Nat → Nat} {G : Nat → Option Nat} {I F : Nat → Nat → Int32} {n c0 : Nat} {g : Nat → Nat} {x r : Nat} {J Hm : Nat → Nat → Int32} {ad ad2 : Nat → Nat} {ls : Array Slot} {x3 : Int32} (C0 : lw_At p s m meth c b L xs) (hK : aw_K D tc s) (hn : 30 ≤ n) (hR : Rel pk G I F n c0 g x r J Hm) (hI : LI D tc s H locs n (hC pk G I F) ad (aw_ws tc ad2 15 (hM J Hm))) (hl : lv_has ls 4 [(3, .int x3), (2, .ref (ad2 0)), (1, .ref (ad 0)), (0, .ref b)]) (hv : ∀ k : Nat, k < 6 → vp_in (x3 + nI k) L) (hc : cells + 6 ≤ 600000 ∧ slots + 18 ≤ 7302250) (kk : LK p l e s m below meth c b D tc cells slots Q ls ad ad2) : W p l e room_1 s m #[Value.ref b] below meth c H locs cells slots Q (F0 m 764 ls []) := by
  obtain ⟨hx, hb, hr, hml, hown, hts, hX, hbl, hlocks, hgv⟩ := id C0
  have hbA : ¬ LA s b := Nat.not_le.mpr hbl
  obtain ⟨w, pk1, G1, I1, F1, n1, c1, g1, x1, r1, J1, H1, hA, hB, hR1, hn1, hw⟩ := e_hastes (l := l) (D := D) (tc := tc) hn hR (xs (x3 + 1).toNatClampNeg)
  obtain ⟨z, rfl⟩ := isN_i hw
  refine lv_aload_n hx hb dL_law_764 rfl (lv_at hl 2 rfl) ?_
  refine lv_aload_n hx hb dL_law_765 rfl (lv_at hl 3 rfl) ?_
  refine lv_iload_n hx hb dL_law_766 rfl (lv_at hl 0 rfl) ?_
  refine lv_iconst (v := 1) hx hb dL_law_767 (by decide) ?_
  refine lv_iadd hx hb dL_law_768 ?_
  refine va_sld hx hb hX hbl hbA hI.2.2 (hv 1 (by decide)) dL_law_769 ?_
  refine lw_call (av := [.int (xs (x3 + 1).toNatClampNeg)]) (rest := []) C0 hK hI hA cw_X8_hastes ml_L_91 im_X8_hastes sl_X8_X8_hastes rfl (by omega) rfl (fun _ => rfl) rfl ⟨Nat.le_of_ble_eq_true rfl, Nat.le_of_ble_eq_true rfl⟩ ⟨by omega, by omega⟩ (Nat.le_of_ble_eq_true rfl) hl.1 dL_law_770 (fun v n2 h2 ad1 Hh locs1 hq hle had hI1 => ?_)
  obtain ⟨rfl, rfl, I2, F2, rfl, hSC⟩ := hq
  refine W.eq (g2 := F0 m 773 ls [.int z]) rfl ?_
  have hI2 : LI D tc s Hh locs1 15 (hM J Hm) ad2 (aw_ws tc ad1 n2 (hC pk1 G1 I2 F2)) := ⟨ww_Ps hI1.1, ww_Ds hI1.2.1, hI1.2.2⟩
  refine lv_aload_n hx hb dL_law_773 rfl (lv_at hl 1 rfl) ?_
  refine lv_aload_n hx hb dL_law_774 rfl (lv_at hl 3 rfl) ?_
  refine lv_iload_n hx hb dL_law_775 rfl (lv_at hl 0 rfl) ?_
  refine lv_iconst (v := 1) hx hb dL_law_776 (by decide) ?_
  refine lv_iadd hx hb dL_law_777 ?_
  refine va_sld hx hb hX hbl hbA hI1.2.2 (hv 1 (by decide)) dL_law_778 ?_
  refine lw_call (av := [.int (xs (x3 + 1).toNatClampNeg)]) (rest := [.int z]) C0 hK hI2 hB cw_X9_hastes ml_L_94 im_X9_hastes sl_X9_X9_hastes rfl (by decide) rfl (fun _ => rfl) rfl ⟨Nat.le_of_ble_eq_true rfl, Nat.le_of_ble_eq_true rfl⟩ ⟨by omega, by omega⟩ (Nat.le_of_ble_eq_true rfl) hl.1 dL_law_779 (fun v n3 h3 ad3 Hh2 locs2 hq2 hle2 had2 hI3 => ?_)
  obtain ⟨rfl, rfl, J2, H2, rfl, hSM⟩ := hq2
  refine W.eq (g2 := F0 m 782 ls [.int z, .int z]) rfl ?_
  refine lv_icmp_eq (tgt := 1211) hx hb dL_law_782 (by decide) (fun _ => ?_) (fun c9 => absurd rfl c9)
  refine W.widen (k := cells + 6) (n := slots + 18) (by omega) (by omega) ?_
  exact kk pk1 G1 I2 F2 _ c1 g1 x1 r1 J2 H2 ad1 ad3 _ _ (by omega) (Rel_SM hSM (Rel_SC hSC hR1)) ⟨ww_Ps hI3.1, ww_Ds hI3.2.1, hI3.2.2⟩ (had 0 (by omega)) (had2 0 (by omega))
set_option maxRecDepth 100000 in
set_option maxHeartbeats 4000000 in
theorem lc_rooms {p : Program} {l : Launch} {e : Env} {s : State} {m : MethodId} {below : List Frame} {meth : Method} {c : Code} {b L : Nat} {xs : Nat → Int32} {D : va_G} {tc : Nat → ClassId} {H : Heap} {locs : List Loc} {cells slots : Nat} {Q : State → Prop} {pk : Nat → Nat} {G : Nat → Option Nat} {I F : Nat → Nat → Int32} {n c0 : Nat} {g : Nat → Nat} {x r : Nat} {J Hm : Nat → Nat → Int32} {ad ad2 : Nat → Nat} {ls : Array Slot} {x3 : Int32} (C0 : lw_At p s m meth c b L xs) (hK : aw_K D tc s) (hn : 30 ≤ n) (hR : Rel pk G I F n c0 g x r J Hm) (hI : LI D tc s H locs n (hC pk G I F) ad (aw_ws tc ad2 15 (hM J Hm))) (hl : lv_has ls 4 [(3, .int x3), (2, .ref (ad2 0)), (1, .ref (ad 0)), (0, .ref b)]) (hv : ∀ k : Nat, k < 6 → vp_in (x3 + nI k) L) (hc : cells + 6 ≤ 600000 ∧ slots + 18 ≤ 7302250) (kk : LK p l e s m below meth c b D tc cells slots Q ls ad ad2) : W p l e room_1 s m #[Value.ref b] below meth c H locs cells slots Q (F0 m 787 ls []) := by
  obtain ⟨hx, hb, hr, hml, hown, hts, hX, hbl, hlocks, hgv⟩ := id C0
  have hbA : ¬ LA s b := Nat.not_le.mpr hbl
  obtain ⟨w, pk1, G1, I1, F1, n1, c1, g1, x1, r1, J1, H1, hA, hB, hR1, hn1, hw⟩ := e_rooms (l := l) (D := D) (tc := tc) hn hR (xs (x3 + 1).toNatClampNeg)
  obtain ⟨z, rfl⟩ := isN_i hw
  refine lv_aload_n hx hb dL_law_787 rfl (lv_at hl 2 rfl) ?_
  refine lv_aload_n hx hb dL_law_788 rfl (lv_at hl 3 rfl) ?_
  refine lv_iload_n hx hb dL_law_789 rfl (lv_at hl 0 rfl) ?_
  refine lv_iconst (v := 1) hx hb dL_law_790 (by decide) ?_
  refine lv_iadd hx hb dL_law_791 ?_
  refine va_sld hx hb hX hbl hbA hI.2.2 (hv 1 (by decide)) dL_law_792 ?_
  refine lw_call (av := [.int (xs (x3 + 1).toNatClampNeg)]) (rest := []) C0 hK hI hA cw_X8_rooms ml_L_95 im_X8_rooms sl_X8_X8_rooms rfl (by omega) rfl (fun _ => rfl) rfl ⟨Nat.le_of_ble_eq_true rfl, Nat.le_of_ble_eq_true rfl⟩ ⟨by omega, by omega⟩ (Nat.le_of_ble_eq_true rfl) hl.1 dL_law_793 (fun v n2 h2 ad1 Hh locs1 hq hle had hI1 => ?_)
  obtain ⟨rfl, rfl, I2, F2, rfl, hSC⟩ := hq
  refine W.eq (g2 := F0 m 796 ls [.int z]) rfl ?_
  have hI2 : LI D tc s Hh locs1 15 (hM J Hm) ad2 (aw_ws tc ad1 n2 (hC pk1 G1 I2 F2)) := ⟨ww_Ps hI1.1, ww_Ds hI1.2.1, hI1.2.2⟩
  refine lv_aload_n hx hb dL_law_796 rfl (lv_at hl 1 rfl) ?_
  refine lv_aload_n hx hb dL_law_797 rfl (lv_at hl 3 rfl) ?_
  refine lv_iload_n hx hb dL_law_798 rfl (lv_at hl 0 rfl) ?_
  refine lv_iconst (v := 1) hx hb dL_law_799 (by decide) ?_
  refine lv_iadd hx hb dL_law_800 ?_
  refine va_sld hx hb hX hbl hbA hI1.2.2 (hv 1 (by decide)) dL_law_801 ?_
  refine lw_call (av := [.int (xs (x3 + 1).toNatClampNeg)]) (rest := [.int z]) C0 hK hI2 hB cw_X9_rooms ml_L_98 im_X9_rooms sl_X9_X9_rooms rfl (by decide) rfl (fun _ => rfl) rfl ⟨Nat.le_of_ble_eq_true rfl, Nat.le_of_ble_eq_true rfl⟩ ⟨by omega, by omega⟩ (Nat.le_of_ble_eq_true rfl) hl.1 dL_law_802 (fun v n3 h3 ad3 Hh2 locs2 hq2 hle2 had2 hI3 => ?_)
  obtain ⟨rfl, rfl, J2, H2, rfl, hSM⟩ := hq2
  refine W.eq (g2 := F0 m 805 ls [.int z, .int z]) rfl ?_
  refine lv_icmp_eq (tgt := 1211) hx hb dL_law_805 (by decide) (fun _ => ?_) (fun c9 => absurd rfl c9)
  refine W.widen (k := cells + 6) (n := slots + 18) (by omega) (by omega) ?_
  exact kk pk1 G1 I2 F2 _ c1 g1 x1 r1 J2 H2 ad1 ad3 _ _ (by omega) (Rel_SM hSM (Rel_SC hSC hR1)) ⟨ww_Ps hI3.1, ww_Ds hI3.2.1, hI3.2.2⟩ (had 0 (by omega)) (had2 0 (by omega))
set_option maxRecDepth 100000 in
set_option maxHeartbeats 4000000 in
theorem lc_kinds {p : Program} {l : Launch} {e : Env} {s : State} {m : MethodId} {below : List Frame} {meth : Method} {c : Code} {b L : Nat} {xs : Nat → Int32} {D : va_G} {tc : Nat → ClassId} {H : Heap} {locs : List Loc} {cells slots : Nat} {Q : State → Prop} {pk : Nat → Nat} {G : Nat → Option Nat} {I F : Nat → Nat → Int32} {n c0 : Nat} {g : Nat → Nat} {x r : Nat} {J Hm : Nat → Nat → Int32} {ad ad2 : Nat → Nat} {ls : Array Slot} {x3 : Int32} (C0 : lw_At p s m meth c b L xs) (hK : aw_K D tc s) (hn : 30 ≤ n) (hR : Rel pk G I F n c0 g x r J Hm) (hI : LI D tc s H locs n (hC pk G I F) ad (aw_ws tc ad2 15 (hM J Hm))) (hl : lv_has ls 4 [(3, .int x3), (2, .ref (ad2 0)), (1, .ref (ad 0)), (0, .ref b)]) (hv : ∀ k : Nat, k < 6 → vp_in (x3 + nI k) L) (hc : cells + 6 ≤ 600000 ∧ slots + 18 ≤ 7302250) (kk : LK p l e s m below meth c b D tc cells slots Q ls ad ad2) : W p l e room_1 s m #[Value.ref b] below meth c H locs cells slots Q (F0 m 810 ls []) := by
  obtain ⟨hx, hb, hr, hml, hown, hts, hX, hbl, hlocks, hgv⟩ := id C0
  have hbA : ¬ LA s b := Nat.not_le.mpr hbl
  obtain ⟨w, pk1, G1, I1, F1, n1, c1, g1, x1, r1, J1, H1, hA, hB, hR1, hn1, hw⟩ := e_kinds (l := l) (D := D) (tc := tc) hn hR (xs (x3 + 1).toNatClampNeg)
  obtain ⟨z, rfl⟩ := isN_i hw
  refine lv_aload_n hx hb dL_law_810 rfl (lv_at hl 2 rfl) ?_
  refine lv_aload_n hx hb dL_law_811 rfl (lv_at hl 3 rfl) ?_
  refine lv_iload_n hx hb dL_law_812 rfl (lv_at hl 0 rfl) ?_
  refine lv_iconst (v := 1) hx hb dL_law_813 (by decide) ?_
  refine lv_iadd hx hb dL_law_814 ?_
  refine va_sld hx hb hX hbl hbA hI.2.2 (hv 1 (by decide)) dL_law_815 ?_
  refine lw_call (av := [.int (xs (x3 + 1).toNatClampNeg)]) (rest := []) C0 hK hI hA cw_X8_kinds ml_L_99 im_X8_kinds sl_X8_X8_kinds rfl (by omega) rfl (fun _ => rfl) rfl ⟨Nat.le_of_ble_eq_true rfl, Nat.le_of_ble_eq_true rfl⟩ ⟨by omega, by omega⟩ (Nat.le_of_ble_eq_true rfl) hl.1 dL_law_816 (fun v n2 h2 ad1 Hh locs1 hq hle had hI1 => ?_)
  obtain ⟨rfl, rfl, I2, F2, rfl, hSC⟩ := hq
  refine W.eq (g2 := F0 m 819 ls [.int z]) rfl ?_
  have hI2 : LI D tc s Hh locs1 15 (hM J Hm) ad2 (aw_ws tc ad1 n2 (hC pk1 G1 I2 F2)) := ⟨ww_Ps hI1.1, ww_Ds hI1.2.1, hI1.2.2⟩
  refine lv_aload_n hx hb dL_law_819 rfl (lv_at hl 1 rfl) ?_
  refine lv_aload_n hx hb dL_law_820 rfl (lv_at hl 3 rfl) ?_
  refine lv_iload_n hx hb dL_law_821 rfl (lv_at hl 0 rfl) ?_
  refine lv_iconst (v := 1) hx hb dL_law_822 (by decide) ?_
  refine lv_iadd hx hb dL_law_823 ?_
  refine va_sld hx hb hX hbl hbA hI1.2.2 (hv 1 (by decide)) dL_law_824 ?_
  refine lw_call (av := [.int (xs (x3 + 1).toNatClampNeg)]) (rest := [.int z]) C0 hK hI2 hB cw_X9_kinds ml_L_102 im_X9_kinds sl_X9_X9_kinds rfl (by decide) rfl (fun _ => rfl) rfl ⟨Nat.le_of_ble_eq_true rfl, Nat.le_of_ble_eq_true rfl⟩ ⟨by omega, by omega⟩ (Nat.le_of_ble_eq_true rfl) hl.1 dL_law_825 (fun v n3 h3 ad3 Hh2 locs2 hq2 hle2 had2 hI3 => ?_)
  obtain ⟨rfl, rfl, J2, H2, rfl, hSM⟩ := hq2
  refine W.eq (g2 := F0 m 828 ls [.int z, .int z]) rfl ?_
  refine lv_icmp_eq (tgt := 1211) hx hb dL_law_828 (by decide) (fun _ => ?_) (fun c9 => absurd rfl c9)
  refine W.widen (k := cells + 6) (n := slots + 18) (by omega) (by omega) ?_
  exact kk pk1 G1 I2 F2 _ c1 g1 x1 r1 J2 H2 ad1 ad3 _ _ (by omega) (Rel_SM hSM (Rel_SC hSC hR1)) ⟨ww_Ps hI3.1, ww_Ds hI3.2.1, hI3.2.2⟩ (had 0 (by omega)) (had2 0 (by omega))
set_option maxRecDepth 100000 in
set_option maxHeartbeats 4000000 in
theorem lc_odds {p : Program} {l : Launch} {e : Env} {s : State} {m : MethodId} {below : List Frame} {meth : Method} {c : Code} {b L : Nat} {xs : Nat → Int32} {D : va_G} {tc : Nat → ClassId} {H : Heap} {locs : List Loc} {cells slots : Nat} {Q : State → Prop} {pk : Nat → Nat} {G : Nat → Option Nat} {I F : Nat → Nat → Int32} {n c0 : Nat} {g : Nat → Nat} {x r : Nat} {J Hm : Nat → Nat → Int32} {ad ad2 : Nat → Nat} {ls : Array Slot} {x3 : Int32} (C0 : lw_At p s m meth c b L xs) (hK : aw_K D tc s) (hn : 30 ≤ n) (hR : Rel pk G I F n c0 g x r J Hm) (hI : LI D tc s H locs n (hC pk G I F) ad (aw_ws tc ad2 15 (hM J Hm))) (hl : lv_has ls 4 [(3, .int x3), (2, .ref (ad2 0)), (1, .ref (ad 0)), (0, .ref b)]) (hv : ∀ k : Nat, k < 6 → vp_in (x3 + nI k) L) (hc : cells + 6 ≤ 600000 ∧ slots + 18 ≤ 7302250) (kk : LK p l e s m below meth c b D tc cells slots Q ls ad ad2) : W p l e room_1 s m #[Value.ref b] below meth c H locs cells slots Q (F0 m 833 ls []) := by
  obtain ⟨hx, hb, hr, hml, hown, hts, hX, hbl, hlocks, hgv⟩ := id C0
  have hbA : ¬ LA s b := Nat.not_le.mpr hbl
  obtain ⟨w, pk1, G1, I1, F1, n1, c1, g1, x1, r1, J1, H1, hA, hB, hR1, hn1, hw⟩ := e_odds (l := l) (D := D) (tc := tc) hn hR (xs (x3 + 1).toNatClampNeg) (xs (x3 + 2).toNatClampNeg)
  obtain ⟨z, rfl⟩ := isN_l hw
  refine lv_aload_n hx hb dL_law_833 rfl (lv_at hl 2 rfl) ?_
  refine lv_aload_n hx hb dL_law_834 rfl (lv_at hl 3 rfl) ?_
  refine lv_iload_n hx hb dL_law_835 rfl (lv_at hl 0 rfl) ?_
  refine lv_iconst (v := 1) hx hb dL_law_836 (by decide) ?_
  refine lv_iadd hx hb dL_law_837 ?_
  refine va_sld hx hb hX hbl hbA hI.2.2 (hv 1 (by decide)) dL_law_838 ?_
  refine lv_aload_n hx hb dL_law_839 rfl (lv_at hl 3 rfl) ?_
  refine lv_iload_n hx hb dL_law_840 rfl (lv_at hl 0 rfl) ?_
  refine lv_iconst (v := 2) hx hb dL_law_841 (by decide) ?_
  refine lv_iadd hx hb dL_law_842 ?_
  refine va_sld hx hb hX hbl hbA hI.2.2 (hv 2 (by decide)) dL_law_843 ?_
  refine lw_call (av := [.int (xs (x3 + 1).toNatClampNeg), .int (xs (x3 + 2).toNatClampNeg)]) (rest := []) C0 hK hI hA cw_X8_odds ml_L_103 im_X8_odds sl_X8_X8_odds rfl (by omega) rfl (fun _ => rfl) rfl ⟨Nat.le_of_ble_eq_true rfl, Nat.le_of_ble_eq_true rfl⟩ ⟨by omega, by omega⟩ (Nat.le_of_ble_eq_true rfl) hl.1 dL_law_844 (fun v n2 h2 ad1 Hh locs1 hq hle had hI1 => ?_)
  obtain ⟨rfl, rfl, I2, F2, rfl, hSC⟩ := hq
  refine W.eq (g2 := F0 m 847 ls [.long z]) rfl ?_
  have hI2 : LI D tc s Hh locs1 15 (hM J Hm) ad2 (aw_ws tc ad1 n2 (hC pk1 G1 I2 F2)) := ⟨ww_Ps hI1.1, ww_Ds hI1.2.1, hI1.2.2⟩
  refine lv_aload_n hx hb dL_law_847 rfl (lv_at hl 1 rfl) ?_
  refine lv_aload_n hx hb dL_law_848 rfl (lv_at hl 3 rfl) ?_
  refine lv_iload_n hx hb dL_law_849 rfl (lv_at hl 0 rfl) ?_
  refine lv_iconst (v := 1) hx hb dL_law_850 (by decide) ?_
  refine lv_iadd hx hb dL_law_851 ?_
  refine va_sld hx hb hX hbl hbA hI1.2.2 (hv 1 (by decide)) dL_law_852 ?_
  refine lv_aload_n hx hb dL_law_853 rfl (lv_at hl 3 rfl) ?_
  refine lv_iload_n hx hb dL_law_854 rfl (lv_at hl 0 rfl) ?_
  refine lv_iconst (v := 2) hx hb dL_law_855 (by decide) ?_
  refine lv_iadd hx hb dL_law_856 ?_
  refine va_sld hx hb hX hbl hbA hI1.2.2 (hv 2 (by decide)) dL_law_857 ?_
  refine lw_call (av := [.int (xs (x3 + 1).toNatClampNeg), .int (xs (x3 + 2).toNatClampNeg)]) (rest := [.long z]) C0 hK hI2 hB cw_X9_odds ml_L_107 im_X9_odds sl_X9_X9_odds rfl (by decide) rfl (fun _ => rfl) rfl ⟨Nat.le_of_ble_eq_true rfl, Nat.le_of_ble_eq_true rfl⟩ ⟨by omega, by omega⟩ (Nat.le_of_ble_eq_true rfl) hl.1 dL_law_858 (fun v n3 h3 ad3 Hh2 locs2 hq2 hle2 had2 hI3 => ?_)
  obtain ⟨rfl, rfl, J2, H2, rfl, hSM⟩ := hq2
  refine W.eq (g2 := F0 m 861 ls [.long z, .long z]) rfl ?_
  refine W.lcmp hx hb dL_law_861 ?_
  refine lv_if_eq (tgt := 1211) hx hb dL_law_862 (by decide) (fun _ => ?_) (fun c9 => absurd (lg_same z) c9)
  refine W.widen (k := cells + 6) (n := slots + 18) (by omega) (by omega) ?_
  exact kk pk1 G1 I2 F2 _ c1 g1 x1 r1 J2 H2 ad1 ad3 _ _ (by omega) (Rel_SM hSM (Rel_SC hSC hR1)) ⟨ww_Ps hI3.1, ww_Ds hI3.2.1, hI3.2.2⟩ (had 0 (by omega)) (had2 0 (by omega))
