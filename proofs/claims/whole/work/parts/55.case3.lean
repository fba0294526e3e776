set_option maxRecDepth 100000 in
set_option maxHeartbeats 4000000 in
theorem lc_sheet {p : Program} {l : Launch} {e : Env} {s : State} {m : MethodId} {below : List Frame} {meth : Method} {c : Code} {b L : Nat} {xs : Nat → Int32} {D : va_G} {tc : Nat → ClassId} {H : Heap} {locs : List Loc} {cells slots : Nat} {Q : State → Prop} {pk : Nat → Nat} {G : Nat → Option Nat} {I F : Nat → Nat → Int32} {n c0 : Nat} {g : Nat → Nat} {x r : Nat} {J Hm : Nat → Nat → Int32} {ad ad2 : Nat → Nat} {ls : Array Slot} {x3 : Int32} (C0 : lw_At p s m meth c b L xs) (hK : aw_K D tc s) (hn : 30 ≤ n) (hR : Rel pk G I F n c0 g x r J Hm) (hI : LI D tc s H locs n (hC pk G I F) ad (aw_ws tc ad2 15 (hM J Hm))) (hl : lv_has ls 4 [(3, .int x3), (2, .ref (ad2 0)), (1, .ref (ad 0)), (0, .ref b)]) (hv : ∀ k : Nat, k < 6 → vp_in (x3 + nI k) L) (hc : cells + 6 ≤ 600000 ∧ slots + 18 ≤ 7302250) (kk : LK p l e s m below meth c b D tc cells slots Q ls ad ad2) : W p l e room_1 s m #[Value.ref b] below meth c H locs cells slots Q (F0 m 867 ls []) := by
  obtain ⟨hx, hb, hr, hml, hown, hts, hX, hbl, hlocks, hgv⟩ := id C0
  have hbA : ¬ LA s b := Nat.not_le.mpr hbl
  obtain ⟨w, pk1, G1, I1, F1, n1, c1, g1, x1, r1, J1, H1, hA, hB, hR1, hn1, hw⟩ := e_sheet (l := l) (D := D) (tc := tc) hn hR (xs (x3 + 1).toNatClampNeg) (xs (x3 + 2).toNatClampNeg) (xs (x3 + 3).toNatClampNeg)
  obtain ⟨z, rfl⟩ := isN_i hw
  refine lv_aload_n hx hb dL_law_867 rfl (lv_at hl 2 rfl) ?_
  refine lv_aload_n hx hb dL_law_868 rfl (lv_at hl 3 rfl) ?_
  refine lv_iload_n hx hb dL_law_869 rfl (lv_at hl 0 rfl) ?_
  refine lv_iconst (v := 1) hx hb dL_law_870 (by decide) ?_
  refine lv_iadd hx hb dL_law_871 ?_
  refine va_sld hx hb hX hbl hbA hI.2.2 (hv 1 (by decide)) dL_law_872 ?_
  refine lv_aload_n hx hb dL_law_873 rfl (lv_at hl 3 rfl) ?_
  refine lv_iload_n hx hb dL_law_874 rfl (lv_at hl 0 rfl) ?_
  refine lv_iconst (v := 2) hx hb dL_law_875 (by decide) ?_
  refine lv_iadd hx hb dL_law_876 ?_
  refine va_sld hx hb hX hbl hbA hI.2.2 (hv 2 (by decide)) dL_law_877 ?_
  refine lv_aload_n hx hb dL_law_878 rfl (lv_at hl 3 rfl) ?_
  refine lv_iload_n hx hb dL_law_879 rfl (lv_at hl 0 rfl) ?_
  refine lv_iconst (v := 3) hx hb dL_law_880 (by decide) ?_
  refine lv_iadd hx hb dL_law_881 ?_
  refine va_sld hx hb hX hbl hbA hI.2.2 (hv 3 (by decide)) dL_law_882 ?_
  refine lw_call (av := [.int (xs (x3 + 1).toNatClampNeg), .int (xs (x3 + 2).toNatClampNeg), .int (xs (x3 + 3).toNatClampNeg)]) (rest := []) C0 hK hI hA cw_X8_sheet ml_L_108 im_X8_sheet sl_X8_X8_sheet rfl (by omega) rfl (fun _ => rfl) rfl ⟨Nat.le_of_ble_eq_true rfl, Nat.le_of_ble_eq_true rfl⟩ ⟨by omega, by omega⟩ (Nat.le_of_ble_eq_true rfl) hl.1 dL_law_883 (fun v n2 h2 ad1 Hh locs1 hq hle had hI1 => ?_)
  obtain ⟨rfl, rfl, I2, F2, rfl, hSC⟩ := hq
  refine W.eq (g2 := F0 m 886 ls [.int z]) rfl ?_
  have hI2 : LI D tc s Hh locs1 15 (hM J Hm) ad2 (aw_ws tc ad1 n2 (hC pk1 G1 I2 F2)) := ⟨ww_Ps hI1.1, ww_Ds hI1.2.1, hI1.2.2⟩
  refine lv_aload_n hx hb dL_law_886 rfl (lv_at hl 1 rfl) ?_
  refine lv_aload_n hx hb dL_law_887 rfl (lv_at hl 3 rfl) ?_
  refine lv_iload_n hx hb dL_law_888 rfl (lv_at hl 0 rfl) ?_
  refine lv_iconst (v := 1) hx hb dL_law_889 (by decide) ?_
  refine lv_iadd hx hb dL_law_890 ?_
  refine va_sld hx hb hX hbl hbA hI1.2.2 (hv 1 (by decide)) dL_law_891 ?_
  refine lv_aload_n hx hb dL_law_892 rfl (lv_at hl 3 rfl) ?_
  refine lv_iload_n hx hb dL_law_893 rfl (lv_at hl 0 rfl) ?_
  refine lv_iconst (v := 2) hx hb dL_law_894 (by decide) ?_
  refine lv_iadd hx hb dL_law_895 ?_
  refine va_sld hx hb hX hbl hbA hI1.2.2 (hv 2 (by decide)) dL_law_896 ?_
  refine lv_aload_n hx hb dL_law_897 rfl (lv_at hl 3 rfl) ?_
  refine lv_iload_n hx hb dL_law_898 rfl (lv_at hl 0 rfl) ?_
  refine lv_iconst (v := 3) hx hb dL_law_899 (by decide) ?_
  refine lv_iadd hx hb dL_law_900 ?_
  refine va_sld hx hb hX hbl hbA hI1.2.2 (hv 3 (by decide)) dL_law_901 ?_
  refine lw_call (av := [.int (xs (x3 + 1).toNatClampNeg), .int (xs (x3 + 2).toNatClampNeg), .int (xs (x3 + 3).toNatClampNeg)]) (rest := [.int z]) C0 hK hI2 hB cw_X9_sheet ml_L_111 im_X9_sheet sl_X9_X9_sheet rfl (by decide) rfl (fun _ => rfl) rfl ⟨Nat.le_of_ble_eq_true rfl, Nat.le_of_ble_eq_true rfl⟩ ⟨by omega, by omega⟩ (Nat.le_of_ble_eq_true rfl) hl.1 dL_law_902 (fun v n3 h3 ad3 Hh2 locs2 hq2 hle2 had2 hI3 => ?_)
  obtain ⟨rfl, rfl, J2, H2, rfl, hSM⟩ := hq2
  refine W.eq (g2 := F0 m 905 ls [.int z, .int z]) rfl ?_
  refine lv_icmp_eq (tgt := 1211) hx hb dL_law_905 (by decide) (fun _ => ?_) (fun c9 => absurd rfl c9)
  refine W.widen (k := cells + 6) (n := slots + 18) (by omega) (by omega) ?_
  exact kk pk1 G1 I2 F2 _ c1 g1 x1 r1 J2 H2 ad1 ad3 _ _ (by omega) (Rel_SM hSM (Rel_SC hSC hR1)) ⟨ww_Ps hI3.1, ww_Ds hI3.2.1, hI3.2.2⟩ (had 0 (by omega)) (had2 0 (by omega))
set_option maxRecDepth 100000 in
set_option maxHeartbeats 4000000 in
theorem lc_lose {p : Program} {l : Launch} {e : Env} {s : State} {m : MethodId} {below : List Frame} {meth : Method} {c : Code} {b L : Nat} {xs : Nat → Int32} {D : va_G} {tc : Nat → ClassId} {H : Heap} {locs : List Loc} {cells slots : Nat} {Q : State → Prop} {pk : Nat → Nat} {G : Nat → Option Nat} {I F : Nat → Nat → Int32} {n c0 : Nat} {g : Nat → Nat} {x r : Nat} {J Hm : Nat → Nat → Int32} {ad ad2 : Nat → Nat} {ls : Array Slot} {x3 : Int32} (C0 : lw_At p s m meth c b L xs) (hK : aw_K D tc s) (hn : 30 ≤ n) (hR : Rel pk G I F n c0 g x r J Hm) (hI : LI D tc s H locs n (hC pk G I F) ad (aw_ws tc ad2 15 (hM J Hm))) (hl : lv_has ls 4 [(3, .int x3), (2, .ref (ad2 0)), (1, .ref (ad 0)), (0, .ref b)]) (hv : ∀ k : Nat, k < 6 → vp_in (x3 + nI k) L) (hc : cells + 6 ≤ 600000 ∧ slots + 18 ≤ 7302250) (kk : LK p l e s m below meth c b D tc cells slots Q ls ad ad2) : W p l e room_1 s m #[Value.ref b] below meth c H locs cells slots Q (F0 m 910 ls []) := by
  obtain ⟨hx, hb, hr, hml, hown, hts, hX, hbl, hlocks, hgv⟩ := id C0
  have hbA : ¬ LA s b := Nat.not_le.mpr hbl
  obtain ⟨w, pk1, G1, I1, F1, n1, c1, g1, x1, r1, J1, H1, hA, hB, hR1, hn1, hw⟩ := e_lose (l := l) (D := D) (tc := tc) hn hR (xs (x3 + 1).toNatClampNeg)
  obtain ⟨z, rfl⟩ := isN_i hw
  refine lv_aload_n hx hb dL_law_910 rfl (lv_at hl 2 rfl) ?_
  refine lv_aload_n hx hb dL_law_911 rfl (lv_at hl 3 rfl) ?_
  refine lv_iload_n hx hb dL_law_912 rfl (lv_at hl 0 rfl) ?_
  refine lv_iconst (v := 1) hx hb dL_law_913 (by decide) ?_
  refine lv_iadd hx hb dL_law_914 ?_
  refine va_sld hx hb hX hbl hbA hI.2.2 (hv 1 (by decide)) dL_law_915 ?_
  refine lw_call (av := [.int (xs (x3 + 1).toNatClampNeg)]) (rest := []) C0 hK hI hA cw_X8_lose ml_L_112 im_X8_lose sl_X8_X8_lose rfl (by omega) rfl (fun _ => rfl) rfl ⟨Nat.le_of_ble_eq_true rfl, Nat.le_of_ble_eq_true rfl⟩ ⟨by omega, by omega⟩ (Nat.le_of_ble_eq_true rfl) hl.1 dL_law_916 (fun v n2 h2 ad1 Hh locs1 hq hle had hI1 => ?_)
  obtain ⟨rfl, rfl, I2, F2, rfl, hSC⟩ := hq
  refine W.eq (g2 := F0 m 919 ls [.int z]) rfl ?_
  have hI2 : LI D tc s Hh locs1 15 (hM J Hm) ad2 (aw_ws tc ad1 n2 (hC pk1 G1 I2 F2)) := ⟨ww_Ps hI1.1, ww_Ds hI1.2.1, hI1.2.2⟩
  refine lv_aload_n hx hb dL_law_919 rfl (lv_at hl 1 rfl) ?_
  refine lv_aload_n hx hb dL_law_920 rfl (lv_at hl 3 rfl) ?_
  refine lv_iload_n hx hb dL_law_921 rfl (lv_at hl 0 rfl) ?_
  refine lv_iconst (v := 1) hx hb dL_law_922 (by decide) ?_
  refine lv_iadd hx hb dL_law_923 ?_
  refine va_sld hx hb hX hbl hbA hI1.2.2 (hv 1 (by decide)) dL_law_924 ?_
  refine lw_call (av := [.int (xs (x3 + 1).toNatClampNeg)]) (rest := [.int z]) C0 hK hI2 hB cw_X9_lose ml_L_115 im_X9_lose sl_X9_X9_lose rfl (by decide) rfl (fun _ => rfl) rfl ⟨Nat.le_of_ble_eq_true rfl, Nat.le_of_ble_eq_true rfl⟩ ⟨by omega, by omega⟩ (Nat.le_of_ble_eq_true rfl) hl.1 dL_law_925 (fun v n3 h3 ad3 Hh2 locs2 hq2 hle2 had2 hI3 => ?_)
  obtain ⟨rfl, rfl, J2, H2, rfl, hSM⟩ := hq2
  refine W.eq (g2 := F0 m 928 ls [.int z, .int z]) rfl ?_
  refine lv_icmp_eq (tgt := 1211) hx hb dL_law_928 (by decide) (fun _ => ?_) (fun c9 => absurd rfl c9)
  refine W.widen (k := cells + 6) (n := slots + 18) (by omega) (by omega) ?_
  exact kk pk1 G1 I2 F2 _ c1 g1 x1 r1 J2 H2 ad1 ad3 _ _ (by omega) (Rel_SM hSM (Rel_SC hSC hR1)) ⟨ww_Ps hI3.1, ww_Ds hI3.2.1, hI3.2.2⟩ (had 0 (by omega)) (had2 0 (by omega))
set_option maxRecDepth 100000 in
set_option maxHeartbeats 4000000 in
theorem lc_put {p : Program} {l : Launch} {e : Env} {s : State} {m : MethodId} {below : List Frame} {meth : Method} {c : Code} {b L : Nat} {xs : Nat → Int32} {D : va_G} {tc : Nat → ClassId} {H : Heap} {locs : List Loc} {cells slots : Nat} {Q : State → Prop} {pk : Nat → Nat} {G : Nat → Option Nat} {I F : Nat → Nat → Int32} {n c0 : Nat} {g : Nat → Nat} {x r : Nat} {J Hm : Nat → Nat → Int32} {ad ad2 : Nat → Nat} {ls : Array Slot} {x3 : Int32} (C0 : lw_At p s m meth c b L xs) (hK : aw_K D tc s) (hn : 30 ≤ n) (hR : Rel pk G I F n c0 g x r J Hm) (hI : LI D tc s H locs n (hC pk G I F) ad (aw_ws tc ad2 15 (hM J Hm))) (hl : lv_has ls 4 [(3, .int x3), (2, .ref (ad2 0)), (1, .ref (ad 0)), (0, .ref b)]) (hv : ∀ k : Nat, k < 6 → vp_in (x3 + nI k) L) (hc : cells + 6 ≤ 600000 ∧ slots + 18 ≤ 7302250) (kk : LK p l e s m below meth c b D tc cells slots Q ls ad ad2) : W p l e room_1 s m #[Value.ref b] below meth c H locs cells slots Q (F0 m 933 ls []) := by
  obtain ⟨hx, hb, hr, hml, hown, hts, hX, hbl, hlocks, hgv⟩ := id C0
  have hbA : ¬ LA s b := Nat.not_le.mpr hbl
  obtain ⟨w, pk1, G1, I1, F1, n1, c1, g1, x1, r1, J1, H1, hA, hB, hR1, hn1, hw⟩ := e_put (l := l) (D := D) (tc := tc) hn hR (xs (x3 + 1).toNatClampNeg) (xs (x3 + 2).toNatClampNeg) (xs (x3 + 3).toNatClampNeg)
  obtain ⟨z, rfl⟩ := isN_i hw
  refine lv_aload_n hx hb dL_law_933 rfl (lv_at hl 2 rfl) ?_
  refine lv_aload_n hx hb dL_law_934 rfl (lv_at hl 3 rfl) ?_
  refine lv_iload_n hx hb dL_law_935 rfl (lv_at hl 0 rfl) ?_
  refine lv_iconst (v := 1) hx hb dL_law_936 (by decide) ?_
  refine lv_iadd hx hb dL_law_937 ?_
  refine va_sld hx hb hX hbl hbA hI.2.2 (hv 1 (by decide)) dL_law_938 ?_
  refine lv_aload_n hx hb dL_law_939 rfl (lv_at hl 3 rfl) ?_
  refine lv_iload_n hx hb dL_law_940 rfl (lv_at hl 0 rfl) ?_
  refine lv_iconst (v := 2) hx hb dL_law_941 (by decide) ?_
  refine lv_iadd hx hb dL_law_942 ?_
  refine va_sld hx hb hX hbl hbA hI.2.2 (hv 2 (by decide)) dL_law_943 ?_
  refine lv_aload_n hx hb dL_law_944 rfl (lv_at hl 3 rfl) ?_
  refine lv_iload_n hx hb dL_law_945 rfl (lv_at hl 0 rfl) ?_
  refine lv_iconst (v := 3) hx hb dL_law_946 (by decide) ?_
  refine lv_iadd hx hb dL_law_947 ?_
  refine va_sld hx hb hX hbl hbA hI.2.2 (hv 3 (by decide)) dL_law_948 ?_
  refine lw_call (av := [.int (xs (x3 + 1).toNatClampNeg), .int (xs (x3 + 2).toNatClampNeg), .int (xs (x3 + 3).toNatClampNeg)]) (rest := []) C0 hK hI hA cw_X8_put ml_L_116 im_X8_put sl_X8_X8_put rfl (by omega) rfl (fun _ => rfl) rfl ⟨Nat.le_of_ble_eq_true rfl, Nat.le_of_ble_eq_true rfl⟩ ⟨by omega, by omega⟩ (Nat.le_of_ble_eq_true rfl) hl.1 dL_law_949 (fun v n2 h2 ad1 Hh locs1 hq hle had hI1 => ?_)
  obtain ⟨rfl, rfl, I2, F2, rfl, hSC⟩ := hq
  refine W.eq (g2 := F0 m 952 ls [.int z]) rfl ?_
  have hI2 : LI D tc s Hh locs1 15 (hM J Hm) ad2 (aw_ws tc ad1 n2 (hC pk1 G1 I2 F2)) := ⟨ww_Ps hI1.1, ww_Ds hI1.2.1, hI1.2.2⟩
  refine lv_aload_n hx hb dL_law_952 rfl (lv_at hl 1 rfl) ?_
  refine lv_aload_n hx hb dL_law_953 rfl (lv_at hl 3 rfl) ?_
  refine lv_iload_n hx hb dL_law_954 rfl (lv_at hl 0 rfl) ?_
  refine lv_iconst (v := 1) hx hb dL_law_955 (by decide) ?_
  refine lv_iadd hx hb dL_law_956 ?_
  refine va_sld hx hb hX hbl hbA hI1.2.2 (hv 1 (by decide)) dL_law_957 ?_
  refine lv_aload_n hx hb dL_law_958 rfl (lv_at hl 3 rfl) ?_
  refine lv_iload_n hx hb dL_law_959 rfl (lv_at hl 0 rfl) ?_
  refine lv_iconst (v := 2) hx hb dL_law_960 (by decide) ?_
  refine lv_iadd hx hb dL_law_961 ?_
  refine va_sld hx hb hX hbl hbA hI1.2.2 (hv 2 (by decide)) dL_law_962 ?_
  refine lv_aload_n hx hb dL_law_963 rfl (lv_at hl 3 rfl) ?_
  refine lv_iload_n hx hb dL_law_964 rfl (lv_at hl 0 rfl) ?_
  refine lv_iconst (v := 3) hx hb dL_law_965 (by decide) ?_
  refine lv_iadd hx hb dL_law_966 ?_
  refine va_sld hx hb hX hbl hbA hI1.2.2 (hv 3 (by decide)) dL_law_967 ?_
  refine lw_call (av := [.int (xs (x3 + 1).toNatClampNeg), .int (xs (x3 + 2).toNatClampNeg), .int (xs (x3 + 3).toNatClampNeg)]) (rest := [.int z]) C0 hK hI2 hB cw_X9_put ml_L_119 im_X9_put sl_X9_X9_put rfl (by decide) rfl (fun _ => rfl) rfl ⟨Nat.le_of_ble_eq_true rfl, Nat.le_of_ble_eq_true rfl⟩ ⟨by omega, by omega⟩ (Nat.le_of_ble_eq_true rfl) hl.1 dL_law_968 (fun v n3 h3 ad3 Hh2 locs2 hq2 hle2 had2 hI3 => ?_)
  obtain ⟨rfl, rfl, J2, H2, rfl, hSM⟩ := hq2
  refine W.eq (g2 := F0 m 971 ls [.int z, .int z]) rfl ?_
  refine lv_icmp_eq (tgt := 1211) hx hb dL_law_971 (by decide) (fun _ => ?_) (fun c9 => absurd rfl c9)
  refine W.widen (k := cells + 6) (n := slots + 18) (by omega) (by omega) ?_
  exact kk pk1 G1 I2 F2 _ c1 g1 x1 r1 J2 H2 ad1 ad3 _ _ (by omega) (Rel_SM hSM (Rel_SC hSC hR1)) ⟨ww_Ps hI3.1, ww_Ds hI3.2.1, hI3.2.2⟩ (had 0 (by omega)) (had2 0 (by omega))
set_option maxRecDepth 100000 in
set_option maxHeartbeats 4000000 in
theorem lc_cell {p : Program} {l : Launch} {e : Env} {s : State} {m : MethodId} {below : List Frame} {meth : Method} {c : Code} {b L : Nat} {xs : Nat → Int32} {D : va_G} {tc : Nat → ClassId} {H : Heap} {locs : List Loc} {cells slots : Nat} {Q : State → Prop} {pk : Nat → Nat} {G : Nat → Option Nat} {I F : Nat → Nat → Int32} {n c0 : Nat} {g : Nat → Nat} {x r : Nat} {J Hm : Nat → Nat → Int32} {ad ad2 : Nat → Nat} {ls : Array Slot} {x3 : Int32} (C0 : lw_At p s m meth c b L xs) (hK : aw_K D tc s) (hn : 30 ≤ n) (hR : Rel pk G I F n c0 g x r J Hm) (hI : LI D tc s H locs n (hC pk G I F) ad (aw_ws tc ad2 15 (hM J Hm))) (hl : lv_has ls 4 [(3, .int x3), (2, .ref (ad2 0)), (1, .ref (ad 0)), (0, .ref b)]) (hv : ∀ k : Nat, k < 6 → vp_in (x3 + nI k) L) (hc : cells + 6 ≤ 600000 ∧ slots + 18 ≤ 7302250) (kk : LK p l e s m below meth c b D tc cells slots Q ls ad ad2) : W p l e room_1 s m #[Value.ref b] below meth c H locs cells slots Q (F0 m 976 ls []) := by
  obtain ⟨hx, hb, hr, hml, hown, hts, hX, hbl, hlocks, hgv⟩ := id C0
  have hbA : ¬ LA s b := Nat.not_le.mpr hbl
  obtain ⟨w, pk1, G1, I1, F1, n1, c1, g1, x1, r1, J1, H1, hA, hB, hR1, hn1, hw⟩ := e_cell (l := l) (D := D) (tc := tc) hn hR (xs (x3 + 1).toNatClampNeg) (xs (x3 + 2).toNatClampNeg) (xs (x3 + 3).toNatClampNeg)
  obtain ⟨z, rfl⟩ := isN_l hw
  refine lv_aload_n hx hb dL_law_976 rfl (lv_at hl 2 rfl) ?_
  refine lv_aload_n hx hb dL_law_977 rfl (lv_at hl 3 rfl) ?_
  refine lv_iload_n hx hb dL_law_978 rfl (lv_at hl 0 rfl) ?_
  refine lv_iconst (v := 1) hx hb dL_law_979 (by decide) ?_
  refine lv_iadd hx hb dL_law_980 ?_
  refine va_sld hx hb hX hbl hbA hI.2.2 (hv 1 (by decide)) dL_law_981 ?_
  refine lv_aload_n hx hb dL_law_982 rfl (lv_at hl 3 rfl) ?_
  refine lv_iload_n hx hb dL_law_983 rfl (lv_at hl 0 rfl) ?_
  refine lv_iconst (v := 2) hx hb dL_law_984 (by decide) ?_
  refine lv_iadd hx hb dL_law_985 ?_
  refine va_sld hx hb hX hbl hbA hI.2.2 (hv 2 (by decide)) dL_law_986 ?_
  refine lv_aload_n hx hb dL_law_987 rfl (lv_at hl 3 rfl) ?_
  refine lv_iload_n hx hb dL_law_988 rfl (lv_at hl 0 rfl) ?_
  refine lv_iconst (v := 3) hx hb dL_law_989 (by decide) ?_
  refine lv_iadd hx hb dL_law_990 ?_
  refine va_sld hx hb hX hbl hbA hI.2.2 (hv 3 (by decide)) dL_law_991 ?_
  refine lw_call (av := [.int (xs (x3 + 1).toNatClampNeg), .int (xs (x3 + 2).toNatClampNeg), .int (xs (x3 + 3).toNatClampNeg)]) (rest := []) C0 hK hI hA cw_X8_cell ml_L_120 im_X8_cell sl_X8_X8_cell rfl (by omega) rfl (fun _ => rfl) rfl ⟨Nat.le_of_ble_eq_true rfl, Nat.le_of_ble_eq_true rfl⟩ ⟨by omega, by omega⟩ (Nat.le_of_ble_eq_true rfl) hl.1 dL_law_992 (fun v n2 h2 ad1 Hh locs1 hq hle had hI1 => ?_)
  obtain ⟨rfl, rfl, I2, F2, rfl, hSC⟩ := hq
  refine W.eq (g2 := F0 m 995 ls [.long z]) rfl ?_
  have hI2 : LI D tc s Hh locs1 15 (hM J Hm) ad2 (aw_ws tc ad1 n2 (hC pk1 G1 I2 F2)) := ⟨ww_Ps hI1.1, ww_Ds hI1.2.1, hI1.2.2⟩
  refine lv_aload_n hx hb dL_law_995 rfl (lv_at hl 1 rfl) ?_
  refine lv_aload_n hx hb dL_law_996 rfl (lv_at hl 3 rfl) ?_
  refine lv_iload_n hx hb dL_law_997 rfl (lv_at hl 0 rfl) ?_
  refine lv_iconst (v := 1) hx hb dL_law_998 (by decide) ?_
  refine lv_iadd hx hb dL_law_999 ?_
  refine va_sld hx hb hX hbl hbA hI1.2.2 (hv 1 (by decide)) dL_law_1000 ?_
  refine lv_aload_n hx hb dL_law_1001 rfl (lv_at hl 3 rfl) ?_
  refine lv_iload_n hx hb dL_law_1002 rfl (lv_at hl 0 rfl) ?_
  refine lv_iconst (v := 2) hx hb dL_law_1003 (by decide) ?_
  refine lv_iadd hx hb dL_law_1004 ?_
  refine va_sld hx hb hX hbl hbA hI1.2.2 (hv 2 (by decide)) dL_law_1005 ?_
  refine lv_aload_n hx hb dL_law_1006 rfl (lv_at hl 3 rfl) ?_
  refine lv_iload_n hx hb dL_law_1007 rfl (lv_at hl 0 rfl) ?_
  refine lv_iconst (v := 3) hx hb dL_law_1008 (by decide) ?_
  refine lv_iadd hx hb dL_law_1009 ?_
  refine va_sld hx hb hX hbl hbA hI1.2.2 (hv 3 (by decide)) dL_law_1010 ?_
  refine lw_call (av := [.int (xs (x3 + 1).toNatClampNeg), .int (xs (x3 + 2).toNatClampNeg), .int (xs (x3 + 3).toNatClampNeg)]) (rest := [.long z]) C0 hK hI2 hB cw_X9_cell ml_L_124 im_X9_cell sl_X9_X9_cell rfl (by decide) rfl (fun _ => rfl) rfl ⟨Nat.le_of_ble_eq_true rfl, Nat.le_of_ble_eq_true rfl⟩ ⟨by omega, by omega⟩ (Nat.le_of_ble_eq_true rfl) hl.1 dL_law_1011 (fun v n3 h3 ad3 Hh2 locs2 hq2 hle2 had2 hI3 => ?_)
  obtain ⟨rfl, rfl, J2, H2, rfl, hSM⟩ := hq2
  refine W.eq (g2 := F0 m 1014 ls [.long z, .long z]) rfl ?_
  refine W.lcmp hx hb dL_law_1014 ?_
  refine lv_if_eq (tgt := 1211) hx hb dL_law_1015 (by decide) (fun _ => ?_) (fun c9 => absurd (lg_same z) c9)
  refine W.widen (k := cells + 6) (n := slots + 18) (by omega) (by omega) ?_
  exact kk pk1 G1 I2 F2 _ c1 g1 x1 r1 J2 H2 ad1 ad3 _ _ (by omega) (Rel_SM hSM (Rel_SC hSC hR1)) ⟨ww_Ps hI3.1, ww_Ds hI3.2.1, hI3.2.2⟩ (had 0 (by omega)) (had2 0 (by omega))
set_option maxRecDepth 100000 in
set_option maxHeartbeats 4000000 in
theorem lc_copy {p : Program} {l : Launch} {e : Env} {s : State} {m : MethodId} {below : List Frame} {meth : Method} {c : Code} {b L : Nat} {xs : Nat → Int32} {D : va_G} {tc : Nat → ClassId} {H : Heap} {locs : List Loc} {cells slots : Nat} {Q : State → Prop} {pk : Nat → Nat} {G : Nat → Option Nat} {I F : Nat → Nat → Int32} {n c0 : Nat} {g : Nat → Nat} {x r : Nat} {J Hm : Nat → Nat → Int32} {ad ad2 : Nat → Nat} {ls : Array Slot} {x3 : Int32} (C0 : lw_At p s m meth c b L xs) (hK : aw_K D tc s) (hn : 30 ≤ n) (hR : Rel pk G I F n c0 g x r J Hm) (hI : LI D tc s H locs n (hC pk G I F) ad (aw_ws tc ad2 15 (hM J Hm))) (hl : lv_has ls 4 [(3, .int x3), (2, .ref (ad2 0)), (1, .ref (ad 0)), (0, .ref b)]) (hv : ∀ k : Nat, k < 6 → vp_in (x3 + nI k) L) (hc : cells + 6 ≤ 600000 ∧ slots + 18 ≤ 7302250) (kk : LK p l e s m below meth c b D tc cells slots Q ls ad ad2) : W p l e room_1 s m #[Value.ref b] below meth c H locs cells slots Q (F0 m 1020 ls []) := by
  obtain ⟨hx, hb, hr, hml, hown, hts, hX, hbl, hlocks, hgv⟩ := id C0
  have hbA : ¬ LA s b := Nat.not_le.mpr hbl
  obtain ⟨w, pk1, G1, I1, F1, n1, c1, g1, x1, r1, J1, H1, hA, hB, hR1, hn1, hw⟩ := e_copy (l := l) (D := D) (tc := tc) hn hR (xs (x3 + 1).toNatClampNeg) (xs (x3 + 2).toNatClampNeg) (xs (x3 + 3).toNatClampNeg) (xs (x3 + 4).toNatClampNeg) (xs (x3 + 5).toNatClampNeg)
  obtain ⟨z, rfl⟩ := isN_i hw
  refine lv_aload_n hx hb dL_law_1020 rfl (lv_at hl 2 rfl) ?_
  refine lv_aload_n hx hb dL_law_1021 rfl (lv_at hl 3 rfl) ?_
  refine lv_iload_n hx hb dL_law_1022 rfl (lv_at hl 0 rfl) ?_
  refine lv_iconst (v := 1) hx hb dL_law_1023 (by decide) ?_
  refine lv_iadd hx hb dL_law_1024 ?_
  refine va_sld hx hb hX hbl hbA hI.2.2 (hv 1 (by decide)) dL_law_1025 ?_
  refine lv_aload_n hx hb dL_law_1026 rfl (lv_at hl 3 rfl) ?_
  refine lv_iload_n hx hb dL_law_1027 rfl (lv_at hl 0 rfl) ?_
  refine lv_iconst (v := 2) hx hb dL_law_1028 (by decide) ?_
  refine lv_iadd hx hb dL_law_1029 ?_
  refine va_sld hx hb hX hbl hbA hI.2.2 (hv 2 (by decide)) dL_law_1030 ?_
  refine lv_aload_n hx hb dL_law_1031 rfl (lv_at hl 3 rfl) ?_
  refine lv_iload_n hx hb dL_law_1032 rfl (lv_at hl 0 rfl) ?_
  refine lv_iconst (v := 3) hx hb dL_law_1033 (by decide) ?_
  refine lv_iadd hx hb dL_law_1034 ?_
  refine va_sld hx hb hX hbl hbA hI.2.2 (hv 3 (by decide)) dL_law_1035 ?_
  refine lv_aload_n hx hb dL_law_1036 rfl (lv_at hl 3 rfl) ?_
  refine lv_iload_n hx hb dL_law_1037 rfl (lv_at hl 0 rfl) ?_
  refine lv_iconst (v := 4) hx hb dL_law_1038 (by decide) ?_
  refine lv_iadd hx hb dL_law_1039 ?_
  refine va_sld hx hb hX hbl hbA hI.2.2 (hv 4 (by decide)) dL_law_1040 ?_
  refine lv_aload_n hx hb dL_law_1041 rfl (lv_at hl 3 rfl) ?_
  refine lv_iload_n hx hb dL_law_1042 rfl (lv_at hl 0 rfl) ?_
  refine lv_iconst (v := 5) hx hb dL_law_1043 (by decide) ?_
  refine lv_iadd hx hb dL_law_1044 ?_
  refine va_sld hx hb hX hbl hbA hI.2.2 (hv 5 (by decide)) dL_law_1045 ?_
  refine lw_call (av := [.int (xs (x3 + 1).toNatClampNeg), .int (xs (x3 + 2).toNatClampNeg), .int (xs (x3 + 3).toNatClampNeg), .int (xs (x3 + 4).toNatClampNeg), .int (xs (x3 + 5).toNatClampNeg)]) (rest := []) C0 hK hI hA cw_X8_copy ml_L_125 im_X8_copy sl_X8_X8_copy rfl (by omega) rfl (fun _ => rfl) rfl ⟨Nat.le_of_ble_eq_true rfl, Nat.le_of_ble_eq_true rfl⟩ ⟨by omega, by omega⟩ (Nat.le_of_ble_eq_true rfl) hl.1 dL_law_1046 (fun v n2 h2 ad1 Hh locs1 hq hle had hI1 => ?_)
  obtain ⟨rfl, rfl, I2, F2, rfl, hSC⟩ := hq
  refine W.eq (g2 := F0 m 1049 ls [.int z]) rfl ?_
  have hI2 : LI D tc s Hh locs1 15 (hM J Hm) ad2 (aw_ws tc ad1 n2 (hC pk1 G1 I2 F2)) := ⟨ww_Ps hI1.1, ww_Ds hI1.2.1, hI1.2.2⟩
  refine lv_aload_n hx hb dL_law_1049 rfl (lv_at hl 1 rfl) ?_
  refine lv_aload_n hx hb dL_law_1050 rfl (lv_at hl 3 rfl) ?_
  refine lv_iload_n hx hb dL_law_1051 rfl (lv_at hl 0 rfl) ?_
  refine lv_iconst (v := 1) hx hb dL_law_1052 (by decide) ?_
  refine lv_iadd hx hb dL_law_1053 ?_
  refine va_sld hx hb hX hbl hbA hI1.2.2 (hv 1 (by decide)) dL_law_1054 ?_
  refine lv_aload_n hx hb dL_law_1055 rfl (lv_at hl 3 rfl) ?_
  refine lv_iload_n hx hb dL_law_1056 rfl (lv_at hl 0 rfl) ?_
  refine lv_iconst (v := 2) hx hb dL_law_1057 (by decide) ?_
  refine lv_iadd hx hb dL_law_1058 ?_
  refine va_sld hx hb hX hbl hbA hI1.2.2 (hv 2 (by decide)) dL_law_1059 ?_
  refine lv_aload_n hx hb dL_law_1060 rfl (lv_at hl 3 rfl) ?_
  refine lv_iload_n hx hb dL_law_1061 rfl (lv_at hl 0 rfl) ?_
  refine lv_iconst (v := 3) hx hb dL_law_1062 (by decide) ?_
  refine lv_iadd hx hb dL_law_1063 ?_
  refine va_sld hx hb hX hbl hbA hI1.2.2 (hv 3 (by decide)) dL_law_1064 ?_
  refine lv_aload_n hx hb dL_law_1065 rfl (lv_at hl 3 rfl) ?_
  refine lv_iload_n hx hb dL_law_1066 rfl (lv_at hl 0 rfl) ?_
  refine lv_iconst (v := 4) hx hb dL_law_1067 (by decide) ?_
  refine lv_iadd hx hb dL_law_1068 ?_
  refine va_sld hx hb hX hbl hbA hI1.2.2 (hv 4 (by decide)) dL_law_1069 ?_
  refine lv_aload_n hx hb dL_law_1070 rfl (lv_at hl 3 rfl) ?_
  refine lv_iload_n hx hb dL_law_1071 rfl (lv_at hl 0 rfl) ?_
  refine lv_iconst (v := 5) hx hb dL_law_1072 (by decide) ?_
  refine lv_iadd hx hb dL_law_1073 ?_
  refine va_sld hx hb hX hbl hbA hI1.2.2 (hv 5 (by decide)) dL_law_1074 ?_
  refine lw_call (av := [.int (xs (x3 + 1).toNatClampNeg), .int (xs (x3 + 2).toNatClampNeg), .int (xs (x3 + 3).toNatClampNeg), .int (xs (x3 + 4).toNatClampNeg), .int (xs (x3 + 5).toNatClampNeg)]) (rest := [.int z]) C0 hK hI2 hB cw_X9_copy ml_L_128 im_X9_copy sl_X9_X9_copy rfl (by decide) rfl (fun _ => rfl) rfl ⟨Nat.le_of_ble_eq_true rfl, Nat.le_of_ble_eq_true rfl⟩ ⟨by omega, by omega⟩ (Nat.le_of_ble_eq_true rfl) hl.1 dL_law_1075 (fun v n3 h3 ad3 Hh2 locs2 hq2 hle2 had2 hI3 => ?_)
  obtain ⟨rfl, rfl, J2, H2, rfl, hSM⟩ := hq2
  refine W.eq (g2 := F0 m 1078 ls [.int z, .int z]) rfl ?_
  refine lv_icmp_eq (tgt := 1211) hx hb dL_law_1078 (by decide) (fun _ => ?_) (fun c9 => absurd rfl c9)
  refine W.widen (k := cells + 6) (n := slots + 18) (by omega) (by omega) ?_
  exact kk pk1 G1 I2 F2 _ c1 g1 x1 r1 J2 H2 ad1 ad3 _ _ (by omega) (Rel_SM hSM (Rel_SC hSC hR1)) ⟨ww_Ps hI3.1, ww_Ds hI3.2.1, hI3.2.2⟩ (had 0 (by omega)) (had2 0 (by omega))
set_option maxRecDepth 100000 in
set_option maxHeartbeats 4000000 in
theorem lc_tell {p : Program} {l : Launch} {e : Env} {s : State} {m : MethodId} {below : List Frame} {meth : Method} {c : Code} {b L : Nat} {xs : Nat → Int32} {D : va_G} {tc : Nat → ClassId} {H : Heap} {locs : List Loc} {cells slots : Nat} {Q : State → Prop} {pk : Nat → Nat} {G : Nat → Option Nat} {I F : Nat → Nat → Int32} {n c0 : Nat} {g : Nat → Nat} {x r : Nat} {J Hm : Nat → Nat → Int32} {ad ad2 : Nat → Nat} {ls : Array Slot} {x3 : Int32} (C0 : lw_At p s m meth c b L xs) (hK : aw_K D tc s) (hn : 30 ≤ n) (hR : Rel pk G I F n c0 g x r J Hm) (hI : LI D tc s H locs n (hC pk G I F) ad (aw_ws tc ad2 15 (hM J Hm))) (hl : lv_has ls 4 [(3, .int x3), (2, .ref (ad2 0)), (1, .ref (ad 0)), (0, .ref b)]) (hv : ∀ k : Nat, k < 6 → vp_in (x3 + nI k) L) (hc : cells + 6 ≤ 600000 ∧ slots + 18 ≤ 7302250) (kk : LK p l e s m below meth c b D tc cells slots Q ls ad ad2) : W p l e room_1 s m #[Value.ref b] below meth c H locs cells slots Q (F0 m 1083 ls []) := by
  obtain ⟨hx, hb, hr, hml, hown, hts, hX, hbl, hlocks, hgv⟩ := id C0
  have hbA : ¬ LA s b := Nat.not_le.mpr hbl
  obtain ⟨w, pk1, G1, I1, F1, n1, c1, g1, x1, r1, J1, H1, hA, hB, hR1, hn1, hw⟩ := e_tell (l := l) (D := D) (tc := tc) hn hR (xs (x3 + 1).toNatClampNeg)
  obtain ⟨z, rfl⟩ := isN_i hw
  refine lv_aload_n hx hb dL_law_1083 rfl (lv_at hl 2 rfl) ?_
  refine lv_aload_n hx hb dL_law_1084 rfl (lv_at hl 3 rfl) ?_
  refine lv_iload_n hx hb dL_law_1085 rfl (lv_at hl 0 rfl) ?_
  refine lv_iconst (v := 1) hx hb dL_law_1086 (by decide) ?_
  refine lv_iadd hx hb dL_law_1087 ?_
  refine va_sld hx hb hX hbl hbA hI.2.2 (hv 1 (by decide)) dL_law_1088 ?_
  refine lw_call (av := [.int (xs (x3 + 1).toNatClampNeg)]) (rest := []) C0 hK hI hA cw_X8_tell ml_L_129 im_X8_tell sl_X8_X8_tell rfl (by omega) rfl (fun _ => rfl) rfl ⟨Nat.le_of_ble_eq_true rfl, Nat.le_of_ble_eq_true rfl⟩ ⟨by omega, by omega⟩ (Nat.le_of_ble_eq_true rfl) hl.1 dL_law_1089 (fun v n2 h2 ad1 Hh locs1 hq hle had hI1 => ?_)
  obtain ⟨rfl, rfl, I2, F2, rfl, hSC⟩ := hq
  refine W.eq (g2 := F0 m 1092 ls [.int z]) rfl ?_
  have hI2 : LI D tc s Hh locs1 15 (hM J Hm) ad2 (aw_ws tc ad1 n2 (hC pk1 G1 I2 F2)) := ⟨ww_Ps hI1.1, ww_Ds hI1.2.1, hI1.2.2⟩
  refine lv_aload_n hx hb dL_law_1092 rfl (lv_at hl 1 rfl) ?_
  refine lv_aload_n hx hb dL_law_1093 rfl (lv_at hl 3 rfl) ?_
  refine lv_iload_n hx hb dL_law_1094 rfl (lv_at hl 0 rfl) ?_
  refine lv_iconst (v := 1) hx hb dL_law_1095 (by decide) ?_
  refine lv_iadd hx hb dL_law_1096 ?_
  refine va_sld hx hb hX hbl hbA hI1.2.2 (hv 1 (by decide)) dL_law_1097 ?_
  refine lw_call (av := [.int (xs (x3 + 1).toNatClampNeg)]) (rest := [.int z]) C0 hK hI2 hB cw_X9_tell ml_L_132 im_X9_tell sl_X9_X9_tell rfl (by decide) rfl (fun _ => rfl) rfl ⟨Nat.le_of_ble_eq_true rfl, Nat.le_of_ble_eq_true rfl⟩ ⟨by omega, by omega⟩ (Nat.le_of_ble_eq_true rfl) hl.1 dL_law_1098 (fun v n3 h3 ad3 Hh2 locs2 hq2 hle2 had2 hI3 => ?_)
  obtain ⟨rfl, rfl, J2, H2, rfl, hSM⟩ := hq2
  refine W.eq (g2 := F0 m 1101 ls [.int z, .int z]) rfl ?_
  refine lv_icmp_eq (tgt := 1211) hx hb dL_law_1101 (by decide) (fun _ => ?_) (fun c9 => absurd rfl c9)
  refine W.widen (k := cells + 6) (n := slots + 18) (by omega) (by omega) ?_
  exact kk pk1 G1 I2 F2 _ c1 g1 x1 r1 J2 H2 ad1 ad3 _ _ (by omega) (Rel_SM hSM (Rel_SC hSC hR1)) ⟨ww_Ps hI3.1, ww_Ds hI3.2.1, hI3.2.2⟩ (had 0 (by omega)) (had2 0 (by omega))
set_option maxRecDepth 100000 in
set_option maxHeartbeats 4000000 in
theorem lc_hear {p : Program} {l : Launch} {e : Env} {s : State} {m : MethodId} {below : List Frame} {meth : Method} {c : Code} {b L : Nat} {xs : Nat → Int32} {D : va_G} {tc : Nat → ClassId} {H : Heap} {locs : List Loc} {cells slots : Nat} {Q : State → Prop} {pk : Nat → Nat} {G : Nat → Option Nat} {I F : Nat → Nat → Int32} {n c0 : Nat} {g : Nat → Nat} {x r : Nat} {J Hm : Nat → Nat → Int32} {ad ad2 : Nat → Nat} {ls : Array Slot} {x3 : Int32} (C0 : lw_At p s m meth c b L xs) (hK : aw_K D tc s) (hn : 30 ≤ n) (hR : Rel pk G I F n c0 g x r J Hm) (hI : LI D tc s H locs n (hC pk G I F) ad (aw_ws tc ad2 15 (hM J Hm))) (hl : lv_has ls 4 [(3, .int x3), (2, .ref (ad2 0)), (1, .ref (ad 0)), (0, .ref b)]) (hv : ∀ k : Nat, k < 6 → vp_in (x3 + nI k) L) (hc : cells + 6 ≤ 600000 ∧ slots + 18 ≤ 7302250) (kk : LK p l e s m below meth c b D tc cells slots Q ls ad ad2) : W p l e room_1 s m #[Value.ref b] below meth c H locs cells slots Q (F0 m 1106 ls []) := by
  obtain ⟨hx, hb, hr, hml, hown, hts, hX, hbl, hlocks, hgv⟩ := id C0
  have hbA : ¬ LA s b := Nat.not_le.mpr hbl
  obtain ⟨w, pk1, G1, I1, F1, n1, c1, g1, x1, r1, J1, H1, hA, hB, hR1, hn1, hw⟩ := e_hear (l := l) (D := D) (tc := tc) hn hR (xs (x3 + 1).toNatClampNeg)
  obtain ⟨z, rfl⟩ := isN_i hw
  refine lv_aload_n hx hb dL_law_1106 rfl (lv_at hl 2 rfl) ?_
  refine lv_aload_n hx hb dL_law_1107 rfl (lv_at hl 3 rfl) ?_
  refine lv_iload_n hx hb dL_law_1108 rfl (lv_at hl 0 rfl) ?_
  refine lv_iconst (v := 1) hx hb dL_law_1109 (by decide) ?_
  refine lv_iadd hx hb dL_law_1110 ?_
  refine va_sld hx hb hX hbl hbA hI.2.2 (hv 1 (by decide)) dL_law_1111 ?_
  refine lw_call (av := [.int (xs (x3 + 1).toNatClampNeg)]) (rest := []) C0 hK hI hA cw_X8_hear ml_L_133 im_X8_hear sl_X8_X8_hear rfl (by omega) rfl (fun _ => rfl) rfl ⟨Nat.le_of_ble_eq_true rfl, Nat.le_of_ble_eq_true rfl⟩ ⟨by omega, by omega⟩ (Nat.le_of_ble_eq_true rfl) hl.1 dL_law_1112 (fun v n2 h2 ad1 Hh locs1 hq hle had hI1 => ?_)
  obtain ⟨rfl, rfl, I2, F2, rfl, hSC⟩ := hq
  refine W.eq (g2 := F0 m 1115 ls [.int z]) rfl ?_
  have hI2 : LI D tc s Hh locs1 15 (hM J Hm) ad2 (aw_ws tc ad1 n2 (hC pk1 G1 I2 F2)) := ⟨ww_Ps hI1.1, ww_Ds hI1.2.1, hI1.2.2⟩
  refine lv_aload_n hx hb dL_law_1115 rfl (lv_at hl 1 rfl) ?_
  refine lv_aload_n hx hb dL_law_1116 rfl (lv_at hl 3 rfl) ?_
  refine lv_iload_n hx hb dL_law_1117 rfl (lv_at hl 0 rfl) ?_
  refine lv_iconst (v := 1) hx hb dL_law_1118 (by decide) ?_
  refine lv_iadd hx hb dL_law_1119 ?_
  refine va_sld hx hb hX hbl hbA hI1.2.2 (hv 1 (by decide)) dL_law_1120 ?_
  refine lw_call (av := [.int (xs (x3 + 1).toNatClampNeg)]) (rest := [.int z]) C0 hK hI2 hB cw_X9_hear ml_L_136 im_X9_hear sl_X9_X9_hear rfl (by decide) rfl (fun _ => rfl) rfl ⟨Nat.le_of_ble_eq_true rfl, Nat.le_of_ble_eq_true rfl⟩ ⟨by omega, by omega⟩ (Nat.le_of_ble_eq_true rfl) hl.1 dL_law_1121 (fun v n3 h3 ad3 Hh2 locs2 hq2 hle2 had2 hI3 => ?_)
  obtain ⟨rfl, rfl, J2, H2, rfl, hSM⟩ := hq2
  refine W.eq (g2 := F0 m 1124 ls [.int z, .int z]) rfl ?_
  refine lv_icmp_eq (tgt := 1211) hx hb dL_law_1124 (by decide) (fun _ => ?_) (fun c9 => absurd rfl c9)
  refine W.widen (k := cells + 6) (n := slots + 18) (by omega) (by omega) ?_
  exact kk pk1 G1 I2 F2 _ c1 g1 x1 r1 J2 H2 ad1 ad3 _ _ (by omega) (Rel_SM hSM (Rel_SC hSC hR1)) ⟨ww_Ps hI3.1, ww_Ds hI3.2.1, hI3.2.2⟩ (had 0 (by omega)) (had2 0 (by omega))
set_option maxRecDepth 100000 in
set_option maxHeartbeats 4000000 in
theorem lc_as {p : Program} {l : Launch} {e : Env} {s : State} {m : MethodId} {below : List Frame} {meth : Method} {c : Code} {b L : Nat} {xs : Nat → Int32} {D : va_G} {tc : Nat → ClassId} {H : Heap} {locs : List Loc} {cells slots : Nat} {Q : State → Prop} {pk : Nat → Nat} {G : Nat → Option Nat} {I F : Nat → Nat → Int32} {n c0 : Nat} {g : Nat → Nat} {x r : Nat} {J Hm : Nat → Nat → Int32} {ad ad2 : Nat → Nat} {ls : Array Slot} {x3 : Int32} (C0 : lw_At p s m meth c b L xs) (hK : aw_K D tc s) (hn : 30 ≤ n) (hR : Rel pk G I F n c0 g x r J Hm) (hI : LI D tc s H locs n (hC pk G I F) ad (aw_ws tc ad2 15 (hM J Hm))) (hl : lv_has ls 4 [(3, .int x3), (2, .ref (ad2 0)), (1, .ref (ad 0)), (0, .ref b)]) (hv : ∀ k : Nat, k < 6 → vp_in (x3 + nI k) L) (hc : cells + 6 ≤ 600000 ∧ slots + 18 ≤ 7302250) (kk : LK p l e s m below meth c b D tc cells slots Q ls ad ad2) : W p l e room_1 s m #[Value.ref b] below meth c H locs cells slots Q (F0 m 1129 ls []) := by
  obtain ⟨hx, hb, hr, hml, hown, hts, hX, hbl, hlocks, hgv⟩ := id C0
  have hbA : ¬ LA s b := Nat.not_le.mpr hbl
  obtain ⟨w, pk1, G1, I1, F1, n1, c1, g1, x1, r1, J1, H1, hA, hB, hR1, hn1, hw⟩ := e_as (l := l) (D := D) (tc := tc) hn hR (xs (x3 + 1).toNatClampNeg) (xs (x3 + 2).toNatClampNeg)
  obtain ⟨z, rfl⟩ := isN_i hw
  refine lv_aload_n hx hb dL_law_1129 rfl (lv_at hl 2 rfl) ?_
  refine lv_aload_n hx hb dL_law_1130 rfl (lv_at hl 3 rfl) ?_
  refine lv_iload_n hx hb dL_law_1131 rfl (lv_at hl 0 rfl) ?_
  refine lv_iconst (v := 1) hx hb dL_law_1132 (by decide) ?_
  refine lv_iadd hx hb dL_law_1133 ?_
  refine va_sld hx hb hX hbl hbA hI.2.2 (hv 1 (by decide)) dL_law_1134 ?_
  refine lv_aload_n hx hb dL_law_1135 rfl (lv_at hl 3 rfl) ?_
  refine lv_iload_n hx hb dL_law_1136 rfl (lv_at hl 0 rfl) ?_
  refine lv_iconst (v := 2) hx hb dL_law_1137 (by decide) ?_
  refine lv_iadd hx hb dL_law_1138 ?_
  refine va_sld hx hb hX hbl hbA hI.2.2 (hv 2 (by decide)) dL_law_1139 ?_
  refine lw_call (av := [.int (xs (x3 + 1).toNatClampNeg), .int (xs (x3 + 2).toNatClampNeg)]) (rest := []) C0 hK hI hA cw_X8_as ml_L_137 im_X8_as sl_X8_X8_as rfl (by omega) rfl (fun _ => rfl) rfl ⟨Nat.le_of_ble_eq_true rfl, Nat.le_of_ble_eq_true rfl⟩ ⟨by omega, by omega⟩ (Nat.le_of_ble_eq_true rfl) hl.1 dL_law_1140 (fun v n2 h2 ad1 Hh locs1 hq hle had hI1 => ?_)
  obtain ⟨rfl, rfl, I2, F2, rfl, hSC⟩ := hq
  refine W.eq (g2 := F0 m 1143 ls [.int z]) rfl ?_
  have hI2 : LI D tc s Hh locs1 15 (hM J Hm) ad2 (aw_ws tc ad1 n2 (hC pk1 G1 I2 F2)) := ⟨ww_Ps hI1.1, ww_Ds hI1.2.1, hI1.2.2⟩
  refine lv_aload_n hx hb dL_law_1143 rfl (lv_at hl 1 rfl) ?_
  refine lv_aload_n hx hb dL_law_1144 rfl (lv_at hl 3 rfl) ?_
  refine lv_iload_n hx hb dL_law_1145 rfl (lv_at hl 0 rfl) ?_
  refine lv_iconst (v := 1) hx hb dL_law_1146 (by decide) ?_
  refine lv_iadd hx hb dL_law_1147 ?_
  refine va_sld hx hb hX hbl hbA hI1.2.2 (hv 1 (by decide)) dL_law_1148 ?_
  refine lv_aload_n hx hb dL_law_1149 rfl (lv_at hl 3 rfl) ?_
  refine lv_iload_n hx hb dL_law_1150 rfl (lv_at hl 0 rfl) ?_
  refine lv_iconst (v := 2) hx hb dL_law_1151 (by decide) ?_
  refine lv_iadd hx hb dL_law_1152 ?_
  refine va_sld hx hb hX hbl hbA hI1.2.2 (hv 2 (by decide)) dL_law_1153 ?_
  refine lw_call (av := [.int (xs (x3 + 1).toNatClampNeg), .int (xs (x3 + 2).toNatClampNeg)]) (rest := [.int z]) C0 hK hI2 hB cw_X9_as ml_L_140 im_X9_as sl_X9_X9_as rfl (by decide) rfl (fun _ => rfl) rfl ⟨Nat.le_of_ble_eq_true rfl, Nat.le_of_ble_eq_true rfl⟩ ⟨by omega, by omega⟩ (Nat.le_of_ble_eq_true rfl) hl.1 dL_law_1154 (fun v n3 h3 ad3 Hh2 locs2 hq2 hle2 had2 hI3 => ?_)
  obtain ⟨rfl, rfl, J2, H2, rfl, hSM⟩ := hq2
  refine W.eq (g2 := F0 m 1157 ls [.int z, .int z]) rfl ?_
  refine lv_icmp_eq (tgt := 1211) hx hb dL_law_1157 (by decide) (fun _ => ?_) (fun c9 => absurd rfl c9)
  refine W.widen (k := cells + 6) (n := slots + 18) (by omega) (by omega) ?_
  exact kk pk1 G1 I2 F2 _ c1 g1 x1 r1 J2 H2 ad1 ad3 _ _ (by omega) (Rel_SM hSM (Rel_SC hSC hR1)) ⟨ww_Ps hI3.1, ww_Ds hI3.2.1, hI3.2.2⟩ (had 0 (by omega)) (had2 0 (by omega))
set_option maxRecDepth 100000 in
set_option maxHeartbeats 4000000 in
theorem lc_trace {p : Program} {l : Launch} {e : Env} {s : State} {m : MethodId} {below : List Frame} {meth : Method} {c : Code} {b L : Nat} {xs : Nat → Int32} {D : va_G} {tc : Nat → ClassId} {H : Heap} {locs : List Loc} {cells slots : Nat} {Q : State → Prop} {pk : Nat → Nat} {G : Nat → Option Nat} {I F : Nat → Nat → Int32} {n c0 : Nat} {g : Nat → Nat} {x r : Nat} {J Hm : Nat → Nat → Int32} {ad ad2 : Nat → Nat} {ls : Array Slot} {x3 : Int32} (C0 : lw_At p s m meth c b L xs) (hK : aw_K D tc s) (hn : 30 ≤ n) (hR : Rel pk G I F n c0 g x r J Hm) (hI : LI D tc s H locs n (hC pk G I F) ad (aw_ws tc ad2 15 (hM J Hm))) (hl : lv_has ls 4 [(3, .int x3), (2, .ref (ad2 0)), (1, .ref (ad 0)), (0, .ref b)]) (hv : ∀ k : Nat, k < 6 → vp_in (x3 + nI k) L) (hc : cells + 6 ≤ 600000 ∧ slots + 18 ≤ 7302250) (kk : LK p l e s m below meth c b D tc cells slots Q ls ad ad2) : W p l e room_1 s m #[Value.ref b] below meth c H locs cells slots Q (F0 m 1162 ls []) := by
  obtain ⟨hx, hb, hr, hml, hown, hts, hX, hbl, hlocks, hgv⟩ := id C0
  have hbA : ¬ LA s b := Nat.not_le.mpr hbl
  obtain ⟨w, pk1, G1, I1, F1, n1, c1, g1, x1, r1, J1, H1, hA, hB, hR1, hn1, hw⟩ := e_trace (l := l) (D := D) (tc := tc) hn hR 
  obtain ⟨z, rfl⟩ := isN_i hw
  refine lv_aload_n hx hb dL_law_1162 rfl (lv_at hl 2 rfl) ?_
  refine lw_call (av := []) (rest := []) C0 hK hI hA cw_X8_trace ml_L_141 im_X8_trace sl_X8_X8_trace rfl (by omega) rfl (fun _ => rfl) rfl ⟨Nat.le_of_ble_eq_true rfl, Nat.le_of_ble_eq_true rfl⟩ ⟨by omega, by omega⟩ (Nat.le_of_ble_eq_true rfl) hl.1 dL_law_1163 (fun v n2 h2 ad1 Hh locs1 hq hle had hI1 => ?_)
  obtain ⟨rfl, rfl, I2, F2, rfl, hSC⟩ := hq
  refine W.eq (g2 := F0 m 1166 ls [.int z]) rfl ?_
  have hI2 : LI D tc s Hh locs1 15 (hM J Hm) ad2 (aw_ws tc ad1 n2 (hC pk1 G1 I2 F2)) := ⟨ww_Ps hI1.1, ww_Ds hI1.2.1, hI1.2.2⟩
  refine lv_aload_n hx hb dL_law_1166 rfl (lv_at hl 1 rfl) ?_
  refine lw_call (av := []) (rest := [.int z]) C0 hK hI2 hB cw_X9_trace ml_L_144 im_X9_trace sl_X9_X9_trace rfl (by decide) rfl (fun _ => rfl) rfl ⟨Nat.le_of_ble_eq_true rfl, Nat.le_of_ble_eq_true rfl⟩ ⟨by omega, by omega⟩ (Nat.le_of_ble_eq_true rfl) hl.1 dL_law_1167 (fun v n3 h3 ad3 Hh2 locs2 hq2 hle2 had2 hI3 => ?_)
  obtain ⟨rfl, rfl, J2, H2, rfl, hSM⟩ := hq2
  refine W.eq (g2 := F0 m 1170 ls [.int z, .int z]) rfl ?_
  refine lv_icmp_eq (tgt := 1211) hx hb dL_law_1170 (by decide) (fun _ => ?_) (fun c9 => absurd rfl c9)
  refine W.widen (k := cells + 6) (n := slots + 18) (by omega) (by omega) ?_
  exact kk pk1 G1 I2 F2 _ c1 g1 x1 r1 J2 H2 ad1 ad3 _ _ (by omega) (Rel_SM hSM (Rel_SC hSC hR1)) ⟨ww_Ps hI3.1, ww_Ds hI3.2.1, hI3.2.2⟩ (had 0 (by omega)) (had2 0 (by omega))
set_option maxRecDepth 100000 in
set_option maxHeartbeats 4000000 in
theorem lc_fault {p : Program} {l : Launch} {e : Env} {s : State} {m : MethodId} {below : List Frame} {meth : Method} {c : Code} {b L : Nat} {xs : Nat → Int32} {D : va_G} {tc : Nat → ClassId} {H : Heap} {locs : List Loc} {cells slots : Nat} {Q : State → Prop} {pk : Nat → Nat} {G : Nat → Option Nat} {I F : Nat → Nat → Int32} {n c0 : Nat} {g : Nat → Nat} {x r : Nat} {J Hm : Nat → Nat → Int32} {ad ad2 : Nat → Nat} {ls : Array Slot} {x3 : Int32} (C0 : lw_At p s m meth c b L xs) (hK : aw_K D tc s) (hn : 30 ≤ n) (hR : Rel pk G I F n c0 g x r J Hm) (hI : LI D tc s H locs n (hC pk G I F) ad (aw_ws tc ad2 15 (hM J Hm))) (hl : lv_has ls 4 [(3, .int x3), (2, .ref (ad2 0)), (1, .ref (ad 0)), (0, .ref b)]) (hv : ∀ k : Nat, k < 6 → vp_in (x3 + nI k) L) (hc : cells + 6 ≤ 600000 ∧ slots + 18 ≤ 7302250) (kk : LK p l e s m below meth c b D tc cells slots Q ls ad ad2) : W p l e room_1 s m #[Value.ref b] below meth c H locs cells slots Q (F0 m 1175 ls []) := by
  obtain ⟨hx, hb, hr, hml, hown, hts, hX, hbl, hlocks, hgv⟩ := id C0
  have hbA : ¬ LA s b := Nat.not_le.mpr hbl
  obtain ⟨w, pk1, G1, I1, F1, n1, c1, g1, x1, r1, J1, H1, hA, hB, hR1, hn1, hw⟩ := e_fault (l := l) (D := D) (tc := tc) hn hR 
  obtain ⟨z, rfl⟩ := isN_i hw
  refine lv_aload_n hx hb dL_law_1175 rfl (lv_at hl 2 rfl) ?_
  refine lw_call (av := []) (rest := []) C0 hK hI hA cw_X8_fault ml_L_145 im_X8_fault sl_X8_X8_fault rfl (by omega) rfl (fun _ => rfl) rfl ⟨Nat.le_of_ble_eq_true rfl, Nat.le_of_ble_eq_true rfl⟩ ⟨by omega, by omega⟩ (Nat.le_of_ble_eq_true rfl) hl.1 dL_law_1176 (fun v n2 h2 ad1 Hh locs1 hq hle had hI1 => ?_)
  obtain ⟨rfl, rfl, I2, F2, rfl, hSC⟩ := hq
  refine W.eq (g2 := F0 m 1179 ls [.int z]) rfl ?_
  have hI2 : LI D tc s Hh locs1 15 (hM J Hm) ad2 (aw_ws tc ad1 n2 (hC pk1 G1 I2 F2)) := ⟨ww_Ps hI1.1, ww_Ds hI1.2.1, hI1.2.2⟩
  refine lv_aload_n hx hb dL_law_1179 rfl (lv_at hl 1 rfl) ?_
  refine lw_call (av := []) (rest := [.int z]) C0 hK hI2 hB cw_X9_fault ml_L_148 im_X9_fault sl_X9_X9_fault rfl (by decide) rfl (fun _ => rfl) rfl ⟨Nat.le_of_ble_eq_true rfl, Nat.le_of_ble_eq_true rfl⟩ ⟨by omega, by omega⟩ (Nat.le_of_ble_eq_true rfl) hl.1 dL_law_1180 (fun v n3 h3 ad3 Hh2 locs2 hq2 hle2 had2 hI3 => ?_)
  obtain ⟨rfl, rfl, J2, H2, rfl, hSM⟩ := hq2
  refine W.eq (g2 := F0 m 1183 ls [.int z, .int z]) rfl ?_
  refine lv_icmp_eq (tgt := 1211) hx hb dL_law_1183 (by decide) (fun _ => ?_) (fun c9 => absurd rfl c9)
  refine W.widen (k := cells + 6) (n := slots + 18) (by omega) (by omega) ?_
  exact kk pk1 G1 I2 F2 _ c1 g1 x1 r1 J2 H2 ad1 ad3 _ _ (by omega) (Rel_SM hSM (Rel_SC hSC hR1)) ⟨ww_Ps hI3.1, ww_Ds hI3.2.1, hI3.2.2⟩ (had 0 (by omega)) (had2 0 (by omega))
set_option maxRecDepth 100000 in
set_option maxHeartbeats 4000000 in
theorem lc_many {p : Program} {l : Launch} {e : Env} {s : State} {m : MethodId} {below : List Frame} {meth : Method} {c : Code} {b L : Nat} {xs : Nat → Int32} {D : va_G} {tc : Nat → ClassId} {H : Heap} {locs : List Loc} {cells slots : Nat} {Q : State → Prop} {pk : Nat → Nat} {G : Nat → Option Nat} {I F : Nat → Nat → Int32} {n c0 : Nat} {g : Nat → Nat} {x r : Nat} {J Hm : Nat → Nat → Int32} {ad ad2 : Nat → Nat} {ls : Array Slot} {x3 : Int32} (C0 : lw_At p s m meth c b L xs) (hK : aw_K D tc s) (hn : 30 ≤ n) (hR : Rel pk G I F n c0 g x r J Hm) (hI : LI D tc s H locs n (hC pk G I F) ad (aw_ws tc ad2 15 (hM J Hm))) (hl : lv_has ls 4 [(3, .int x3), (2, .ref (ad2 0)), (1, .ref (ad 0)), (0, .ref b)]) (hv : ∀ k : Nat, k < 6 → vp_in (x3 + nI k) L) (hc : cells + 6 ≤ 600000 ∧ slots + 18 ≤ 7302250) (kk : LK p l e s m below meth c b D tc cells slots Q ls ad ad2) : W p l e room_1 s m #[Value.ref b] below meth c H locs cells slots Q (F0 m 1188 ls []) := by
  obtain ⟨hx, hb, hr, hml, hown, hts, hX, hbl, hlocks, hgv⟩ := id C0
  have hbA : ¬ LA s b := Nat.not_le.mpr hbl
  obtain ⟨w, pk1, G1, I1, F1, n1, c1, g1, x1, r1, J1, H1, hA, hB, hR1, hn1, hw⟩ := e_many (l := l) (D := D) (tc := tc) hn hR (xs (x3 + 1).toNatClampNeg)
  obtain ⟨z, rfl⟩ := isN_i hw
  refine lv_aload_n hx hb dL_law_1188 rfl (lv_at hl 2 rfl) ?_
  refine lv_aload_n hx hb dL_law_1189 rfl (lv_at hl 3 rfl) ?_
  refine lv_iload_n hx hb dL_law_1190 rfl (lv_at hl 0 rfl) ?_
  refine lv_iconst (v := 1) hx hb dL_law_1191 (by decide) ?_
  refine lv_iadd hx hb dL_law_1192 ?_
  refine va_sld hx hb hX hbl hbA hI.2.2 (hv 1 (by decide)) dL_law_1193 ?_
  refine lw_call (av := [.int (xs (x3 + 1).toNatClampNeg)]) (rest := []) C0 hK hI hA cw_X8_many ml_L_149 im_X8_many sl_X8_X8_many rfl (by omega) rfl (fun _ => rfl) rfl ⟨Nat.le_of_ble_eq_true rfl, Nat.le_of_ble_eq_true rfl⟩ ⟨by omega, by omega⟩ (Nat.le_of_ble_eq_true rfl) hl.1 dL_law_1194 (fun v n2 h2 ad1 Hh locs1 hq hle had hI1 => ?_)
  obtain ⟨rfl, rfl, I2, F2, rfl, hSC⟩ := hq
  refine W.eq (g2 := F0 m 1197 ls [.int z]) rfl ?_
  have hI2 : LI D tc s Hh locs1 15 (hM J Hm) ad2 (aw_ws tc ad1 n2 (hC pk1 G1 I2 F2)) := ⟨ww_Ps hI1.1, ww_Ds hI1.2.1, hI1.2.2⟩
  refine lv_aload_n hx hb dL_law_1197 rfl (lv_at hl 1 rfl) ?_
  refine lv_aload_n hx hb dL_law_1198 rfl (lv_at hl 3 rfl) ?_
  refine lv_iload_n hx hb dL_law_1199 rfl (lv_at hl 0 rfl) ?_
  refine lv_iconst (v := 1) hx hb dL_law_1200 (by decide) ?_
  refine lv_iadd hx hb dL_law_1201 ?_
  refine va_sld hx hb hX hbl hbA hI1.2.2 (hv 1 (by decide)) dL_law_1202 ?_
  refine lw_call (av := [.int (xs (x3 + 1).toNatClampNeg)]) (rest := [.int z]) C0 hK hI2 hB cw_X9_many ml_L_152 im_X9_many sl_X9_X9_many rfl (by decide) rfl (fun _ => rfl) rfl ⟨Nat.le_of_ble_eq_true rfl, Nat.le_of_ble_eq_true rfl⟩ ⟨by omega, by omega⟩ (Nat.le_of_ble_eq_true rfl) hl.1 dL_law_1203 (fun v n3 h3 ad3 Hh2 locs2 hq2 hle2 had2 hI3 => ?_)
  obtain ⟨rfl, rfl, J2, H2, rfl, hSM⟩ := hq2
  refine W.eq (g2 := F0 m 1206 ls [.int z, .int z]) rfl ?_
  refine lv_icmp_eq (tgt := 1211) hx hb dL_law_1206 (by decide) (fun _ => ?_) (fun c9 => absurd rfl c9)
  refine W.widen (k := cells + 6) (n := slots + 18) (by omega) (by omega) ?_
  exact kk pk1 G1 I2 F2 _ c1 g1 x1 r1 J2 H2 ad1 ad3 _ _ (by omega) (Rel_SM hSM (Rel_SC hSC hR1)) ⟨ww_Ps hI3.1, ww_Ds hI3.2.1, hI3.2.2⟩ (had 0 (by omega)) (had2 0 (by omega))
