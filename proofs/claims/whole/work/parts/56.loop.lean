/-! the law's loop -/
theorem six_lt {i L : Nat} (h : L < i + 6) (hL : L ≤ 3072) (hi : i ≤ 3072) : Int32.ofNat L - 6 < nI i := by
  by_cases q : 6 ≤ L
  · obtain ⟨k, rfl⟩ : ∃ k, L = k + 6 := ⟨L - 6, by omega⟩
    have e1 : Int32.ofNat (k + 6) - 6 = nI k := by
      rw [show Int32.ofNat (k + 6) = nI k + 6 from (nI_add k 6).symm, Int32.add_sub_cancel]
    rw [e1]
    exact nI_lt (by omega) (by omega)
  · have e1 : Int32.ofNat L - 6 < 0 := by
      rcases (show L = 0 ∨ L = 1 ∨ L = 2 ∨ L = 3 ∨ L = 4 ∨ L = 5 by omega) with rfl | rfl | rfl | rfl | rfl | rfl <;> decide
    have e2 : 0 ≤ nI i := nI_pos' (by omega)
    exact Int32.lt_of_lt_of_le e1 e2
set_option maxRecDepth 100000 in
set_option maxHeartbeats 4000000 in
theorem law_loop {p : Program} {l : Launch} {e : Env} {s : State} {m : MethodId} {below : List Frame} {meth : Method} {c : Code} {b L : Nat} {xs : Nat → Int32} {D : va_G} {tc : Nat → ClassId} (hL : L ≤ 3072) (C0 : lw_At p s m meth c b L xs) (hK : aw_K D tc s) :
    ∀ (f i : Nat), i ≤ L → L + 1 ≤ i + f → ∀ (pk : Nat → Nat) (G : Nat → Option Nat) (I F : Nat → Nat → Int32) (n c0 : Nat) (g : Nat → Nat) (x r : Nat) (J Hm : Nat → Nat → Int32) (ad ad2 : Nat → Nat) (H : Heap) (locs : List Loc) (ls : Array Slot), 30 ≤ n → Rel pk G I F n c0 g x r J Hm → LI D tc s H locs n (hC pk G I F) ad (aw_ws tc ad2 15 (hM J Hm)) → lv_has ls 4 [(3, .int (nI i)), (2, .ref (ad2 0)), (1, .ref (ad 0)), (0, .ref b)] → W p l e room_1 s m #[Value.ref b] below meth c H locs (45 + i) (893 + 3 * i) (lw_Z below #[Value.ref b] s) (F0 m 18 ls []) := by
  obtain ⟨hx, hb, hr, hml, hown, hts, hX, hbl, hlocks, hgv⟩ := id C0
  have hbA : ¬ LA s b := Nat.not_le.mpr hbl
  intro f
  induction f with
  | zero =>
    intro i h1 h2
    exact absurd h2 (by omega)
  | succ f ih =>
    intro i hi hf pk G I F n c0 g x r J Hm ad ad2 H locs ls hn hR hI hl
    refine lv_iload_n hx hb dL_law_18 rfl (lv_at hl 0 rfl) ?_
    refine lv_aload_n hx hb dL_law_19 rfl (lv_at hl 3 rfl) ?_
    refine va_slen hx hb hX hbl hbA hI.2.2 dL_law_20 ?_
    refine lv_bipush (v := 6) hx hb dL_law_21 (by decide) ?_
    refine lv_isub hx hb dL_law_23 ?_
    refine lv_icmp_gt (tgt := 1217) hx hb dL_law_24 (by decide) (fun _ => ?_) (fun c9 => ?_)
    · refine lv_iconst (v := 1) hx hb dL_law_1217 (by decide) ?_
      refine va_forget (fun q hq => hI.2.2.2.2 q hq) ?_
      refine W.widen (k := 600000) (n := 7302250) (by omega) (by omega) ?_
      exact lw_ret hx hb hr hlocks dL_law_1218
    · have h6 : i + 6 ≤ L := Nat.not_lt.mp fun q => c9 (six_lt q hL (by omega))
      have hv : ∀ k : Nat, k < 6 → vp_in (nI i + nI k) L := fun k hk => by
        rw [nI_add]
        exact vp_in_nI (by omega) (by omega)
      have kk : LK p l e s m below meth c b D tc (45 + i) (893 + 3 * i) (lw_Z below #[Value.ref b] s) ls ad ad2 := by
        intro pk1 G1 I1 F1 n1 c1 g1 x1 r1 J1 H1 ad1 ad3 Hh locs1 hn1 hR1 hI1 e1 e2
        refine lv_iinc (v := nI (i + 6)) (lv' := [(3, .int (nI (i + 6))), (2, .ref (ad2 0)), (1, .ref (ad 0)), (0, .ref b)]) hx hb dL_law_1211 hl (k := 0) rfl (nI_add i 6) (by decide) rfl (fun ls' hl' => ?_)
        refine lv_goto (tgt := 18) hx hb dL_law_1214 (by decide) ?_
        have := ih (i + 6) (by omega) (by omega) pk1 G1 I1 F1 n1 c1 g1 x1 r1 J1 H1 ad1 ad3 Hh locs1 ls' hn1 hR1 hI1 (by rw [e1, e2]; exact hl')
        rw [show 45 + (i + 6) = 45 + i + 6 by omega, show 893 + 3 * (i + 6) = 893 + 3 * i + 18 by omega] at this
        exact this
      refine lv_aload_n hx hb dL_law_27 rfl (lv_at hl 3 rfl) ?_
      refine lv_iload_n hx hb dL_law_28 rfl (lv_at hl 0 rfl) ?_
      refine va_sld hx hb hX hbl hbA hI.2.2 (vp_in_nI (by omega) (by omega)) dL_law_29 ?_
      refine lv_bipush (v := 63) hx hb dL_law_30 (by decide) ?_
      refine lv_iand hx hb dL_law_32 ?_
      generalize xs (nI i).toNatClampNeg &&& 63 = v
      by_cases ho : v.toInt < 0 ∨ 32 < v.toInt
      · refine lv_tableOut (tgt := 1211) hx hb dL_law_33 ho (by decide) ?_
        refine W.widen (k := 45 + i + 6) (n := 893 + 3 * i + 18) (by omega) (by omega) ?_
        exact kk pk G I F n c0 g x r J Hm ad ad2 H locs hn hR hI rfl rfl
      obtain ⟨j, hj, ej⟩ : ∃ j : Nat, j ≤ 32 ∧ v.toInt = (j : Int) := ⟨v.toInt.toNat, by omega, by omega⟩
      rcases (show j = 0 ∨ j = 1 ∨ j = 2 ∨ j = 3 ∨ j = 4 ∨ j = 5 ∨ j = 6 ∨ j = 7 ∨ j = 8 ∨ j = 9 ∨ j = 10 ∨ j = 11 ∨ j = 12 ∨ j = 13 ∨ j = 14 ∨ j = 15 ∨ j = 16 ∨ j = 17 ∨ j = 18 ∨ j = 19 ∨ j = 20 ∨ j = 21 ∨ j = 22 ∨ j = 23 ∨ j = 24 ∨ j = 25 ∨ j = 26 ∨ j = 27 ∨ j = 28 ∨ j = 29 ∨ j = 30 ∨ j = 31 ∨ j = 32 by omega) with rfl | rfl | rfl | rfl | rfl | rfl | rfl | rfl | rfl | rfl | rfl | rfl | rfl | rfl | rfl | rfl | rfl | rfl | rfl | rfl | rfl | rfl | rfl | rfl | rfl | rfl | rfl | rfl | rfl | rfl | rfl | rfl | rfl
      · refine lv_tableIn (off := 147) (tgt := 180) hx hb dL_law_33 (by omega) (by omega) (by rw [ej]; rfl) (by decide) ?_
        exact lc_line C0 hK hn hR hI hl hv ⟨by omega, by omega⟩ kk
      · refine lv_tableIn (off := 200) (tgt := 233) hx hb dL_law_33 (by omega) (by omega) (by rw [ej]; rfl) (by decide) ?_
        exact lc_ofPerson C0 hK hn hR hI hl hv ⟨by omega, by omega⟩ kk
      · refine lv_tableIn (off := 233) (tgt := 266) hx hb dL_law_33 (by omega) (by omega) (by rw [ej]; rfl) (by decide) ?_
        exact lc_hurry C0 hK hn hR hI hl hv ⟨by omega, by omega⟩ kk
      · refine lv_tableIn (off := 266) (tgt := 299) hx hb dL_law_33 (by omega) (by omega) (by rw [ej]; rfl) (by decide) ?_
        exact lc_wall C0 hK hn hR hI hl hv ⟨by omega, by omega⟩ kk
      · refine lv_tableIn (off := 299) (tgt := 332) hx hb dL_law_33 (by omega) (by omega) (by rw [ej]; rfl) (by decide) ?_
        exact lc_lease C0 hK hn hR hI hl hv ⟨by omega, by omega⟩ kk
      · refine lv_tableIn (off := 322) (tgt := 355) hx hb dL_law_33 (by omega) (by omega) (by rw [ej]; rfl) (by decide) ?_
        exact lc_go C0 hK hn hR hI hl hv ⟨by omega, by omega⟩ kk
      · refine lv_tableIn (off := 335) (tgt := 368) hx hb dL_law_33 (by omega) (by omega) (by rw [ej]; rfl) (by decide) ?_
        exact lc_morning C0 hK hn hR hI hl hv ⟨by omega, by omega⟩ kk
      · refine lv_tableIn (off := 348) (tgt := 381) hx hb dL_law_33 (by omega) (by omega) (by rw [ej]; rfl) (by decide) ?_
        exact lc_owes C0 hK hn hR hI hl hv ⟨by omega, by omega⟩ kk
      · refine lv_tableIn (off := 381) (tgt := 414) hx hb dL_law_33 (by omega) (by omega) (by rw [ej]; rfl) (by decide) ?_
        exact lc_pays C0 hK hn hR hI hl hv ⟨by omega, by omega⟩ kk
      · refine lv_tableIn (off := 424) (tgt := 457) hx hb dL_law_33 (by omega) (by omega) (by rw [ej]; rfl) (by decide) ?_
        exact lc_calls C0 hK hn hR hI hl hv ⟨by omega, by omega⟩ kk
      · refine lv_tableIn (off := 487) (tgt := 520) hx hb dL_law_33 (by omega) (by omega) (by rw [ej]; rfl) (by decide) ?_
        exact lc_order C0 hK hn hR hI hl hv ⟨by omega, by omega⟩ kk
      · refine lv_tableIn (off := 520) (tgt := 553) hx hb dL_law_33 (by omega) (by omega) (by rw [ej]; rfl) (by decide) ?_
        exact lc_loss C0 hK hn hR hI hl hv ⟨by omega, by omega⟩ kk
      · refine lv_tableIn (off := 543) (tgt := 576) hx hb dL_law_33 (by omega) (by omega) (by rw [ej]; rfl) (by decide) ?_
        exact lc_let C0 hK hn hR hI hl hv ⟨by omega, by omega⟩ kk
      · refine lv_tableIn (off := 576) (tgt := 609) hx hb dL_law_33 (by omega) (by omega) (by rw [ej]; rfl) (by decide) ?_
        exact lc_balance C0 hK hn hR hI hl hv ⟨by omega, by omega⟩ kk
      · refine lv_tableIn (off := 599) (tgt := 632) hx hb dL_law_33 (by omega) (by omega) (by rw [ej]; rfl) (by decide) ?_
        exact lc_cleared C0 hK hn hR hI hl hv ⟨by omega, by omega⟩ kk
      · refine lv_tableIn (off := 622) (tgt := 655) hx hb dL_law_33 (by omega) (by omega) (by rw [ej]; rfl) (by decide) ?_
        exact lc_were C0 hK hn hR hI hl hv ⟨by omega, by omega⟩ kk
      · refine lv_tableIn (off := 665) (tgt := 698) hx hb dL_law_33 (by omega) (by omega) (by rw [ej]; rfl) (by decide) ?_
        exact lc_reading C0 hK hn hR hI hl hv ⟨by omega, by omega⟩ kk
      · refine lv_tableIn (off := 708) (tgt := 741) hx hb dL_law_33 (by omega) (by omega) (by rw [ej]; rfl) (by decide) ?_
        exact lc_back C0 hK hn hR hI hl hv ⟨by omega, by omega⟩ kk
      · refine lv_tableIn (off := 731) (tgt := 764) hx hb dL_law_33 (by omega) (by omega) (by rw [ej]; rfl) (by decide) ?_
        exact lc_hastes C0 hK hn hR hI hl hv ⟨by omega, by omega⟩ kk
      · refine lv_tableIn (off := 754) (tgt := 787) hx hb dL_law_33 (by omega) (by omega) (by rw [ej]; rfl) (by decide) ?_
        exact lc_rooms C0 hK hn hR hI hl hv ⟨by omega, by omega⟩ kk
      · refine lv_tableIn (off := 777) (tgt := 810) hx hb dL_law_33 (by omega) (by omega) (by rw [ej]; rfl) (by decide) ?_
        exact lc_kinds C0 hK hn hR hI hl hv ⟨by omega, by omega⟩ kk
      · refine lv_tableIn (off := 800) (tgt := 833) hx hb dL_law_33 (by omega) (by omega) (by rw [ej]; rfl) (by decide) ?_
        exact lc_odds C0 hK hn hR hI hl hv ⟨by omega, by omega⟩ kk
      · refine lv_tableIn (off := 834) (tgt := 867) hx hb dL_law_33 (by omega) (by omega) (by rw [ej]; rfl) (by decide) ?_
        exact lc_sheet C0 hK hn hR hI hl hv ⟨by omega, by omega⟩ kk
      · refine lv_tableIn (off := 877) (tgt := 910) hx hb dL_law_33 (by omega) (by omega) (by rw [ej]; rfl) (by decide) ?_
        exact lc_lose C0 hK hn hR hI hl hv ⟨by omega, by omega⟩ kk
      · refine lv_tableIn (off := 900) (tgt := 933) hx hb dL_law_33 (by omega) (by omega) (by rw [ej]; rfl) (by decide) ?_
        exact lc_put C0 hK hn hR hI hl hv ⟨by omega, by omega⟩ kk
      · refine lv_tableIn (off := 943) (tgt := 976) hx hb dL_law_33 (by omega) (by omega) (by rw [ej]; rfl) (by decide) ?_
        exact lc_cell C0 hK hn hR hI hl hv ⟨by omega, by omega⟩ kk
      · refine lv_tableIn (off := 987) (tgt := 1020) hx hb dL_law_33 (by omega) (by omega) (by rw [ej]; rfl) (by decide) ?_
        exact lc_copy C0 hK hn hR hI hl hv ⟨by omega, by omega⟩ kk
      · refine lv_tableIn (off := 1050) (tgt := 1083) hx hb dL_law_33 (by omega) (by omega) (by rw [ej]; rfl) (by decide) ?_
        exact lc_tell C0 hK hn hR hI hl hv ⟨by omega, by omega⟩ kk
      · refine lv_tableIn (off := 1073) (tgt := 1106) hx hb dL_law_33 (by omega) (by omega) (by rw [ej]; rfl) (by decide) ?_
        exact lc_hear C0 hK hn hR hI hl hv ⟨by omega, by omega⟩ kk
      · refine lv_tableIn (off := 1096) (tgt := 1129) hx hb dL_law_33 (by omega) (by omega) (by rw [ej]; rfl) (by decide) ?_
        exact lc_as C0 hK hn hR hI hl hv ⟨by omega, by omega⟩ kk
      · refine lv_tableIn (off := 1129) (tgt := 1162) hx hb dL_law_33 (by omega) (by omega) (by rw [ej]; rfl) (by decide) ?_
        exact lc_trace C0 hK hn hR hI hl hv ⟨by omega, by omega⟩ kk
      · refine lv_tableIn (off := 1142) (tgt := 1175) hx hb dL_law_33 (by omega) (by omega) (by rw [ej]; rfl) (by decide) ?_
        exact lc_fault C0 hK hn hR hI hl hv ⟨by omega, by omega⟩ kk
      · refine lv_tableIn (off := 1155) (tgt := 1188) hx hb dL_law_33 (by omega) (by omega) (by rw [ej]; rfl) (by decide) ?_
        exact lc_many C0 hK hn hR hI hl hv ⟨by omega, by omega⟩ kk
