/-- behind a case -/
def LK (p : Program) (l : Launch) (e : Env) (s : State) (m : MethodId) (below : List Frame) (meth : Method) (c : Code) (b : Nat) (D : va_G) (tc : Nat → ClassId) (cells slots : Nat) (Q : State → Prop) (ls : Array Slot) (ad ad2 : Nat → Nat) : Prop :=
  ∀ (pk1 : Nat → Nat) (G1 : Nat → Option Nat) (I1 F1 : Nat → Nat → Int32) (n1 c1 : Nat) (g1 : Nat → Nat) (x1 r1 : Nat) (J1 H1 : Nat → Nat → Int32) (ad1 ad3 : Nat → Nat) (Hh : Heap) (locs1 : List Loc), 30 ≤ n1 → Rel pk1 G1 I1 F1 n1 c1 g1 x1 r1 J1 H1 → LI D tc s Hh locs1 n1 (hC pk1 G1 I1 F1) ad1 (aw_ws tc ad3 15 (hM J1 H1)) → ad1 0 = ad 0 → ad3 0 = ad2 0 → W p l e room_1 s m #[Value.ref b] below meth c Hh locs1 (cells + 6) (slots + 18) Q (F0 m 1211 ls [])
theorem lg_same (x : Int64) : lg_cmp x x = 0 := (lg_cmp_eq x x).mpr rfl
set_option maxRecDepth 100000 in
set_option maxHeartbeats 4000000 in
theorem lc_line {p : Program} {l : Launch} {e : Env} {s : State} {m : MethodId} {below : List Frame} {meth : Method} {c : Code} {b L : Nat} {xs : Nat → Int32} {D : va_G} {tc : Nat → ClassId} {H : Heap} {locs : List Loc} {cells slots : Nat} {Q : State → Prop} {pk : Nat → Nat} {G : Nat → Option Nat} {I F : Nat → Nat → Int32} {n c0 : Nat} {g : Nat → Nat} {x r : Nat} {J Hm : Nat → Nat → Int32} {ad ad2 : Nat → Nat} {ls : Array Slot} {x3 : Int32} (C0 : lw_At p s m meth c b L xs) (hK : aw_K D tc s) (hn : 30 ≤ n) (hR : Rel pk G I F n c0 g x r J Hm) (hI : LI D tc s H locs n (hC pk G I F) ad (aw_ws tc ad2 15 (hM J Hm))) (hl : lv_has ls 4 [(3, .int x3), (2, .ref (ad2 0)), (1, .ref (ad 0)), (0, .ref b)]) (hv : ∀ k : Nat, k < 6 → vp_in (x3 + nI k) L) (hc : cells + 6 ≤ 600000 ∧ slots + 18 ≤ 7302250) (kk : LK p l e s m below meth c b D tc cells slots Q ls ad ad2) : W p l e room_1 s m #[Value.ref b] below meth c H locs cells slots Q (F0 m 180 ls []) := by
  obtain ⟨hx, hb, hr, hml, hown, hts, hX, hbl, hlocks, hgv⟩ := id C0
  have hbA : ¬ LA s b := Nat.not_le.mpr hbl
  obtain ⟨w, pk1, G1, I1, F1, n1, c1, g1, x1, r1, J1, H1, hA, hB, hR1, hn1, hw⟩ := e_line (l := l) (D := D) (tc := tc) hn hR (xs (x3 + 1).toNatClampNeg) (xs (x3 + 2).toNatClampNeg) (xs (x3 + 3).toNatClampNeg) (xs (x3 + 4).toNatClampNeg)
  obtain ⟨z, rfl⟩ := isN_i hw
  refine lv_aload_n hx hb dL_law_180 rfl (lv_at hl 2 rfl) ?_
  refine lv_aload_n hx hb dL_law_181 rfl (lv_at hl 3 rfl) ?_
  refine lv_iload_n hx hb dL_law_182 rfl (lv_at hl 0 rfl) ?_
  refine lv_iconst (v := 1) hx hb dL_law_183 (by decide) ?_
  refine lv_iadd hx hb dL_law_184 ?_
  refine va_sld hx hb hX hbl hbA hI.2.2 (hv 1 (by decide)) dL_law_185 ?_
  refine lv_aload_n hx hb dL_law_186 rfl (lv_at hl 3 rfl) ?_
  refine lv_iload_n hx hb dL_law_187 rfl (lv_at hl 0 rfl) ?_
  refine lv_iconst (v := 2) hx hb dL_law_188 (by decide) ?_
  refine lv_iadd hx hb dL_law_189 ?_
  refine va_sld hx hb hX hbl hbA hI.2.2 (hv 2 (by decide)) dL_law_190 ?_
  refine lv_aload_n hx hb dL_law_191 rfl (lv_at hl 3 rfl) ?_
  refine lv_iload_n hx hb dL_law_192 rfl (lv_at hl 0 rfl) ?_
  refine lv_iconst (v := 3) hx hb dL_law_193 (by decide) ?_
  refine lv_iadd hx hb dL_law_194 ?_
  refine va_sld hx hb hX hbl hbA hI.2.2 (hv 3 (by decide)) dL_law_195 ?_
  refine lv_aload_n hx hb dL_law_196 rfl (lv_at hl 3 rfl) ?_
  refine lv_iload_n hx hb dL_law_197 rfl (lv_at hl 0 rfl) ?_
  refine lv_iconst (v := 4) hx hb dL_law_198 (by decide) ?_
  refine lv_iadd hx hb dL_law_199 ?_
  refine va_sld hx hb hX hbl hbA hI.2.2 (hv 4 (by decide)) dL_law_200 ?_
  refine lw_call (av := [.int (xs (x3 + 1).toNatClampNeg), .int (xs (x3 + 2).toNatClampNeg), .int (xs (x3 + 3).toNatClampNeg), .int (xs (x3 + 4).toNatClampNeg)]) (rest := []) C0 hK hI hA cw_X8_line ml_L_13 im_X8_line sl_X8_X8_line rfl (by omega) rfl (fun _ => rfl) rfl ⟨Nat.le_of_ble_eq_true rfl, Nat.le_of_ble_eq_true rfl⟩ ⟨by omega, by omega⟩ (Nat.le_of_ble_eq_true rfl) hl.1 dL_law_201 (fun v n2 h2 ad1 Hh locs1 hq hle had hI1 => ?_)
  obtain ⟨rfl, rfl, I2, F2, rfl, hSC⟩ := hq
  refine W.eq (g2 := F0 m 204 ls [.int z]) rfl ?_
  have hI2 : LI D tc s Hh locs1 15 (hM J Hm) ad2 (aw_ws tc ad1 n2 (hC pk1 G1 I2 F2)) := ⟨ww_Ps hI1.1, ww_Ds hI1.2.1, hI1.2.2⟩
  refine lv_aload_n hx hb dL_law_204 rfl (lv_at hl 1 rfl) ?_
  refine lv_aload_n hx hb dL_law_205 rfl (lv_at hl 3 rfl) ?_
  refine lv_iload_n hx hb dL_law_206 rfl (lv_at hl 0 rfl) ?_
  refine lv_iconst (v := 1) hx hb dL_law_207 (by decide) ?_
  refine lv_iadd hx hb dL_law_208 ?_
  refine va_sld hx hb hX hbl hbA hI1.2.2 (hv 1 (by decide)) dL_law_209 ?_
  refine lv_aload_n hx hb dL_law_210 rfl (lv_at hl 3 rfl) ?_
  refine lv_iload_n hx hb dL_law_211 rfl (lv_at hl 0 rfl) ?_
  refine lv_iconst (v := 2) hx hb dL_law_212 (by decide) ?_
  refine lv_iadd hx hb dL_law_213 ?_
  refine va_sld hx hb hX hbl hbA hI1.2.2 (hv 2 (by decide)) dL_law_214 ?_
  refine lv_aload_n hx hb dL_law_215 rfl (lv_at hl 3 rfl) ?_
  refine lv_iload_n hx hb dL_law_216 rfl (lv_at hl 0 rfl) ?_
  refine lv_iconst (v := 3) hx hb dL_law_217 (by decide) ?_
  refine lv_iadd hx hb dL_law_218 ?_
  refine va_sld hx hb hX hbl hbA hI1.2.2 (hv 3 (by decide)) dL_law_219 ?_
  refine lv_aload_n hx hb dL_law_220 rfl (lv_at hl 3 rfl) ?_
  refine lv_iload_n hx hb dL_law_221 rfl (lv_at hl 0 rfl) ?_
  refine lv_iconst (v := 4) hx hb dL_law_222 (by decide) ?_
  refine lv_iadd hx hb dL_law_223 ?_
  refine va_sld hx hb hX hbl hbA hI1.2.2 (hv 4 (by decide)) dL_law_224 ?_
  refine lw_call (av := [.int (xs (x3 + 1).toNatClampNeg), .int (xs (x3 + 2).toNatClampNeg), .int (xs (x3 + 3).toNatClampNeg), .int (xs (x3 + 4).toNatClampNeg)]) (rest := [.int z]) C0 hK hI2 hB cw_X9_line ml_L_17 im_X9_line sl_X9_X9_line rfl (by decide) rfl (fun _ => rfl) rfl ⟨Nat.le_of_ble_eq_true rfl, Nat.le_of_ble_eq_true rfl⟩ ⟨by omega, by omega⟩ (Nat.le_of_ble_eq_true rfl) hl.1 dL_law_225 (fun v n3 h3 ad3 Hh2 locs2 hq2 hle2 had2 hI3 => ?_)
  obtain ⟨rfl, rfl, J2, H2, rfl, hSM⟩ := hq2
  refine W.eq (g2 := F0 m 228 ls [.int z, .int z]) rfl ?_
  refine lv_icmp_eq (tgt := 1211) hx hb dL_law_228 (by decide) (fun _ => ?_) (fun c9 => absurd rfl c9)
  refine W.widen (k := cells + 6) (n := slots + 18) (by omega) (by omega) ?_
  exact kk pk1 G1 I2 F2 _ c1 g1 x1 r1 J2 H2 ad1 ad3 _ _ (by omega) (Rel_SM hSM (Rel_SC hSC hR1)) ⟨ww_Ps hI3.1, ww_Ds hI3.2.1, hI3.2.2⟩ (had 0 (by omega)) (had2 0 (by omega))
set_option maxRecDepth 100000 in
set_option maxHeartbeats 4000000 in
theorem lc_ofPerson {p : Program} {l : Launch} {e : Env} {s : State} {m : MethodId} {below : List Frame} {meth : Method} {c : Code} {b L : Nat} {xs : Nat → Int32} {D : va_G} {tc : Nat → ClassId} {H : Heap} {locs : List Loc} {cells slots : Nat} {Q : State → Prop} {pk : Nat → Nat} {G : Nat → Option Nat} {I F : Nat → Nat → Int32} {n c0 : Nat} {g : Nat → Nat} {x r : Nat} {J Hm : Nat → Nat → Int32} {ad ad2 : Nat → Nat} {ls : Array Slot} {x3 : Int32} (C0 : lw_At p s m meth c b L xs) (hK : aw_K D tc s) (hn : 30 ≤ n) (hR : Rel pk G I F n c0 g x r J Hm) (hI : LI D tc s H locs n (hC pk G I F) ad (aw_ws tc ad2 15 (hM J Hm))) (hl : lv_has ls 4 [(3, .int x3), (2, .ref (ad2 0)), (1, .ref (ad 0)), (0, .ref b)]) (hv : ∀ k : Nat, k < 6 → vp_in (x3 + nI k) L) (hc : cells + 6 ≤ 600000 ∧ slots + 18 ≤ 7302250) (kk : LK p l e s m below meth c b D tc cells slots Q ls ad ad2) : W p l e room_1 s m #[Value.ref b] below meth c H locs cells slots Q (F0 m 233 ls []) := by
  obtain ⟨hx, hb, hr, hml, hown, hts, hX, hbl, hlocks, hgv⟩ := id C0
  have hbA : ¬ LA s b := Nat.not_le.mpr hbl
  obtain ⟨w, pk1, G1, I1, F1, n1, c1, g1, x1, r1, J1, H1, hA, hB, hR1, hn1, hw⟩ := e_ofPerson (l := l) (D := D) (tc := tc) hn hR (xs (x3 + 1).toNatClampNeg) (xs (x3 + 2).toNatClampNeg)
  obtain ⟨z, rfl⟩ := isN_i hw
  refine lv_aload_n hx hb dL_law_233 rfl (lv_at hl 2 rfl) ?_
  refine lv_aload_n hx hb dL_law_234 rfl (lv_at hl 3 rfl) ?_
  refine lv_iload_n hx hb dL_law_235 rfl (lv_at hl 0 rfl) ?_
  refine lv_iconst (v := 1) hx hb dL_law_236 (by decide) ?_
  refine lv_iadd hx hb dL_law_237 ?_
  refine va_sld hx hb hX hbl hbA hI.2.2 (hv 1 (by decide)) dL_law_238 ?_
  refine lv_aload_n hx hb dL_law_239 rfl (lv_at hl 3 rfl) ?_
  refine lv_iload_n hx hb dL_law_240 rfl (lv_at hl 0 rfl) ?_
  refine lv_iconst (v := 2) hx hb dL_law_241 (by decide) ?_
  refine lv_iadd hx hb dL_law_242 ?_
  refine va_sld hx hb hX hbl hbA hI.2.2 (hv 2 (by decide)) dL_law_243 ?_
  refine lw_call (av := [.int (xs (x3 + 1).toNatClampNeg), .int (xs (x3 + 2).toNatClampNeg)]) (rest := []) C0 hK hI hA cw_X8_ofPerson ml_L_18 im_X8_ofPerson sl_X8_X8_ofPerson rfl (by omega) rfl (fun _ => rfl) rfl ⟨Nat.le_of_ble_eq_true rfl, Nat.le_of_ble_eq_true rfl⟩ ⟨by omega, by omega⟩ (Nat.le_of_ble_eq_true rfl) hl.1 dL_law_244 (fun v n2 h2 ad1 Hh locs1 hq hle had hI1 => ?_)
  obtain ⟨rfl, rfl, I2, F2, rfl, hSC⟩ := hq
  refine W.eq (g2 := F0 m 247 ls [.int z]) rfl ?_
  have hI2 : LI D tc s Hh locs1 15 (hM J Hm) ad2 (aw_ws tc ad1 n2 (hC pk1 G1 I2 F2)) := ⟨ww_Ps hI1.1, ww_Ds hI1.2.1, hI1.2.2⟩
  refine lv_aload_n hx hb dL_law_247 rfl (lv_at hl 1 rfl) ?_
  refine lv_aload_n hx hb dL_law_248 rfl (lv_at hl 3 rfl) ?_
  refine lv_iload_n hx hb dL_law_249 rfl (lv_at hl 0 rfl) ?_
  refine lv_iconst (v := 1) hx hb dL_law_250 (by decide) ?_
  refine lv_iadd hx hb dL_law_251 ?_
  refine va_sld hx hb hX hbl hbA hI1.2.2 (hv 1 (by decide)) dL_law_252 ?_
  refine lv_aload_n hx hb dL_law_253 rfl (lv_at hl 3 rfl) ?_
  refine lv_iload_n hx hb dL_law_254 rfl (lv_at hl 0 rfl) ?_
  refine lv_iconst (v := 2) hx hb dL_law_255 (by decide) ?_
  refine lv_iadd hx hb dL_law_256 ?_
  refine va_sld hx hb hX hbl hbA hI1.2.2 (hv 2 (by decide)) dL_law_257 ?_
  refine lw_call (av := [.int (xs (x3 + 1).toNatClampNeg), .int (xs (x3 + 2).toNatClampNeg)]) (rest := [.int z]) C0 hK hI2 hB cw_X9_ofPerson ml_L_22 im_X9_ofPerson sl_X9_X9_ofPerson rfl (by decide) rfl (fun _ => rfl) rfl ⟨Nat.le_of_ble_eq_true rfl, Nat.le_of_ble_eq_true rfl⟩ ⟨by omega, by omega⟩ (Nat.le_of_ble_eq_true rfl) hl.1 dL_law_258 (fun v n3 h3 ad3 Hh2 locs2 hq2 hle2 had2 hI3 => ?_)
  obtain ⟨rfl, rfl, J2, H2, rfl, hSM⟩ := hq2
  refine W.eq (g2 := F0 m 261 ls [.int z, .int z]) rfl ?_
  refine lv_icmp_eq (tgt := 1211) hx hb dL_law_261 (by decide) (fun _ => ?_) (fun c9 => absurd rfl c9)
  refine W.widen (k := cells + 6) (n := slots + 18) (by omega) (by omega) ?_
  exact kk pk1 G1 I2 F2 _ c1 g1 x1 r1 J2 H2 ad1 ad3 _ _ (by omega) (Rel_SM hSM (Rel_SC hSC hR1)) ⟨ww_Ps hI3.1, ww_Ds hI3.2.1, hI3.2.2⟩ (had 0 (by omega)) (had2 0 (by omega))
set_option maxRecDepth 100000 in
set_option maxHeartbeats 4000000 in
theorem lc_hurry {p : Program} {l : Launch} {e : Env} {s : State} {m : MethodId} {below : List Frame} {meth : Method} {c : Code} {b L : Nat} {xs : Nat → Int32} {D : va_G} {tc : Nat → ClassId} {H : Heap} {locs : List Loc} {cells slots : Nat} {Q : State → Prop} {pk : Nat → Nat} {G : Nat → Option Nat} {I F : Nat → Nat → Int32} {n c0 : Nat} {g : Nat → Nat} {x r : Nat} {J Hm : Nat → Nat → Int32} {ad ad2 : Nat → Nat} {ls : Array Slot} {x3 : Int32} (C0 : lw_At p s m meth c b L xs) (hK : aw_K D tc s) (hn : 30 ≤ n) (hR : Rel pk G I F n c0 g x r J Hm) (hI : LI D tc s H locs n (hC pk G I F) ad (aw_ws tc ad2 15 (hM J Hm))) (hl : lv_has ls 4 [(3, .int x3), (2, .ref (ad2 0)), (1, .ref (ad 0)), (0, .ref b)]) (hv : ∀ k : Nat, k < 6 → vp_in (x3 + nI k) L) (hc : cells + 6 ≤ 600000 ∧ slots + 18 ≤ 7302250) (kk : LK p l e s m below meth c b D tc cells slots Q ls ad ad2) : W p l e room_1 s m #[Value.ref b] below meth c H locs cells slots Q (F0 m 266 ls []) := by
  obtain ⟨hx, hb, hr, hml, hown, hts, hX, hbl, hlocks, hgv⟩ := id C0
  have hbA : ¬ LA s b := Nat.not_le.mpr hbl
  obtain ⟨w, pk1, G1, I1, F1, n1, c1, g1, x1, r1, J1, H1, hA, hB, hR1, hn1, hw⟩ := e_hurry (l := l) (D := D) (tc := tc) hn hR (xs (x3 + 1).toNatClampNeg) (xs (x3 + 2).toNatClampNeg)
  obtain ⟨z, rfl⟩ := isN_i hw
  refine lv_aload_n hx hb dL_law_266 rfl (lv_at hl 2 rfl) ?_
  refine lv_aload_n hx hb dL_law_267 rfl (lv_at hl 3 rfl) ?_
  refine lv_iload_n hx hb dL_law_268 rfl (lv_at hl 0 rfl) ?_
  refine lv_iconst (v := 1) hx hb dL_law_269 (by decide) ?_
  refine lv_iadd hx hb dL_law_270 ?_
  refine va_sld hx hb hX hbl hbA hI.2.2 (hv 1 (by decide)) dL_law_271 ?_
  refine lv_aload_n hx hb dL_law_272 rfl (lv_at hl 3 rfl) ?_
  refine lv_iload_n hx hb dL_law_273 rfl (lv_at hl 0 rfl) ?_
  refine lv_iconst (v := 2) hx hb dL_law_274 (by decide) ?_
  refine lv_iadd hx hb dL_law_275 ?_
  refine va_sld hx hb hX hbl hbA hI.2.2 (hv 2 (by decide)) dL_law_276 ?_
  refine lw_call (av := [.int (xs (x3 + 1).toNatClampNeg), .int (xs (x3 + 2).toNatClampNeg)]) (rest := []) C0 hK hI hA cw_X8_hurry ml_L_23 im_X8_hurry sl_X8_X8_hurry rfl (by omega) rfl (fun _ => rfl) rfl ⟨Nat.le_of_ble_eq_true rfl, Nat.le_of_ble_eq_true rfl⟩ ⟨by omega, by omega⟩ (Nat.le_of_ble_eq_true rfl) hl.1 dL_law_277 (fun v n2 h2 ad1 Hh locs1 hq hle had hI1 => ?_)
  obtain ⟨rfl, rfl, I2, F2, rfl, hSC⟩ := hq
  refine W.eq (g2 := F0 m 280 ls [.int z]) rfl ?_
  have hI2 : LI D tc s Hh locs1 15 (hM J Hm) ad2 (aw_ws tc ad1 n2 (hC pk1 G1 I2 F2)) := ⟨ww_Ps hI1.1, ww_Ds hI1.2.1, hI1.2.2⟩
  refine lv_aload_n hx hb dL_law_280 rfl (lv_at hl 1 rfl) ?_
  refine lv_aload_n hx hb dL_law_281 rfl (lv_at hl 3 rfl) ?_
  refine lv_iload_n hx hb dL_law_282 rfl (lv_at hl 0 rfl) ?_
  refine lv_iconst (v := 1) hx hb dL_law_283 (by decide) ?_
  refine lv_iadd hx hb dL_law_284 ?_
  refine va_sld hx hb hX hbl hbA hI1.2.2 (hv 1 (by decide)) dL_law_285 ?_
  refine lv_aload_n hx hb dL_law_286 rfl (lv_at hl 3 rfl) ?_
  refine lv_iload_n hx hb dL_law_287 rfl (lv_at hl 0 rfl) ?_
  refine lv_iconst (v := 2) hx hb dL_law_288 (by decide) ?_
  refine lv_iadd hx hb dL_law_289 ?_
  refine va_sld hx hb hX hbl hbA hI1.2.2 (hv 2 (by decide)) dL_law_290 ?_
  refine lw_call (av := [.int (xs (x3 + 1).toNatClampNeg), .int (xs (x3 + 2).toNatClampNeg)]) (rest := [.int z]) C0 hK hI2 hB cw_X9_hurry ml_L_26 im_X9_hurry sl_X9_X9_hurry rfl (by decide) rfl (fun _ => rfl) rfl ⟨Nat.le_of_ble_eq_true rfl, Nat.le_of_ble_eq_true rfl⟩ ⟨by omega, by omega⟩ (Nat.le_of_ble_eq_true rfl) hl.1 dL_law_291 (fun v n3 h3 ad3 Hh2 locs2 hq2 hle2 had2 hI3 => ?_)
  obtain ⟨rfl, rfl, J2, H2, rfl, hSM⟩ := hq2
  refine W.eq (g2 := F0 m 294 ls [.int z, .int z]) rfl ?_
  refine lv_icmp_eq (tgt := 1211) hx hb dL_law_294 (by decide) (fun _ => ?_) (fun c9 => absurd rfl c9)
  refine W.widen (k := cells + 6) (n := slots + 18) (by omega) (by omega) ?_
  exact kk pk1 G1 I2 F2 _ c1 g1 x1 r1 J2 H2 ad1 ad3 _ _ (by omega) (Rel_SM hSM (Rel_SC hSC hR1)) ⟨ww_Ps hI3.1, ww_Ds hI3.2.1, hI3.2.2⟩ (had 0 (by omega)) (had2 0 (by omega))
set_option maxRecDepth 100000 in
set_option maxHeartbeats 4000000 in
theorem lc_wall {p : Program} {l : Launch} {e : Env} {s : State} {m : MethodId} {below : List Frame} {meth : Method} {c : Code} {b L : Nat} {xs : Nat → Int32} {D : va_G} {tc : Nat → ClassId} {H : Heap} {locs : List Loc} {cells slots : Nat} {Q : State → Prop} {pk : Nat → Nat} {G : Nat → Option Nat} {I F : Nat → Nat → Int32} {n c0 : Nat} {g : Nat → Nat} {x r : Nat} {J Hm : Nat → Nat → Int32} {ad ad2 : Nat → Nat} {ls : Array Slot} {x3 : Int32} (C0 : lw_At p s m meth c b L xs) (hK : aw_K D tc s) (hn : 30 ≤ n) (hR : Rel pk G I F n c0 g x r J Hm) (hI : LI D tc s H locs n (hC pk G I F) ad (aw_ws tc ad2 15 (hM J Hm))) (hl : lv_has ls 4 [(3, .int x3), (2, .ref (ad2 0)), (1, .ref (ad 0)), (0, .ref b)]) (hv : ∀ k : Nat, k < 6 → vp_in (x3 + nI k) L) (hc : cells + 6 ≤ 600000 ∧ slots + 18 ≤ 7302250) (kk : LK p l e s m below meth c b D tc cells slots Q ls ad ad2) : W p l e room_1 s m #[Value.ref b] below meth c H locs cells slots Q (F0 m 299 ls []) := by
  obtain ⟨hx, hb, hr, hml, hown, hts, hX, hbl, hlocks, hgv⟩ := id C0
  have hbA : ¬ LA s b := Nat.not_le.mpr hbl
  obtain ⟨w, pk1, G1, I1, F1, n1, c1, g1, x1, r1, J1, H1, hA, hB, hR1, hn1, hw⟩ := e_wall (l := l) (D := D) (tc := tc) hn hR (xs (x3 + 1).toNatClampNeg) (xs (x3 + 2).toNatClampNeg)
  obtain ⟨z, rfl⟩ := isN_i hw
  refine lv_aload_n hx hb dL_law_299 rfl (lv_at hl 2 rfl) ?_
  refine lv_aload_n hx hb dL_law_300 rfl (lv_at hl 3 rfl) ?_
  refine lv_iload_n hx hb dL_law_301 rfl (lv_at hl 0 rfl) ?_
  refine lv_iconst (v := 1) hx hb dL_law_302 (by decide) ?_
  refine lv_iadd hx hb dL_law_303 ?_
  refine va_sld hx hb hX hbl hbA hI.2.2 (hv 1 (by decide)) dL_law_304 ?_
  refine lv_aload_n hx hb dL_law_305 rfl (lv_at hl 3 rfl) ?_
  refine lv_iload_n hx hb dL_law_306 rfl (lv_at hl 0 rfl) ?_
  refine lv_iconst (v := 2) hx hb dL_law_307 (by decide) ?_
  refine lv_iadd hx hb dL_law_308 ?_
  refine va_sld hx hb hX hbl hbA hI.2.2 (hv 2 (by decide)) dL_law_309 ?_
  refine lw_call (av := [.int (xs (x3 + 1).toNatClampNeg), .int (xs (x3 + 2).toNatClampNeg)]) (rest := []) C0 hK hI hA cw_X8_wall ml_L_27 im_X8_wall sl_X8_X8_wall rfl (by omega) rfl (fun _ => rfl) rfl ⟨Nat.le_of_ble_eq_true rfl, Nat.le_of_ble_eq_true rfl⟩ ⟨by omega, by omega⟩ (Nat.le_of_ble_eq_true rfl) hl.1 dL_law_310 (fun v n2 h2 ad1 Hh locs1 hq hle had hI1 => ?_)
  obtain ⟨rfl, rfl, I2, F2, rfl, hSC⟩ := hq
  refine W.eq (g2 := F0 m 313 ls [.int z]) rfl ?_
  have hI2 : LI D tc s Hh locs1 15 (hM J Hm) ad2 (aw_ws tc ad1 n2 (hC pk1 G1 I2 F2)) := ⟨ww_Ps hI1.1, ww_Ds hI1.2.1, hI1.2.2⟩
  refine lv_aload_n hx hb dL_law_313 rfl (lv_at hl 1 rfl) ?_
  refine lv_aload_n hx hb dL_law_314 rfl (lv_at hl 3 rfl) ?_
  refine lv_iload_n hx hb dL_law_315 rfl (lv_at hl 0 rfl) ?_
  refine lv_iconst (v := 1) hx hb dL_law_316 (by decide) ?_
  refine lv_iadd hx hb dL_law_317 ?_
  refine va_sld hx hb hX hbl hbA hI1.2.2 (hv 1 (by decide)) dL_law_318 ?_
  refine lv_aload_n hx hb dL_law_319 rfl (lv_at hl 3 rfl) ?_
  refine lv_iload_n hx hb dL_law_320 rfl (lv_at hl 0 rfl) ?_
  refine lv_iconst (v := 2) hx hb dL_law_321 (by decide) ?_
  refine lv_iadd hx hb dL_law_322 ?_
  refine va_sld hx hb hX hbl hbA hI1.2.2 (hv 2 (by decide)) dL_law_323 ?_
  refine lw_call (av := [.int (xs (x3 + 1).toNatClampNeg), .int (xs (x3 + 2).toNatClampNeg)]) (rest := [.int z]) C0 hK hI2 hB cw_X9_wall ml_L_30 im_X9_wall sl_X9_X9_wall rfl (by decide) rfl (fun _ => rfl) rfl ⟨Nat.le_of_ble_eq_true rfl, Nat.le_of_ble_eq_true rfl⟩ ⟨by omega, by omega⟩ (Nat.le_of_ble_eq_true rfl) hl.1 dL_law_324 (fun v n3 h3 ad3 Hh2 locs2 hq2 hle2 had2 hI3 => ?_)
  obtain ⟨rfl, rfl, J2, H2, rfl, hSM⟩ := hq2
  refine W.eq (g2 := F0 m 327 ls [.int z, .int z]) rfl ?_
  refine lv_icmp_eq (tgt := 1211) hx hb dL_law_327 (by decide) (fun _ => ?_) (fun c9 => absurd rfl c9)
  refine W.widen (k := cells + 6) (n := slots + 18) (by omega) (by omega) ?_
  exact kk pk1 G1 I2 F2 _ c1 g1 x1 r1 J2 H2 ad1 ad3 _ _ (by omega) (Rel_SM hSM (Rel_SC hSC hR1)) ⟨ww_Ps hI3.1, ww_Ds hI3.2.1, hI3.2.2⟩ (had 0 (by omega)) (had2 0 (by omega))
set_option maxRecDepth 100000 in
set_option maxHeartbeats 4000000 in
theorem lc_lease {p : Program} {l : Launch} {e : Env} {s : State} {m : MethodId} {below : List Frame} {meth : Method} {c : Code} {b L : Nat} {xs : Nat → Int32} {D : va_G} {tc : Nat → ClassId} {H : Heap} {locs : List Loc} {cells slots : Nat} {Q : State → Prop} {pk : Nat → Nat} {G : Nat → Option Nat} {I F : Nat → Nat → Int32} {n c0 : Nat} {g : Nat → Nat} {x r : Nat} {J Hm : Nat → Nat → Int32} {ad ad2 : Nat → Nat} {ls : Array Slot} {x3 : Int32} (C0 : lw_At p s m meth c b L xs) (hK : aw_K D tc s) (hn : 30 ≤ n) (hR : Rel pk G I F n c0 g x r J Hm) (hI : LI D tc s H locs n (hC pk G I F) ad (aw_ws tc ad2 15 (hM J Hm))) (hl : lv_has ls 4 [(3, .int x3), (2, .ref (ad2 0)), (1, .ref (ad 0)), (0, .ref b)]) (hv : ∀ k : Nat, k < 6 → vp_in (x3 + nI k) L) (hc : cells + 6 ≤ 600000 ∧ slots + 18 ≤ 7302250) (kk : LK p l e s m below meth c b D tc cells slots Q ls ad ad2) : W p l e room_1 s m #[Value.ref b] below meth c H locs cells slots Q (F0 m 332 ls []) := by
  obtain ⟨hx, hb, hr, hml, hown, hts, hX, hbl, hlocks, hgv⟩ := id C0
  have hbA : ¬ LA s b := Nat.not_le.mpr hbl
  obtain ⟨w, pk1, G1, I1, F1, n1, c1, g1, x1, r1, J1, H1, hA, hB, hR1, hn1, hw⟩ := e_lease (l := l) (D := D) (tc := tc) hn hR (xs (x3 + 1).toNatClampNeg)
  obtain ⟨z, rfl⟩ := isN_i hw
  refine lv_aload_n hx hb dL_law_332 rfl (lv_at hl 2 rfl) ?_
  refine lv_aload_n hx hb dL_law_333 rfl (lv_at hl 3 rfl) ?_
  refine lv_iload_n hx hb dL_law_334 rfl (lv_at hl 0 rfl) ?_
  refine lv_iconst (v := 1) hx hb dL_law_335 (by decide) ?_
  refine lv_iadd hx hb dL_law_336 ?_
  refine va_sld hx hb hX hbl hbA hI.2.2 (hv 1 (by decide)) dL_law_337 ?_
  refine lw_call (av := [.int (xs (x3 + 1).toNatClampNeg)]) (rest := []) C0 hK hI hA cw_X8_lease ml_L_31 im_X8_lease sl_X8_X8_lease rfl (by omega) rfl (fun _ => rfl) rfl ⟨Nat.le_of_ble_eq_true rfl, Nat.le_of_ble_eq_true rfl⟩ ⟨by omega, by omega⟩ (Nat.le_of_ble_eq_true rfl) hl.1 dL_law_338 (fun v n2 h2 ad1 Hh locs1 hq hle had hI1 => ?_)
  obtain ⟨rfl, rfl, I2, F2, rfl, hSC⟩ := hq
  refine W.eq (g2 := F0 m 341 ls [.int z]) rfl ?_
  have hI2 : LI D tc s Hh locs1 15 (hM J Hm) ad2 (aw_ws tc ad1 n2 (hC pk1 G1 I2 F2)) := ⟨ww_Ps hI1.1, ww_Ds hI1.2.1, hI1.2.2⟩
  refine lv_aload_n hx hb dL_law_341 rfl (lv_at hl 1 rfl) ?_
  refine lv_aload_n hx hb dL_law_342 rfl (lv_at hl 3 rfl) ?_
  refine lv_iload_n hx hb dL_law_343 rfl (lv_at hl 0 rfl) ?_
  refine lv_iconst (v := 1) hx hb dL_law_344 (by decide) ?_
  refine lv_iadd hx hb dL_law_345 ?_
  refine va_sld hx hb hX hbl hbA hI1.2.2 (hv 1 (by decide)) dL_law_346 ?_
  refine lw_call (av := [.int (xs (x3 + 1).toNatClampNeg)]) (rest := [.int z]) C0 hK hI2 hB cw_X9_lease ml_L_35 im_X9_lease sl_X9_X9_lease rfl (by decide) rfl (fun _ => rfl) rfl ⟨Nat.le_of_ble_eq_true rfl, Nat.le_of_ble_eq_true rfl⟩ ⟨by omega, by omega⟩ (Nat.le_of_ble_eq_true rfl) hl.1 dL_law_347 (fun v n3 h3 ad3 Hh2 locs2 hq2 hle2 had2 hI3 => ?_)
  obtain ⟨rfl, rfl, J2, H2, rfl, hSM⟩ := hq2
  refine W.eq (g2 := F0 m 350 ls [.int z, .int z]) rfl ?_
  refine lv_icmp_eq (tgt := 1211) hx hb dL_law_350 (by decide) (fun _ => ?_) (fun c9 => absurd rfl c9)
  refine W.widen (k := cells + 6) (n := slots + 18) (by omega) (by omega) ?_
  exact kk pk1 G1 I2 F2 _ c1 g1 x1 r1 J2 H2 ad1 ad3 _ _ (by omega) (Rel_SM hSM (Rel_SC hSC hR1)) ⟨ww_Ps hI3.1, ww_Ds hI3.2.1, hI3.2.2⟩ (had 0 (by omega)) (had2 0 (by omega))
set_option maxRecDepth 100000 in
set_option maxHeartbeats 4000000 in
theorem lc_go {p : Program} {l : Launch} {e : Env} {s : State} {m : MethodId} {below : List Frame} {meth : Method} {c : Code} {b L : Nat} {xs : Nat → Int32} {D : va_G} {tc : Nat → ClassId} {H : Heap} {locs : List Loc} {cells slots : Nat} {Q : State → Prop} {pk : Nat → Nat} {G : Nat → Option Nat} {I F : Nat → Nat → Int32} {n c0 : Nat} {g : Nat → Nat} {x r : Nat} {J Hm : Nat → Nat → Int32} {ad ad2 : Nat → Nat} {ls : Array Slot} {x3 : Int32} (C0 : lw_At p s m meth c b L xs) (hK : aw_K D tc s) (hn : 30 ≤ n) (hR : Rel pk G I F n c0 g x r J Hm) (hI : LI D tc s H locs n (hC pk G I F) ad (aw_ws tc ad2 15 (hM J Hm))) (hl : lv_has ls 4 [(3, .int x3), (2, .ref (ad2 0)), (1, .ref (ad 0)), (0, .ref b)]) (hv : ∀ k : Nat, k < 6 → vp_in (x3 + nI k) L) (hc : cells + 6 ≤ 600000 ∧ slots + 18 ≤ 7302250) (kk : LK p l e s m below meth c b D tc cells slots Q ls ad ad2) : W p l e room_1 s m #[Value.ref b] below meth c H locs cells slots Q (F0 m 355 ls []) := by
  obtain ⟨hx, hb, hr, hml, hown, hts, hX, hbl, hlocks, hgv⟩ := id C0
  have hbA : ¬ LA s b := Nat.not_le.mpr hbl
  obtain ⟨w, pk1, G1, I1, F1, n1, c1, g1, x1, r1, J1, H1, hA, hB, hR1, hn1, hw⟩ := e_go (l := l) (D := D) (tc := tc) hn hR 
  obtain ⟨z, rfl⟩ := isN_i hw
  refine lv_aload_n hx hb dL_law_355 rfl (lv_at hl 2 rfl) ?_
  refine lw_call (av := []) (rest := []) C0 hK hI hA cw_X8_go ml_L_36 im_X8_go sl_X8_X8_go rfl (by omega) rfl (fun _ => rfl) rfl ⟨Nat.le_of_ble_eq_true rfl, Nat.le_of_ble_eq_true rfl⟩ ⟨by omega, by omega⟩ (Nat.le_of_ble_eq_true rfl) hl.1 dL_law_356 (fun v n2 h2 ad1 Hh locs1 hq hle had hI1 => ?_)
  obtain ⟨rfl, rfl, I2, F2, rfl, hSC⟩ := hq
  refine W.eq (g2 := F0 m 359 ls [.int z]) rfl ?_
  have hI2 : LI D tc s Hh locs1 15 (hM J Hm) ad2 (aw_ws tc ad1 n2 (hC pk1 G1 I2 F2)) := ⟨ww_Ps hI1.1, ww_Ds hI1.2.1, hI1.2.2⟩
  refine lv_aload_n hx hb dL_law_359 rfl (lv_at hl 1 rfl) ?_
  refine lw_call (av := []) (rest := [.int z]) C0 hK hI2 hB cw_X9_go ml_L_40 im_X9_go sl_X9_X9_go rfl (by decide) rfl (fun _ => rfl) rfl ⟨Nat.le_of_ble_eq_true rfl, Nat.le_of_ble_eq_true rfl⟩ ⟨by omega, by omega⟩ (Nat.le_of_ble_eq_true rfl) hl.1 dL_law_360 (fun v n3 h3 ad3 Hh2 locs2 hq2 hle2 had2 hI3 => ?_)
  obtain ⟨rfl, rfl, J2, H2, rfl, hSM⟩ := hq2
  refine W.eq (g2 := F0 m 363 ls [.int z, .int z]) rfl ?_
  refine lv_icmp_eq (tgt := 1211) hx hb dL_law_363 (by decide) (fun _ => ?_) (fun c9 => absurd rfl c9)
  refine W.widen (k := cells + 6) (n := slots + 18) (by omega) (by omega) ?_
  exact kk pk1 G1 I2 F2 _ c1 g1 x1 r1 J2 H2 ad1 ad3 _ _ (by omega) (Rel_SM hSM (Rel_SC hSC hR1)) ⟨ww_Ps hI3.1, ww_Ds hI3.2.1, hI3.2.2⟩ (had 0 (by omega)) (had2 0 (by omega))
set_option maxRecDepth 100000 in
set_option maxHeartbeats 4000000 in
theorem lc_morning {p : Program} {l : Launch} {e : Env} {s : State} {m : MethodId} {below : List Frame} {meth : Method} {c : Code} {b L : Nat} {xs : Nat → Int32} {D : va_G} {tc : Nat → ClassId} {H : Heap} {locs : List Loc} {cells slots : Nat} {Q : State → Prop} {pk : Nat → Nat} {G : Nat → Option Nat} {I F : Nat → Nat → Int32} {n c0 : Nat} {g : Nat → Nat} {x r : Nat} {J Hm : Nat → Nat → Int32} {ad ad2 : Nat → Nat} {ls : Array Slot} {x3 : Int32} (C0 : lw_At p s m meth c b L xs) (hK : aw_K D tc s) (hn : 30 ≤ n) (hR : Rel pk G I F n c0 g x r J Hm) (hI : LI D tc s H locs n (hC pk G I F) ad (aw_ws tc ad2 15 (hM J Hm))) (hl : lv_has ls 4 [(3, .int x3), (2, .ref (ad2 0)), (1, .ref (ad 0)), (0, .ref b)]) (hv : ∀ k : Nat, k < 6 → vp_in (x3 + nI k) L) (hc : cells + 6 ≤ 600000 ∧ slots + 18 ≤ 7302250) (kk : LK p l e s m below meth c b D tc cells slots Q ls ad ad2) : W p l e room_1 s m #[Value.ref b] below meth c H locs cells slots Q (F0 m 368 ls []) := by
  obtain ⟨hx, hb, hr, hml, hown, hts, hX, hbl, hlocks, hgv⟩ := id C0
  have hbA : ¬ LA s b := Nat.not_le.mpr hbl
  obtain ⟨w, pk1, G1, I1, F1, n1, c1, g1, x1, r1, J1, H1, hA, hB, hR1, hn1, hw⟩ := e_morning (l := l) (D := D) (tc := tc) hn hR 
  obtain ⟨z, rfl⟩ := isN_i hw
  refine lv_aload_n hx hb dL_law_368 rfl (lv_at hl 2 rfl) ?_
  refine lw_call (av := []) (rest := []) C0 hK hI hA cw_X8_morning ml_L_41 im_X8_morning sl_X8_X8_morning rfl (by omega) rfl (fun _ => rfl) rfl ⟨Nat.le_of_ble_eq_true rfl, Nat.le_of_ble_eq_true rfl⟩ ⟨by omega, by omega⟩ (Nat.le_of_ble_eq_true rfl) hl.1 dL_law_369 (fun v n2 h2 ad1 Hh locs1 hq hle had hI1 => ?_)
  obtain ⟨rfl, rfl, I2, F2, rfl, hSC⟩ := hq
  refine W.eq (g2 := F0 m 372 ls [.int z]) rfl ?_
  have hI2 : LI D tc s Hh locs1 15 (hM J Hm) ad2 (aw_ws tc ad1 n2 (hC pk1 G1 I2 F2)) := ⟨ww_Ps hI1.1, ww_Ds hI1.2.1, hI1.2.2⟩
  refine lv_aload_n hx hb dL_law_372 rfl (lv_at hl 1 rfl) ?_
  refine lw_call (av := []) (rest := [.int z]) C0 hK hI2 hB cw_X9_morning ml_L_44 im_X9_morning sl_X9_X9_morning rfl (by decide) rfl (fun _ => rfl) rfl ⟨Nat.le_of_ble_eq_true rfl, Nat.le_of_ble_eq_true rfl⟩ ⟨by omega, by omega⟩ (Nat.le_of_ble_eq_true rfl) hl.1 dL_law_373 (fun v n3 h3 ad3 Hh2 locs2 hq2 hle2 had2 hI3 => ?_)
  obtain ⟨rfl, rfl, J2, H2, rfl, hSM⟩ := hq2
  refine W.eq (g2 := F0 m 376 ls [.int z, .int z]) rfl ?_
  refine lv_icmp_eq (tgt := 1211) hx hb dL_law_376 (by decide) (fun _ => ?_) (fun c9 => absurd rfl c9)
  refine W.widen (k := cells + 6) (n := slots + 18) (by omega) (by omega) ?_
  exact kk pk1 G1 I2 F2 _ c1 g1 x1 r1 J2 H2 ad1 ad3 _ _ (by omega) (Rel_SM hSM (Rel_SC hSC hR1)) ⟨ww_Ps hI3.1, ww_Ds hI3.2.1, hI3.2.2⟩ (had 0 (by omega)) (had2 0 (by omega))
set_option maxRecDepth 100000 in
set_option maxHeartbeats 4000000 in
theorem lc_owes {p : Program} {l : Launch} {e : Env} {s : State} {m : MethodId} {below : List Frame} {meth : Method} {c : Code} {b L : Nat} {xs : Nat → Int32} {D : va_G} {tc : Nat → ClassId} {H : Heap} {locs : List Loc} {cells slots : Nat} {Q : State → Prop} {pk : Nat → Nat} {G : Nat → Option Nat} {I F : Nat → Nat → Int32} {n c0 : Nat} {g : Nat → Nat} {x r : Nat} {J Hm : Nat → Nat → Int32} {ad ad2 : Nat → Nat} {ls : Array Slot} {x3 : Int32} (C0 : lw_At p s m meth c b L xs) (hK : aw_K D tc s) (hn : 30 ≤ n) (hR : Rel pk G I F n c0 g x r J Hm) (hI : LI D tc s H locs n (hC pk G I F) ad (aw_ws tc ad2 15 (hM J Hm))) (hl : lv_has ls 4 [(3, .int x3), (2, .ref (ad2 0)), (1, .ref (ad 0)), (0, .ref b)]) (hv : ∀ k : Nat, k < 6 → vp_in (x3 + nI k) L) (hc : cells + 6 ≤ 600000 ∧ slots + 18 ≤ 7302250) (kk : LK p l e s m below meth c b D tc cells slots Q ls ad ad2) : W p l e room_1 s m #[Value.ref b] below meth c H locs cells slots Q (F0 m 381 ls []) := by
  obtain ⟨hx, hb, hr, hml, hown, hts, hX, hbl, hlocks, hgv⟩ := id C0
  have hbA : ¬ LA s b := Nat.not_le.mpr hbl
  obtain ⟨w, pk1, G1, I1, F1, n1, c1, g1, x1, r1, J1, H1, hA, hB, hR1, hn1, hw⟩ := e_owes (l := l) (D := D) (tc := tc) hn hR (xs (x3 + 1).toNatClampNeg) (xs (x3 + 2).toNatClampNeg)
  obtain ⟨z, rfl⟩ := isN_i hw
  refine lv_aload_n hx hb dL_law_381 rfl (lv_at hl 2 rfl) ?_
  refine lv_aload_n hx hb dL_law_382 rfl (lv_at hl 3 rfl) ?_
  refine lv_iload_n hx hb dL_law_383 rfl (lv_at hl 0 rfl) ?_
  refine lv_iconst (v := 1) hx hb dL_law_384 (by decide) ?_
  refine lv_iadd hx hb dL_law_385 ?_
  refine va_sld hx hb hX hbl hbA hI.2.2 (hv 1 (by decide)) dL_law_386 ?_
  refine lv_aload_n hx hb dL_law_387 rfl (lv_at hl 3 rfl) ?_
  refine lv_iload_n hx hb dL_law_388 rfl (lv_at hl 0 rfl) ?_
  refine lv_iconst (v := 2) hx hb dL_law_389 (by decide) ?_
  refine lv_iadd hx hb dL_law_390 ?_
  refine va_sld hx hb hX hbl hbA hI.2.2 (hv 2 (by decide)) dL_law_391 ?_
  refine lw_call (av := [.int (xs (x3 + 1).toNatClampNeg), .int (xs (x3 + 2).toNatClampNeg)]) (rest := []) C0 hK hI hA cw_X8_owes ml_L_45 im_X8_owes sl_X8_X8_owes rfl (by omega) rfl (fun _ => rfl) rfl ⟨Nat.le_of_ble_eq_true rfl, Nat.le_of_ble_eq_true rfl⟩ ⟨by omega, by omega⟩ (Nat.le_of_ble_eq_true rfl) hl.1 dL_law_392 (fun v n2 h2 ad1 Hh locs1 hq hle had hI1 => ?_)
  obtain ⟨rfl, rfl, I2, F2, rfl, hSC⟩ := hq
  refine W.eq (g2 := F0 m 395 ls [.int z]) rfl ?_
  have hI2 : LI D tc s Hh locs1 15 (hM J Hm) ad2 (aw_ws tc ad1 n2 (hC pk1 G1 I2 F2)) := ⟨ww_Ps hI1.1, ww_Ds hI1.2.1, hI1.2.2⟩
  refine lv_aload_n hx hb dL_law_395 rfl (lv_at hl 1 rfl) ?_
  refine lv_aload_n hx hb dL_law_396 rfl (lv_at hl 3 rfl) ?_
  refine lv_iload_n hx hb dL_law_397 rfl (lv_at hl 0 rfl) ?_
  refine lv_iconst (v := 1) hx hb dL_law_398 (by decide) ?_
  refine lv_iadd hx hb dL_law_399 ?_
  refine va_sld hx hb hX hbl hbA hI1.2.2 (hv 1 (by decide)) dL_law_400 ?_
  refine lv_aload_n hx hb dL_law_401 rfl (lv_at hl 3 rfl) ?_
  refine lv_iload_n hx hb dL_law_402 rfl (lv_at hl 0 rfl) ?_
  refine lv_iconst (v := 2) hx hb dL_law_403 (by decide) ?_
  refine lv_iadd hx hb dL_law_404 ?_
  refine va_sld hx hb hX hbl hbA hI1.2.2 (hv 2 (by decide)) dL_law_405 ?_
  refine lw_call (av := [.int (xs (x3 + 1).toNatClampNeg), .int (xs (x3 + 2).toNatClampNeg)]) (rest := [.int z]) C0 hK hI2 hB cw_X9_owes ml_L_48 im_X9_owes sl_X9_X9_owes rfl (by decide) rfl (fun _ => rfl) rfl ⟨Nat.le_of_ble_eq_true rfl, Nat.le_of_ble_eq_true rfl⟩ ⟨by omega, by omega⟩ (Nat.le_of_ble_eq_true rfl) hl.1 dL_law_406 (fun v n3 h3 ad3 Hh2 locs2 hq2 hle2 had2 hI3 => ?_)
  obtain ⟨rfl, rfl, J2, H2, rfl, hSM⟩ := hq2
  refine W.eq (g2 := F0 m 409 ls [.int z, .int z]) rfl ?_
  refine lv_icmp_eq (tgt := 1211) hx hb dL_law_409 (by decide) (fun _ => ?_) (fun c9 => absurd rfl c9)
  refine W.widen (k := cells + 6) (n := slots + 18) (by omega) (by omega) ?_
  exact kk pk1 G1 I2 F2 _ c1 g1 x1 r1 J2 H2 ad1 ad3 _ _ (by omega) (Rel_SM hSM (Rel_SC hSC hR1)) ⟨ww_Ps hI3.1, ww_Ds hI3.2.1, hI3.2.2⟩ (had 0 (by omega)) (had2 0 (by omega))
set_option maxRecDepth 100000 in
set_option maxHeartbeats 4000000 in
theorem lc_pays {p : Program} {l : Launch} {e : Env} {s : State} {m : MethodId} {below : List Frame} {meth : Method} {c : Code} {b L : Nat} {xs : Nat → Int32} {D : va_G} {tc : Nat → ClassId} {H : Heap} {locs : List Loc} {cells slots : Nat} {Q : State → Prop} {pk : Nat → Nat} {G : Nat → Option Nat} {I F : Nat → Nat → Int32} {n c0 : Nat} {g : Nat → Nat} {x r : Nat} {J Hm : Nat → Nat → Int32} {ad ad2 : Nat → Nat} {ls : Array Slot} {x3 : Int32} (C0 : lw_At p s m meth c b L xs) (hK : aw_K D tc s) (hn : 30 ≤ n) (hR : Rel pk G I F n c0 g x r J Hm) (hI : LI D tc s H locs n (hC pk G I F) ad (aw_ws tc ad2 15 (hM J Hm))) (hl : lv_has ls 4 [(3, .int x3), (2, .ref (ad2 0)), (1, .ref (ad 0)), (0, .ref b)]) (hv : ∀ k : Nat, k < 6 → vp_in (x3 + nI k) L) (hc : cells + 6 ≤ 600000 ∧ slots + 18 ≤ 7302250) (kk : LK p l e s m below meth c b D tc cells slots Q ls ad ad2) : W p l e room_1 s m #[Value.ref b] below meth c H locs cells slots Q (F0 m 414 ls []) := by
  obtain ⟨hx, hb, hr, hml, hown, hts, hX, hbl, hlocks, hgv⟩ := id C0
  have hbA : ¬ LA s b := Nat.not_le.mpr hbl
  obtain ⟨w, pk1, G1, I1, F1, n1, c1, g1, x1, r1, J1, H1, hA, hB, hR1, hn1, hw⟩ := e_pays (l := l) (D := D) (tc := tc) hn hR (xs (x3 + 1).toNatClampNeg) (xs (x3 + 2).toNatClampNeg) (xs (x3 + 3).toNatClampNeg)
  obtain ⟨z, rfl⟩ := isN_i hw
  refine lv_aload_n hx hb dL_law_414 rfl (lv_at hl 2 rfl) ?_
  refine lv_aload_n hx hb dL_law_415 rfl (lv_at hl 3 rfl) ?_
  refine lv_iload_n hx hb dL_law_416 rfl (lv_at hl 0 rfl) ?_
  refine lv_iconst (v := 1) hx hb dL_law_417 (by decide) ?_
  refine lv_iadd hx hb dL_law_418 ?_
  refine va_sld hx hb hX hbl hbA hI.2.2 (hv 1 (by decide)) dL_law_419 ?_
  refine lv_aload_n hx hb dL_law_420 rfl (lv_at hl 3 rfl) ?_
  refine lv_iload_n hx hb dL_law_421 rfl (lv_at hl 0 rfl) ?_
  refine lv_iconst (v := 2) hx hb dL_law_422 (by decide) ?_
  refine lv_iadd hx hb dL_law_423 ?_
  refine va_sld hx hb hX hbl hbA hI.2.2 (hv 2 (by decide)) dL_law_424 ?_
  refine lv_aload_n hx hb dL_law_425 rfl (lv_at hl 3 rfl) ?_
  refine lv_iload_n hx hb dL_law_426 rfl (lv_at hl 0 rfl) ?_
  refine lv_iconst (v := 3) hx hb dL_law_427 (by decide) ?_
  refine lv_iadd hx hb dL_law_428 ?_
  refine va_sld hx hb hX hbl hbA hI.2.2 (hv 3 (by decide)) dL_law_429 ?_
  refine lw_call (av := [.int (xs (x3 + 1).toNatClampNeg), .int (xs (x3 + 2).toNatClampNeg), .int (xs (x3 + 3).toNatClampNeg)]) (rest := []) C0 hK hI hA cw_X8_pays ml_L_49 im_X8_pays sl_X8_X8_pays rfl (by omega) rfl (fun _ => rfl) rfl ⟨Nat.le_of_ble_eq_true rfl, Nat.le_of_ble_eq_true rfl⟩ ⟨by omega, by omega⟩ (Nat.le_of_ble_eq_true rfl) hl.1 dL_law_430 (fun v n2 h2 ad1 Hh locs1 hq hle had hI1 => ?_)
  obtain ⟨rfl, rfl, I2, F2, rfl, hSC⟩ := hq
  refine W.eq (g2 := F0 m 433 ls [.int z]) rfl ?_
  have hI2 : LI D tc s Hh locs1 15 (hM J Hm) ad2 (aw_ws tc ad1 n2 (hC pk1 G1 I2 F2)) := ⟨ww_Ps hI1.1, ww_Ds hI1.2.1, hI1.2.2⟩
  refine lv_aload_n hx hb dL_law_433 rfl (lv_at hl 1 rfl) ?_
  refine lv_aload_n hx hb dL_law_434 rfl (lv_at hl 3 rfl) ?_
  refine lv_iload_n hx hb dL_law_435 rfl (lv_at hl 0 rfl) ?_
  refine lv_iconst (v := 1) hx hb dL_law_436 (by decide) ?_
  refine lv_iadd hx hb dL_law_437 ?_
  refine va_sld hx hb hX hbl hbA hI1.2.2 (hv 1 (by decide)) dL_law_438 ?_
  refine lv_aload_n hx hb dL_law_439 rfl (lv_at hl 3 rfl) ?_
  refine lv_iload_n hx hb dL_law_440 rfl (lv_at hl 0 rfl) ?_
  refine lv_iconst (v := 2) hx hb dL_law_441 (by decide) ?_
  refine lv_iadd hx hb dL_law_442 ?_
  refine va_sld hx hb hX hbl hbA hI1.2.2 (hv 2 (by decide)) dL_law_443 ?_
  refine lv_aload_n hx hb dL_law_444 rfl (lv_at hl 3 rfl) ?_
  refine lv_iload_n hx hb dL_law_445 rfl (lv_at hl 0 rfl) ?_
  refine lv_iconst (v := 3) hx hb dL_law_446 (by decide) ?_
  refine lv_iadd hx hb dL_law_447 ?_
  refine va_sld hx hb hX hbl hbA hI1.2.2 (hv 3 (by decide)) dL_law_448 ?_
  refine lw_call (av := [.int (xs (x3 + 1).toNatClampNeg), .int (xs (x3 + 2).toNatClampNeg), .int (xs (x3 + 3).toNatClampNeg)]) (rest := [.int z]) C0 hK hI2 hB cw_X9_pays ml_L_53 im_X9_pays sl_X9_X9_pays rfl (by decide) rfl (fun _ => rfl) rfl ⟨Nat.le_of_ble_eq_true rfl, Nat.le_of_ble_eq_true rfl⟩ ⟨by omega, by omega⟩ (Nat.le_of_ble_eq_true rfl) hl.1 dL_law_449 (fun v n3 h3 ad3 Hh2 locs2 hq2 hle2 had2 hI3 => ?_)
  obtain ⟨rfl, rfl, J2, H2, rfl, hSM⟩ := hq2
  refine W.eq (g2 := F0 m 452 ls [.int z, .int z]) rfl ?_
  refine lv_icmp_eq (tgt := 1211) hx hb dL_law_452 (by decide) (fun _ => ?_) (fun c9 => absurd rfl c9)
  refine W.widen (k := cells + 6) (n := slots + 18) (by omega) (by omega) ?_
  exact kk pk1 G1 I2 F2 _ c1 g1 x1 r1 J2 H2 ad1 ad3 _ _ (by omega) (Rel_SM hSM (Rel_SC hSC hR1)) ⟨ww_Ps hI3.1, ww_Ds hI3.2.1, hI3.2.2⟩ (had 0 (by omega)) (had2 0 (by omega))
set_option maxRecDepth 100000 in
set_option maxHeartbeats 4000000 in
theorem lc_calls {p : Program} {l : Launch} {e : Env} {s : State} {m : MethodId} {below : List Frame} {meth : Method} {c : Code} {b L : Nat} {xs : Nat → Int32} {D : va_G} {tc : Nat → ClassId} {H : Heap} {locs : List Loc} {cells slots : Nat} {Q : State → Prop} {pk : Nat → Nat} {G : Nat → Option Nat} {I F : Nat → Nat → Int32} {n c0 : Nat} {g : Nat → Nat} {x r : Nat} {J Hm : Nat → Nat → Int32} {ad ad2 : Nat → Nat} {ls : Array Slot} {x3 : Int32} (C0 : lw_At p s m meth c b L xs) (hK : aw_K D tc s) (hn : 30 ≤ n) (hR : Rel pk G I F n c0 g x r J Hm) (hI : LI D tc s H locs n (hC pk G I F) ad (aw_ws tc ad2 15 (hM J Hm))) (hl : lv_has ls 4 [(3, .int x3), (2, .ref (ad2 0)), (1, .ref (ad 0)), (0, .ref b)]) (hv : ∀ k : Nat, k < 6 → vp_in (x3 + nI k) L) (hc : cells + 6 ≤ 600000 ∧ slots + 18 ≤ 7302250) (kk : LK p l e s m below meth c b D tc cells slots Q ls ad ad2) : W p l e room_1 s m #[Value.ref b] below meth c H locs cells slots Q (F0 m 457 ls []) := by
  obtain ⟨hx, hb, hr, hml, hown, hts, hX, hbl, hlocks, hgv⟩ := id C0
  have hbA : ¬ LA s b := Nat.not_le.mpr hbl
  obtain ⟨w, pk1, G1, I1, F1, n1, c1, g1, x1, r1, J1, H1, hA, hB, hR1, hn1, hw⟩ := e_calls (l := l) (D := D) (tc := tc) hn hR (xs (x3 + 1).toNatClampNeg) (xs (x3 + 2).toNatClampNeg) (xs (x3 + 3).toNatClampNeg) (xs (x3 + 4).toNatClampNeg) (xs (x3 + 5).toNatClampNeg)
  obtain ⟨z, rfl⟩ := isN_i hw
  refine lv_aload_n hx hb dL_law_457 rfl (lv_at hl 2 rfl) ?_
  refine lv_aload_n hx hb dL_law_458 rfl (lv_at hl 3 rfl) ?_
  refine lv_iload_n hx hb dL_law_459 rfl (lv_at hl 0 rfl) ?_
  refine lv_iconst (v := 1) hx hb dL_law_460 (by decide) ?_
  refine lv_iadd hx hb dL_law_461 ?_
  refine va_sld hx hb hX hbl hbA hI.2.2 (hv 1 (by decide)) dL_law_462 ?_
  refine lv_aload_n hx hb dL_law_463 rfl (lv_at hl 3 rfl) ?_
  refine lv_iload_n hx hb dL_law_464 rfl (lv_at hl 0 rfl) ?_
  refine lv_iconst (v := 2) hx hb dL_law_465 (by decide) ?_
  refine lv_iadd hx hb dL_law_466 ?_
  refine va_sld hx hb hX hbl hbA hI.2.2 (hv 2 (by decide)) dL_law_467 ?_
  refine lv_aload_n hx hb dL_law_468 rfl (lv_at hl 3 rfl) ?_
  refine lv_iload_n hx hb dL_law_469 rfl (lv_at hl 0 rfl) ?_
  refine lv_iconst (v := 3) hx hb dL_law_470 (by decide) ?_
  refine lv_iadd hx hb dL_law_471 ?_
  refine va_sld hx hb hX hbl hbA hI.2.2 (hv 3 (by decide)) dL_law_472 ?_
  refine lv_aload_n hx hb dL_law_473 rfl (lv_at hl 3 rfl) ?_
  refine lv_iload_n hx hb dL_law_474 rfl (lv_at hl 0 rfl) ?_
  refine lv_iconst (v := 4) hx hb dL_law_475 (by decide) ?_
  refine lv_iadd hx hb dL_law_476 ?_
  refine va_sld hx hb hX hbl hbA hI.2.2 (hv 4 (by decide)) dL_law_477 ?_
  refine lv_aload_n hx hb dL_law_478 rfl (lv_at hl 3 rfl) ?_
  refine lv_iload_n hx hb dL_law_479 rfl (lv_at hl 0 rfl) ?_
  refine lv_iconst (v := 5) hx hb dL_law_480 (by decide) ?_
  refine lv_iadd hx hb dL_law_481 ?_
  refine va_sld hx hb hX hbl hbA hI.2.2 (hv 5 (by decide)) dL_law_482 ?_
  refine lw_call (av := [.int (xs (x3 + 1).toNatClampNeg), .int (xs (x3 + 2).toNatClampNeg), .int (xs (x3 + 3).toNatClampNeg), .int (xs (x3 + 4).toNatClampNeg), .int (xs (x3 + 5).toNatClampNeg)]) (rest := []) C0 hK hI hA cw_X8_calls ml_L_54 im_X8_calls sl_X8_X8_calls rfl (by omega) rfl (fun _ => rfl) rfl ⟨Nat.le_of_ble_eq_true rfl, Nat.le_of_ble_eq_true rfl⟩ ⟨by omega, by omega⟩ (Nat.le_of_ble_eq_true rfl) hl.1 dL_law_483 (fun v n2 h2 ad1 Hh locs1 hq hle had hI1 => ?_)
  obtain ⟨rfl, rfl, I2, F2, rfl, hSC⟩ := hq
  refine W.eq (g2 := F0 m 486 ls [.int z]) rfl ?_
  have hI2 : LI D tc s Hh locs1 15 (hM J Hm) ad2 (aw_ws tc ad1 n2 (hC pk1 G1 I2 F2)) := ⟨ww_Ps hI1.1, ww_Ds hI1.2.1, hI1.2.2⟩
  refine lv_aload_n hx hb dL_law_486 rfl (lv_at hl 1 rfl) ?_
  refine lv_aload_n hx hb dL_law_487 rfl (lv_at hl 3 rfl) ?_
  refine lv_iload_n hx hb dL_law_488 rfl (lv_at hl 0 rfl) ?_
  refine lv_iconst (v := 1) hx hb dL_law_489 (by decide) ?_
  refine lv_iadd hx hb dL_law_490 ?_
  refine va_sld hx hb hX hbl hbA hI1.2.2 (hv 1 (by decide)) dL_law_491 ?_
  refine lv_aload_n hx hb dL_law_492 rfl (lv_at hl 3 rfl) ?_
  refine lv_iload_n hx hb dL_law_493 rfl (lv_at hl 0 rfl) ?_
  refine lv_iconst (v := 2) hx hb dL_law_494 (by decide) ?_
  refine lv_iadd hx hb dL_law_495 ?_
  refine va_sld hx hb hX hbl hbA hI1.2.2 (hv 2 (by decide)) dL_law_496 ?_
  refine lv_aload_n hx hb dL_law_497 rfl (lv_at hl 3 rfl) ?_
  refine lv_iload_n hx hb dL_law_498 rfl (lv_at hl 0 rfl) ?_
  refine lv_iconst (v := 3) hx hb dL_law_499 (by decide) ?_
  refine lv_iadd hx hb dL_law_500 ?_
  refine va_sld hx hb hX hbl hbA hI1.2.2 (hv 3 (by decide)) dL_law_501 ?_
  refine lv_aload_n hx hb dL_law_502 rfl (lv_at hl 3 rfl) ?_
  refine lv_iload_n hx hb dL_law_503 rfl (lv_at hl 0 rfl) ?_
  refine lv_iconst (v := 4) hx hb dL_law_504 (by decide) ?_
  refine lv_iadd hx hb dL_law_505 ?_
  refine va_sld hx hb hX hbl hbA hI1.2.2 (hv 4 (by decide)) dL_law_506 ?_
  refine lv_aload_n hx hb dL_law_507 rfl (lv_at hl 3 rfl) ?_
  refine lv_iload_n hx hb dL_law_508 rfl (lv_at hl 0 rfl) ?_
  refine lv_iconst (v := 5) hx hb dL_law_509 (by decide) ?_
  refine lv_iadd hx hb dL_law_510 ?_
  refine va_sld hx hb hX hbl hbA hI1.2.2 (hv 5 (by decide)) dL_law_511 ?_
  refine lw_call (av := [.int (xs (x3 + 1).toNatClampNeg), .int (xs (x3 + 2).toNatClampNeg), .int (xs (x3 + 3).toNatClampNeg), .int (xs (x3 + 4).toNatClampNeg), .int (xs (x3 + 5).toNatClampNeg)]) (rest := [.int z]) C0 hK hI2 hB cw_X9_calls ml_L_58 im_X9_calls sl_X9_X9_calls rfl (by decide) rfl (fun _ => rfl) rfl ⟨Nat.le_of_ble_eq_true rfl, Nat.le_of_ble_eq_true rfl⟩ ⟨by omega, by omega⟩ (Nat.le_of_ble_eq_true rfl) hl.1 dL_law_512 (fun v n3 h3 ad3 Hh2 locs2 hq2 hle2 had2 hI3 => ?_)
  obtain ⟨rfl, rfl, J2, H2, rfl, hSM⟩ := hq2
  refine W.eq (g2 := F0 m 515 ls [.int z, .int z]) rfl ?_
  refine lv_icmp_eq (tgt := 1211) hx hb dL_law_515 (by decide) (fun _ => ?_) (fun c9 => absurd rfl c9)
  refine W.widen (k := cells + 6) (n := slots + 18) (by omega) (by omega) ?_
  exact kk pk1 G1 I2 F2 _ c1 g1 x1 r1 J2 H2 ad1 ad3 _ _ (by omega) (Rel_SM hSM (Rel_SC hSC hR1)) ⟨ww_Ps hI3.1, ww_Ds hI3.2.1, hI3.2.2⟩ (had 0 (by omega)) (had2 0 (by omega))
set_option maxRecDepth 100000 in
set_option maxHeartbeats 4000000 in
theorem lc_order {p : Program} {l : Launch} {e : Env} {s : State} {m : MethodId} {below : List Frame} {meth : Method} {c : Code} {b L : Nat} {xs : Nat → Int32} {D : va_G} {tc : Nat → ClassId} {H : Heap} {locs : List Loc} {cells slots : Nat} {Q : State → Prop} {pk : Nat → Nat} {G : Nat → Option Nat} {I F : Nat → Nat → Int32} {n c0 : Nat} {g : Nat → Nat} {x r : Nat} {J Hm : Nat → Nat → Int32} {ad ad2 : Nat → Nat} {ls : Array Slot} {x3 : Int32} (C0 : lw_At p s m meth c b L xs) (hK : aw_K D tc s) (hn : 30 ≤ n) (hR : Rel pk G I F n c0 g x r J Hm) (hI : LI D tc s H locs n (hC pk G I F) ad (aw_ws tc ad2 15 (hM J Hm))) (hl : lv_has ls 4 [(3, .int x3), (2, .ref (ad2 0)), (1, .ref (ad 0)), (0, .ref b)]) (hv : ∀ k : Nat, k < 6 → vp_in (x3 + nI k) L) (hc : cells + 6 ≤ 600000 ∧ slots + 18 ≤ 7302250) (kk : LK p l e s m below meth c b D tc cells slots Q ls ad ad2) : W p l e room_1 s m #[Value.ref b] below meth c H locs cells slots Q (F0 m 520 ls []) := by
  obtain ⟨hx, hb, hr, hml, hown, hts, hX, hbl, hlocks, hgv⟩ := id C0
  have hbA : ¬ LA s b := Nat.not_le.mpr hbl
  obtain ⟨w, pk1, G1, I1, F1, n1, c1, g1, x1, r1, J1, H1, hA, hB, hR1, hn1, hw⟩ := e_order (l := l) (D := D) (tc := tc) hn hR (xs (x3 + 1).toNatClampNeg) (xs (x3 + 2).toNatClampNeg)
  obtain ⟨z, rfl⟩ := isN_i hw
  refine lv_aload_n hx hb dL_law_520 rfl (lv_at hl 2 rfl) ?_
  refine lv_aload_n hx hb dL_law_521 rfl (lv_at hl 3 rfl) ?_
  refine lv_iload_n hx hb dL_law_522 rfl (lv_at hl 0 rfl) ?_
  refine lv_iconst (v := 1) hx hb dL_law_523 (by decide) ?_
  refine lv_iadd hx hb dL_law_524 ?_
  refine va_sld hx hb hX hbl hbA hI.2.2 (hv 1 (by decide)) dL_law_525 ?_
  refine lv_aload_n hx hb dL_law_526 rfl (lv_at hl 3 rfl) ?_
  refine lv_iload_n hx hb dL_law_527 rfl (lv_at hl 0 rfl) ?_
  refine lv_iconst (v := 2) hx hb dL_law_528 (by decide) ?_
  refine lv_iadd hx hb dL_law_529 ?_
  refine va_sld hx hb hX hbl hbA hI.2.2 (hv 2 (by decide)) dL_law_530 ?_
  refine lw_call (av := [.int (xs (x3 + 1).toNatClampNeg), .int (xs (x3 + 2).toNatClampNeg)]) (rest := []) C0 hK hI hA cw_X8_order ml_L_59 im_X8_order sl_X8_X8_order rfl (by omega) rfl (fun _ => rfl) rfl ⟨Nat.le_of_ble_eq_true rfl, Nat.le_of_ble_eq_true rfl⟩ ⟨by omega, by omega⟩ (Nat.le_of_ble_eq_true rfl) hl.1 dL_law_531 (fun v n2 h2 ad1 Hh locs1 hq hle had hI1 => ?_)
  obtain ⟨rfl, rfl, I2, F2, rfl, hSC⟩ := hq
  refine W.eq (g2 := F0 m 534 ls [.int z]) rfl ?_
  have hI2 : LI D tc s Hh locs1 15 (hM J Hm) ad2 (aw_ws tc ad1 n2 (hC pk1 G1 I2 F2)) := ⟨ww_Ps hI1.1, ww_Ds hI1.2.1, hI1.2.2⟩
  refine lv_aload_n hx hb dL_law_534 rfl (lv_at hl 1 rfl) ?_
  refine lv_aload_n hx hb dL_law_535 rfl (lv_at hl 3 rfl) ?_
  refine lv_iload_n hx hb dL_law_536 rfl (lv_at hl 0 rfl) ?_
  refine lv_iconst (v := 1) hx hb dL_law_537 (by decide) ?_
  refine lv_iadd hx hb dL_law_538 ?_
  refine va_sld hx hb hX hbl hbA hI1.2.2 (hv 1 (by decide)) dL_law_539 ?_
  refine lv_aload_n hx hb dL_law_540 rfl (lv_at hl 3 rfl) ?_
  refine lv_iload_n hx hb dL_law_541 rfl (lv_at hl 0 rfl) ?_
  refine lv_iconst (v := 2) hx hb dL_law_542 (by decide) ?_
  refine lv_iadd hx hb dL_law_543 ?_
  refine va_sld hx hb hX hbl hbA hI1.2.2 (hv 2 (by decide)) dL_law_544 ?_
  refine lw_call (av := [.int (xs (x3 + 1).toNatClampNeg), .int (xs (x3 + 2).toNatClampNeg)]) (rest := [.int z]) C0 hK hI2 hB cw_X9_order ml_L_62 im_X9_order sl_X9_X9_order rfl (by decide) rfl (fun _ => rfl) rfl ⟨Nat.le_of_ble_eq_true rfl, Nat.le_of_ble_eq_true rfl⟩ ⟨by omega, by omega⟩ (Nat.le_of_ble_eq_true rfl) hl.1 dL_law_545 (fun v n3 h3 ad3 Hh2 locs2 hq2 hle2 had2 hI3 => ?_)
  obtain ⟨rfl, rfl, J2, H2, rfl, hSM⟩ := hq2
  refine W.eq (g2 := F0 m 548 ls [.int z, .int z]) rfl ?_
  refine lv_icmp_eq (tgt := 1211) hx hb dL_law_548 (by decide) (fun _ => ?_) (fun c9 => absurd rfl c9)
  refine W.widen (k := cells + 6) (n := slots + 18) (by omega) (by omega) ?_
  exact kk pk1 G1 I2 F2 _ c1 g1 x1 r1 J2 H2 ad1 ad3 _ _ (by omega) (Rel_SM hSM (Rel_SC hSC hR1)) ⟨ww_Ps hI3.1, ww_Ds hI3.2.1, hI3.2.2⟩ (had 0 (by omega)) (had2 0 (by omega))
