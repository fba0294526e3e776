/-! the reference: orders -/
def SM (I F I1 F1 : Nat → Nat → Int32) : Prop := (∀ k, k ≠ 13 → k ≠ 14 → k ≠ 15 → k ≠ 17 → k ≠ 18 → k ≠ 19 → k ≠ 22 → I1 0 k = I 0 k) ∧ ∀ a, a ≠ 8 → a ≠ 9 → a ≠ 10 → a ≠ 11 → F1 a = F a
theorem SM_refl (I F : Nat → Nat → Int32) : SM I F I F := ⟨fun _ _ _ _ _ _ _ _ => rfl, fun _ _ _ _ _ => rfl⟩
theorem SM_trans {I F I1 F1 I2 F2 : Nat → Nat → Int32} (h : SM I F I1 F1) (k : SM I1 F1 I2 F2) : SM I F I2 F2 := ⟨fun a b c d e f g i => (k.1 a b c d e f g i).trans (h.1 a b c d e f g i), fun a b c d e => (k.2 a b c d e).trans (h.2 a b c d e)⟩
theorem SM_LM (I F : Nat → Nat → Int32) (f h s : Int32) : SM I F (LM I f h s) F := by
  refine ⟨fun k _ _ _ h1 h2 h3 _ => ?_, fun _ _ _ _ _ => rfl⟩
  exact LM_n (fun q => by
    rcases q.2 with w | w | w
    · exact h1 w
    · exact h2 w
    · exact h3 w)
theorem SM_I {I F I1 : Nat → Nat → Int32} {k : Nat} (v : Int32) (h : SM I F I1 F) (hk : k = 13 ∨ k = 14 ∨ k = 15 ∨ k = 17 ∨ k = 18 ∨ k = 19 ∨ k = 22) : SM I F (st_I I1 0 k v) F := by
  refine ⟨fun j a b c d e f g => ?_, h.2⟩
  rw [st_In (by rintro ⟨_, rfl⟩; omega)]
  exact h.1 j a b c d e f g
theorem myM_SM {I F I1 F1 : Nat → Nat → Int32} (h : SM I F I1 F1) : myM I1 F1 = myM I F := by
  funext p
  unfold myM
  rw [h.1 6 (by decide) (by decide) (by decide) (by decide) (by decide) (by decide) (by decide), h.2 4 (by decide) (by decide) (by decide) (by decide), h.2 5 (by decide) (by decide) (by decide) (by decide), h.2 6 (by decide) (by decide) (by decide) (by decide)]
theorem HH_SM {I F I1 F1 : Nat → Nat → Int32} {c : Nat} (h : SM I F I1 F1) (hH : HH F c) : HH F1 c := by
  intro p hp
  rw [h.2 5 (by decide) (by decide) (by decide) (by decide)]
  exact hH p hp
theorem sz_d : ∀ m : Fin 64, ∀ d : Fin 6, Nat.testBit m.1 d.1 = true → szN 6 (nd m.1 (2 ^ d.1)) + 1 = szN 6 m.1 := by decide +kernel
theorem sz_0 : ∀ m : Fin 64, szN 6 m.1 ≤ 6 ∧ (szN 6 m.1 = 0 → m.1 = 0) := by decide +kernel
theorem lfN_n {my : Nat → Int32} {x c : Nat} (hc : c ≤ 6) (hx : x < 2 ^ c) (hm : ∀ m, m < 2 ^ c → ∀ i, i < 6 → sHas (nI m) (nI i) = true → my i ≤ 18) : ∀ k, ∃ m, lfN my (nI x) k = nI m ∧ m < 2 ^ c ∧ (m = 0 ∨ szN 6 m + k = szN 6 x)
  | 0 => ⟨x, rfl, hx, Or.inr rfl⟩
  | k + 1 => by
    have h6 : 2 ^ c ≤ 2 ^ 6 := Nat.pow_le_pow_right (by decide) hc
    obtain ⟨m, h1, h2, h3⟩ := lfN_n hc hx hm k
    rw [lfN, h1]
    by_cases q : m = 0
    · subst q
      refine ⟨0, ?_, h2, Or.inl rfl⟩
      unfold sClr
      exact Int32.zero_and
    · obtain ⟨d, hd, e, hb⟩ := sDown_ex (hm m h2) q (by omega)
      rw [e, clr_n (by omega) (by omega)]
      refine ⟨_, rfl, nd_lt h2, Or.inr ?_⟩
      rw [has_tb (by omega) (by omega)] at hb
      have := sz_d ⟨m, by omega⟩ ⟨d, hd⟩ hb
      simp only at this
      rcases h3 with h3 | h3
      · exact absurd h3 q
      · omega
theorem lfN_6 {my : Nat → Int32} {x c i : Nat} (hc : c ≤ 6) (hx : x < 2 ^ c) (hm : ∀ m, m < 2 ^ c → ∀ i, i < 6 → sHas (nI m) (nI i) = true → my i ≤ 18) (h : ¬ lfN my (nI x) i = 0) : i < 6 := by
  have h6 : 2 ^ c ≤ 2 ^ 6 := Nat.pow_le_pow_right (by decide) hc
  obtain ⟨m, h1, h2, h3⟩ := lfN_n hc hx hm i
  have q : m ≠ 0 := fun e => by
    subst e
    exact h h1
  rcases h3 with h3 | h3
  · exact absurd h3 q
  · have h4 := (sz_0 ⟨x, by omega⟩).1
    have h5 : szN 6 m ≠ 0 := fun e => q ((sz_0 ⟨m, by omega⟩).2 e)
    simp only at h4
    omega
def goF (F : Nat → Nat → Int32) (d s f : Int32) : Nat → Nat → Int32 := if s = -9 then F else st_F F 7 (upd (F 7) (6 * d.toNatClampNeg + s.toNatClampNeg) (F 7 (6 * d.toNatClampNeg + s.toNatClampNeg) + f))
theorem he_LM7 {I F : Nat → Nat → Int32} {f h s x : Int32} : hM (st_I (LM I f h s) 0 7 x) F 0 = .inr (9, [.int (I 0 0), .int (I 0 1), .ref 1, .ref 2, .ref 3, .int (I 0 5), .int (I 0 6), .int x, .int (I 0 8), .ref 4, .ref 5, .ref 6, .ref 7, .int (I 0 13), .int (I 0 14), .int (I 0 15), .ref 8, .int f, .int h, .int s, .ref 9, .ref 10, .int (I 0 22), .ref 11, .int (I 0 24), .ref 12, .ref 13, .ref 14]) := rfl
theorem he_LO {I F : Nat → Nat → Int32} {k f h s : Int32} : hM (LM (st_I I 0 22 k) f h s) F 0 = .inr (9, [.int (I 0 0), .int (I 0 1), .ref 1, .ref 2, .ref 3, .int (I 0 5), .int (I 0 6), .int (I 0 7), .int (I 0 8), .ref 4, .ref 5, .ref 6, .ref 7, .int (I 0 13), .int (I 0 14), .int (I 0 15), .ref 8, .int f, .int h, .int s, .ref 9, .ref 10, .int k, .ref 11, .int (I 0 24), .ref 12, .ref 13, .ref 14]) := rfl
theorem LM_22 (I : Nat → Nat → Int32) (k f h s x : Int32) : st_I (LM (st_I I 0 22 k) f h s) 0 22 x = LM (st_I I 0 22 x) f h s := by
  funext a j
  unfold st_I LM upd
  by_cases e : a = 0
  · subst e
    by_cases e2 : j = 22
    · simp [e2]
    · simp [e2]
  · simp [e]
def moF (F : Nat → Nat → Int32) (my : Nat → Int32) (set : Int32) (k : Nat) : Nat → Nat → Int32 := st_F (st_F F 9 (pf (dnN my set) (F 9) k)) 10 (pf (frN my set) (F 10) k)
theorem moF_0 (F : Nat → Nat → Int32) (my : Nat → Int32) (set : Int32) : moF F my set 0 = F := by
  unfold moF
  rw [pf_0, pf_0, st_F0]
  have : st_F F 10 (F 10) = F := st_F0 F 10
  exact this
theorem moF_s (F : Nat → Nat → Int32) (my : Nat → Int32) (set : Int32) (k : Nat) : st_F (st_F (moF F my set k) 9 (upd (moF F my set k 9) k (dnN my set k))) 10 (upd (moF F my set k 10) k (frN my set k)) = moF F my set (k + 1) := by
  have e5 : moF F my set k 9 = pf (dnN my set) (F 9) k := rfl
  have e6 : moF F my set k 10 = pf (frN my set) (F 10) k := rfl
  rw [e5, e6, pf_s, pf_s]
  funext a
  unfold moF st_F
  by_cases h6 : a = 10
  · subst h6; simp
  · by_cases h5 : a = 9
    · subst h5; simp
    · simp [h5, h6]
theorem SM_mo (I F : Nat → Nat → Int32) (my : Nat → Int32) (set k f h s : Int32) (j : Nat) : SM I F (LM (st_I I 0 22 k) f h s) (moF F my set j) := by
  refine SM_trans (SM_I k (SM_refl I F) (by simp)) ⟨(SM_LM _ F f h s).1, fun a _ h2 h3 _ => ?_⟩
  unfold moF
  rw [st_Fn h3, st_Fn h2]
theorem myM_mo (I F : Nat → Nat → Int32) (my : Nat → Int32) (set k : Int32) (j : Nat) : myM (st_I I 0 22 k) (moF F my set j) = myM I F := rfl

set_option maxRecDepth 100000 in
set_option maxHeartbeats 4000000 in
theorem c_X9_go0 {l : Launch} {D : va_G} {tc : Nat → ClassId} (I F : Nat → Nat → Int32) (h0 : I 0 7 = 0) : AM l D tc yX9_go cX9_go 2 (some .int) 3 66 0 0 [.ref 0] 15 (hM I F) (fun v n1 h1 => n1 = 15 ∧ (v = some (.int (-3)) ∧ h1 = (hM I F))) := by
  refine am_of (L := [some (.ref 0), none]) (by decide +kernel) (Nat.le_of_ble_eq_true rfl) rfl ?_
  refine aw_aload_n dX9_go_0 rfl rfl ?_
  refine aw_get fd_X9_98_9 dX9_go_1 (by decide) rfl rfl ?_
  rw [h0]
  refine aw_if_ne (tgt := 10) dX9_go_4 (by decide) (fun c_4 => ?_) (fun c_4 => ?_)
  · exact absurd rfl c_4
  · refine aw_bipush (v := (-3)) dX9_go_7 (by decide) ?_
    refine aw_iret dX9_go_9 (Nat.zero_le _) (Nat.zero_le _) ?_
    exact ⟨rfl, rfl, rfl⟩
theorem SM_go (I F : Nat → Nat → Int32) (x d f h s : Int32) : SM (st_I I 0 7 (sClr x d)) F (st_I (LM I f h s) 0 7 (sClr x d)) F := by
  refine ⟨fun k _ _ _ h1 h2 h3 _ => ?_, fun _ _ _ _ _ => rfl⟩
  by_cases e : k = 7
  · subst e
    rw [st_Is, st_Is]
  · rw [st_In (fun q => e q.2), st_In (fun q => e q.2)]
    exact LM_n (fun q => by
      rcases q.2 with w | w | w
      · exact h1 w
      · exact h2 w
      · exact h3 w)
set_option maxRecDepth 100000 in
set_option maxHeartbeats 4000000 in
theorem c_X9_go {l : Launch} {D : va_G} {tc : Nat → ClassId} (I F : Nat → Nat → Int32) {c : Nat} (hc : c ≤ 6) (hI5 : I 0 5 = nI c) {x : Nat} (hx : x < 2 ^ c) (hI7 : I 0 7 = nI x) (hH : HH F c) (h0 : x ≠ 0) : AM l D tc yX9_go cX9_go 2 (some .int) 3 66 0 0 [.ref 0] 15 (hM I F) (fun v n1 h1 => n1 = 15 ∧ (∃ I1 F1, h1 = hM I1 F1 ∧ SM (st_I I 0 7 (sClr (nI x) (sDown (myM I F) (nI x)))) (goF F (sDown (myM I F) (nI x)) (sCall (myM I F) (nI x)).2.2.1 (sCall (myM I F) (nI x)).1) I1 F1 ∧ v = some (.int (sDown (myM I F) (nI x))))) := by
  refine am_of (L := [some (.ref 0), none]) (by decide +kernel) (Nat.le_of_ble_eq_true rfl) rfl ?_
  have h6 : 2 ^ c ≤ 2 ^ 6 := Nat.pow_le_pow_right (by decide) hc
  refine aw_aload_n dX9_go_0 rfl rfl ?_
  refine aw_get fd_X9_98_9 dX9_go_1 (by decide) rfl rfl ?_
  rw [show I 0 7 = nI x from hI7]
  refine aw_if_ne (tgt := 10) dX9_go_4 (by decide) (fun c_4 => ?_) (fun c_4 => ?_)
  · refine aw_aload_n dX9_go_10 rfl rfl ?_
    refine aw_aload_n dX9_go_11 rfl rfl ?_
    refine aw_get fd_X9_98_9 dX9_go_12 (by decide) rfl rfl ?_
    rw [hI7]
    refine aw_callV cw_X9_callOf ml_X9_145 im_X9_callOf sl_X9_X9_callOf rfl (by decide) rfl (c_X9_callOf I F hc hI5 hx h0 hH) ⟨Nat.le_of_ble_eq_true rfl, Nat.le_of_ble_eq_true rfl⟩ ⟨Nat.zero_le _, Nat.zero_le _⟩ rfl rfl (Nat.le_of_ble_eq_true rfl) dX9_go_15 ?_
    rintro _ _ ⟨rfl, rfl⟩
    obtain ⟨d, hd, ed, hb⟩ := sDown_ex (myM_le (I := I) hc hH hx) h0 (by omega)
    have hsec := sSec_ex (myM_le (I := I) hc hH hx)
    rw [ed]
    generalize sCall (myM I F) (nI x) = q at hsec ⊢
    refine aw_istore_n dX9_go_18 rfl (by decide) rfl ?_
    refine aw_aload_n dX9_go_19 rfl rfl ?_
    refine aw_dup dX9_go_20 rfl ?_
    refine aw_get fd_X9_98_9 dX9_go_21 (by decide) he_LM rfl ?_
    rw [hI7]
    refine aw_iconst (v := 1) dX9_go_24 (by decide) ?_
    refine aw_iload_n dX9_go_25 rfl rfl ?_
    refine aw_ishl dX9_go_26 ?_
    refine aw_iconst (v := (-1)) dX9_go_27 (by decide) ?_
    refine aw_ixor dX9_go_28 ?_
    refine aw_iand dX9_go_29 ?_
    refine aw_puti fp_X9_98_9 dX9_go_30 (by decide) he_LM rfl rfl (Nat.le_of_ble_eq_true rfl) rfl ?_
    refine aw_aload_n dX9_go_33 rfl rfl ?_
    refine aw_get fd_X9_136_9 dX9_go_34 (by decide) he_LM7 rfl ?_
    refine aw_bipush (v := (-9)) dX9_go_37 (by decide) ?_
    refine aw_icmp_eq (tgt := 63) dX9_go_39 (by decide) (fun c_39 => ?_) (fun c_39 => ?_)
    · refine aw_iload_n dX9_go_63 rfl rfl ?_
      refine aw_iret dX9_go_64 (Nat.zero_le _) (Nat.zero_le _) ?_
      refine ⟨rfl, _, _, rfl, ?_, rfl⟩
      rw [goF, if_pos c_39]
      exact ⟨(SM_go I F (nI x) (nI d) _ _ _).1, fun _ _ _ _ _ => rfl⟩
    · obtain ⟨e, he, ee, heb⟩ := hsec.resolve_left c_39
      refine aw_aload_n dX9_go_42 rfl rfl ?_
      refine aw_get fd_X9_28_9 dX9_go_43 (by decide) he_LM7 rfl ?_
      refine aw_bipush (v := (6)) dX9_go_46 (by decide) ?_
      refine aw_iload_n dX9_go_48 rfl rfl ?_
      refine aw_imul dX9_go_49 ?_
      refine aw_aload_n dX9_go_50 rfl rfl ?_
      refine aw_get fd_X9_136_9 dX9_go_51 (by decide) he_LM7 rfl ?_
      refine aw_iadd dX9_go_54 ?_
      rw [ee, ix6]
      refine aw_dup2 dX9_go_55 rfl rfl ?_
      refine aw_iald dX9_go_56 (by decide) rfl (vp_in_nI (n := 6 * d + e) (by omega) (by decide)) ?_
      refine aw_aload_n dX9_go_57 rfl rfl ?_
      refine aw_get fd_X9_130_9 dX9_go_58 (by decide) he_LM7 rfl ?_
      refine aw_iadd dX9_go_61 ?_
      refine aw_iasti dX9_go_62 (by decide) rfl (fun _ => rfl) (vp_in_nI (n := 6 * d + e) (by omega) (by decide)) ?_
      refine aw_iload_n dX9_go_63 rfl rfl ?_
      refine aw_iret dX9_go_64 (Nat.zero_le _) (Nat.zero_le _) ?_
      refine ⟨rfl, _, _, rfl, ?_, rfl⟩
      rw [ee] at c_39
      rw [goF, if_neg c_39, nI_clamp (n := d) (by omega), nI_clamp (n := e) (by omega), nI_clamp (n := 6 * d + e) (by omega)]
      exact ⟨(SM_go I F (nI x) (nI d) _ _ _).1, fun _ _ _ _ _ => rfl⟩
  · exact absurd ((nI_eq (a := x) (b := 0) (by omega) (by decide)).mp c_4) h0
set_option maxRecDepth 100000 in
set_option maxHeartbeats 4000000 in
theorem lp_X9_findOrder {l : Launch} {D : va_G} {tc : Nat → ClassId} (I F : Nat → Nat → Int32) {c : Nat} (hc : c ≤ 6) (hI5 : I 0 5 = nI c) {x : Nat} (hx : x < 2 ^ c) (hI7 : I 0 7 = nI x) (hH : HH F c) : ∀ (m i : Nat) (f h s : Int32), i + m = 6 → gtC (myM I F) (nI x) i m = (gtM (myM I F) (nI x)) → AW l D tc yX9_findOrder.cls cX9_findOrder 2 none { frames := 3, cells := 0, slots := 0, locals := 66 } 15 0 0 (fun v n1 h1 => n1 = 15 ∧ (v = none ∧ ∃ I1 F1, h1 = hM I1 F1 ∧ SM I F I1 F1 ∧ I1 0 22 = nI (gtM (myM I F) (nI x)) ∧ ∀ q, q < (gtM (myM I F) (nI x)) → F1 9 q = dnN (myM I F) (nI x) q ∧ F1 10 q = frN (myM I F) (nI x) q)) 10 [some (.ref 0), some (.int (lfN (myM I F) (nI x) i))] [] 15 (hM (LM (st_I I 0 22 (nI i)) f h s) (moF F (myM I F) (nI x) i)) 0 0 := by
  have h6 : 2 ^ c ≤ 2 ^ 6 := Nat.pow_le_pow_right (by decide) hc
  intro m
  induction m using Nat.strongRecOn with
  | _ m ih =>
    intro i f h s hi hq
    refine aw_iload_n dX9_findOrder_10 rfl rfl ?_
    refine aw_if_eq (tgt := 72) dX9_findOrder_11 (by decide) (fun c_11 => ?_) (fun c_11 => ?_)
    · refine aw_vret dX9_findOrder_72 (Nat.zero_le _) (Nat.zero_le _) ?_
      have hM : (gtM (myM I F) (nI x)) = i := by
        rw [← hq]
        cases m with
        | zero => rfl
        | succ m2 => rw [gtC, if_pos c_11]
      rw [hM]
      refine ⟨rfl, rfl, _, _, rfl, SM_mo I F _ _ _ _ _ _ _, rfl, fun q hq9 => ⟨if_pos hq9, if_pos hq9⟩⟩
    · have hi6 := lfN_6 hc hx (fun m h => myM_le (I := I) hc hH h) c_11
      obtain ⟨mm, em, hm2, _⟩ := lfN_n (my := myM I F) hc hx (fun m h => myM_le (I := I) hc hH h) i
      have hm0 : mm ≠ 0 := fun e => c_11 (by rw [em, e]; rfl)
      refine aw_aload_n dX9_findOrder_14 rfl rfl ?_
      refine aw_get fd_X9_34_9 dX9_findOrder_15 (by decide) he_LO rfl ?_
      refine aw_aload_n dX9_findOrder_18 rfl rfl ?_
      refine aw_get fd_X9_162_9 dX9_findOrder_19 (by decide) he_LO rfl ?_
      refine aw_aload_n dX9_findOrder_22 rfl rfl ?_
      refine aw_iload_n dX9_findOrder_23 rfl rfl ?_
      rw [em]
      refine aw_callV cw_X9_callOf ml_X9_145 im_X9_callOf sl_X9_X9_callOf rfl (by decide) he_LO (c_X9_callOf3 (st_I I 0 22 (nI i)) (moF F (myM I F) (nI x) i) hc hI5 hm2 hm0 hH f h s) ⟨Nat.le_of_ble_eq_true rfl, Nat.le_of_ble_eq_true rfl⟩ ⟨Nat.zero_le _, Nat.zero_le _⟩ rfl rfl (Nat.le_of_ble_eq_true rfl) dX9_findOrder_24 ?_
      rintro _ _ ⟨rfl, rfl⟩
      rw [myM_mo, ← em]
      rw [show sDown (myM I F) (lfN (myM I F) (nI x) i) = dnN (myM I F) (nI x) i from rfl]
      refine aw_iasti dX9_findOrder_27 (by decide) rfl (fun _ => rfl) (vp_in_nI hi6 (by decide)) ?_
      refine aw_aload_n dX9_findOrder_28 rfl rfl ?_
      refine aw_get fd_X9_37_9 dX9_findOrder_29 (by decide) he_LO rfl ?_
      refine aw_aload_n dX9_findOrder_32 rfl rfl ?_
      refine aw_get fd_X9_162_9 dX9_findOrder_33 (by decide) he_LO rfl ?_
      refine aw_aload_n dX9_findOrder_36 rfl rfl ?_
      refine aw_get fd_X9_130_9 dX9_findOrder_37 (by decide) he_LO rfl ?_
      refine aw_iastI dX9_findOrder_40 (by decide) rfl (fun _ => rfl) (vp_in_nI hi6 (by decide)) (show _ = moF F (myM I F) (nI x) (i + 1) from by rw [← moF_s, nI_clamp (show i < 2 ^ 31 by omega)]; rfl) ?_
      refine aw_aload_n dX9_findOrder_41 rfl rfl ?_
      refine aw_dup dX9_findOrder_42 rfl ?_
      refine aw_get fd_X9_162_9 dX9_findOrder_43 (by decide) he_LO rfl ?_
      refine aw_iconst (v := 1) dX9_findOrder_46 (by decide) ?_
      refine aw_iadd dX9_findOrder_47 ?_
      refine aw_putI fp_X9_162_9 dX9_findOrder_48 (by decide) he_LO rfl rfl (Nat.le_of_ble_eq_true rfl) rfl (LM_22 _ _ _ _ _ _) ?_
      refine aw_iload_n dX9_findOrder_51 rfl rfl ?_
      refine aw_iconst (v := 1) dX9_findOrder_52 (by decide) ?_
      refine aw_aload_n dX9_findOrder_53 rfl rfl ?_
      refine aw_get fd_X9_34_9 dX9_findOrder_54 (by decide) he_LO rfl ?_
      refine aw_aload_n dX9_findOrder_57 rfl rfl ?_
      refine aw_get fd_X9_162_9 dX9_findOrder_58 (by decide) he_LO rfl ?_
      refine aw_iconst (v := 1) dX9_findOrder_61 (by decide) ?_
      refine aw_isub dX9_findOrder_62 ?_
      rw [nI_1, nI_pred]
      refine aw_iald dX9_findOrder_63 (by decide) rfl (vp_in_nI hi6 (by decide)) ?_
      rw [show moF F (myM I F) (nI x) (i + 1) 9 (nI i).toNatClampNeg = dnN (myM I F) (nI x) i from by rw [nI_clamp (by omega)]; exact if_pos (by omega)]
      refine aw_ishl dX9_findOrder_64 ?_
      refine aw_iconst (v := (-1)) dX9_findOrder_65 (by decide) ?_
      refine aw_ixor dX9_findOrder_66 ?_
      refine aw_iand dX9_findOrder_67 ?_
      refine aw_istore_n dX9_findOrder_68 rfl (by decide) rfl ?_
      refine aw_goto (tgt := 10) dX9_findOrder_69 (by decide) ?_
      exact ih (m - 1) (by omega) (i + 1) _ _ _ (by omega) (by
        obtain ⟨m2, rfl⟩ : ∃ m2, m = m2 + 1 := ⟨m - 1, by omega⟩
        rw [← hq, gtC, if_neg c_11]
        rfl)
set_option maxRecDepth 100000 in
set_option maxHeartbeats 4000000 in
theorem c_X9_findOrder {l : Launch} {D : va_G} {tc : Nat → ClassId} (I F : Nat → Nat → Int32) {c : Nat} (hc : c ≤ 6) (hI5 : I 0 5 = nI c) {x : Nat} (hx : x < 2 ^ c) (hI7 : I 0 7 = nI x) (hH : HH F c) : AM l D tc yX9_findOrder cX9_findOrder 2 none 3 66 0 0 [.ref 0] 15 (hM I F) (fun v n1 h1 => n1 = 15 ∧ (v = none ∧ ∃ I1 F1, h1 = hM I1 F1 ∧ SM I F I1 F1 ∧ I1 0 22 = nI (gtM (myM I F) (nI x)) ∧ ∀ q, q < (gtM (myM I F) (nI x)) → F1 9 q = dnN (myM I F) (nI x) q ∧ F1 10 q = frN (myM I F) (nI x) q)) := by
  refine am_of (L := [some (.ref 0), none]) (by decide +kernel) (Nat.le_of_ble_eq_true rfl) rfl ?_
  refine aw_aload_n dX9_findOrder_0 rfl rfl ?_
  refine aw_iconst (v := 0) dX9_findOrder_1 (by decide) ?_
  refine aw_puti fp_X9_162_9 dX9_findOrder_2 (by decide) rfl rfl rfl (Nat.le_of_ble_eq_true rfl) rfl ?_
  refine aw_aload_n dX9_findOrder_5 rfl rfl ?_
  refine aw_get fd_X9_98_9 dX9_findOrder_6 (by decide) rfl rfl ?_
  rw [show st_I I 0 22 0 0 7 = nI x from hI7]
  refine aw_istore_n dX9_findOrder_9 rfl (by decide) rfl ?_
  have hl := lp_X9_findOrder (l := l) (D := D) (tc := tc) I F hc hI5 hx hI7 hH 6 0 (I 0 17) (I 0 18) (I 0 19) (by omega) rfl
  rw [moF_0, show LM (st_I I 0 22 (nI 0)) (I 0 17) (I 0 18) (I 0 19) = st_I I 0 22 0 from (LM_I (st_I I 0 22 0)).symm] at hl
  exact hl
