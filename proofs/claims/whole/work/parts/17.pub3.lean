theorem gt_9 {i : Nat} {N : Nat} (hN : N < 2 ^ 31) (hi : i ≤ N + 1) (c : nI N < nI i) : i = N + 1 := by
  rcases Nat.lt_or_ge N i with q | q
  · omega
  · exact absurd c (nI_nlt q hN)
theorem le_9 {i : Nat} {N : Nat} (hi : i < 2 ^ 31) (c : ¬ nI N < nI i) : i ≤ N := by
  rcases Nat.lt_or_ge N i with q | q
  · exact absurd (nI_lt q hi) c
  · exact q
theorem SC.cs {I F I1 F1 : Nat → Nat → Int32} (h : SC I F I1 F1) (g : Nat → Int32) : SC I F I1 (st_F F1 3 g) := h.tr (SC.F 3 (by decide) g)

set_option maxRecDepth 100000 in
set_option maxHeartbeats 4000000 in
theorem c_X8_hastes_no {l : Launch} {D : va_G} {tc : Nat → ClassId} (pk : Nat → Nat) (G : Nat → Option Nat) (I F : Nat → Nat → Int32) (n : Nat) (hn : 30 ≤ n) {c : Nat} (hI0 : I 0 7 = nI c) {x : Int32} (hx : sP c x = false) : AM l D tc yX8_hastes cX8_hastes 6 (some .int) 3 66 0 0 [.ref 0, .int x] n (hC pk G I F) (fun v n1 h1 => n1 = n ∧ (v = some (.int (-1)) ∧ h1 = hC pk G I F)) := by
  refine am_of (L := [some (.ref 0), some (.int x), none, none, none, none]) (by decide +kernel) (Nat.le_of_ble_eq_true rfl) rfl ?_
  refine aw_aload_n dX8_hastes_0 rfl rfl ?_
  refine aw_iload_n dX8_hastes_1 rfl rfl ?_
  refine aw_callV cw_X8_personAt ml_X8_87 im_X8_personAt sl_X8_X8_personAt rfl (by omega) rfl (c_X8_personAt_no pk G _ _ n hn hI0 hx) ⟨Nat.le_of_ble_eq_true rfl, Nat.le_of_ble_eq_true rfl⟩ ⟨Nat.zero_le _, Nat.zero_le _⟩ rfl rfl (Nat.le_of_ble_eq_true rfl) dX8_hastes_2 ?_
  rintro _ _ ⟨rfl, rfl⟩
  refine aw_astore_nN dX8_hastes_5 rfl (by decide) rfl ?_
  refine aw_aload_nN dX8_hastes_6 rfl rfl ?_
  refine aw_ifnonnullN dX8_hastes_7 ?_
  refine aw_iconst (v := (-1)) dX8_hastes_10 (by decide) ?_
  refine aw_iret dX8_hastes_11 (Nat.zero_le _) (Nat.zero_le _) ?_
  exact ⟨rfl, rfl, rfl⟩
set_option maxRecDepth 100000 in
set_option maxHeartbeats 4000000 in
theorem lp_X8_hastes {l : Launch} {D : va_G} {tc : Nat → ClassId} (pk : Nat → Nat) (G : Nat → Option Nat) (I F : Nat → Nat → Int32) (n : Nat) (hn : 30 ≤ n) {c : Nat} {g : Nat → Nat} (hW : WP pk G n c g) (hI0 : I 0 7 = nI c) {p : Nat} (hp : p < c) {r : Nat} (hr : r ≤ 8) (hI1 : I 17 3 = nI r) (hw : ∀ k, k < r → vp_in (F 18 k) 6) : ∀ (m i : Nat) (I1 F1 : Nat → Nat → Int32) , SC I F I1 F1 → (∀ j, j < 6 → j ≠ p → F1 3 j = myC pk g I c j) → i + m = 10 → ∀ (b : Int32), bsN (fun v => rdAll (upd (myC pk g I c) p (sMay (kd (pk (g p))) (nI v) (I (g p + 30) 2) (I 0 8))) (F 18) (F 19) (F 20) r) i = b → AW l D tc yX8_hastes.cls cX8_hastes 6 (some .int) { frames := 3, cells := 0, slots := 0, locals := 66 } n 0 0 (fun v n1 h1 => n1 = n ∧ (∃ I1 F1, SC I F I1 F1 ∧ h1 = hC pk G I1 F1 ∧ v = some (.int (bsN (fun v => rdAll (upd (myC pk g I c) p (sMay (kd (pk (g p))) (nI v) (I (g p + 30) 2) (I 0 8))) (F 18) (F 19) (F 20) r) 10)))) 23 [some (.ref 0), some (.int (nI p)), some (.ref (g p + 30)), some (.ref 3), some (.int b), some (.int (nI i))] [] n (hC pk G I1 F1) 0 0 := by
  intro m
  induction m using Nat.strongRecOn with
  | _ m ih =>
    intro i I1 F1 hs h3 hi b hb
    refine aw_iload dX8_hastes_23 rfl ?_
    refine aw_bipush (v := (9)) dX8_hastes_25 (by decide) ?_
    refine aw_icmp_gt (tgt := 78) dX8_hastes_27 (by decide) (fun c_27 => ?_) (fun c_27 => ?_)
    · have hi6 := gt_9 (N := 9) (by decide) (by omega) c_27
      subst hi6
      refine aw_iload dX8_hastes_78 rfl ?_
      refine aw_iret dX8_hastes_80 (Nat.zero_le _) (Nat.zero_le _) ?_
      refine ⟨rfl, I1, F1, hs, rfl, ?_⟩
      rw [hb]
    · have hi6 := le_9 (N := 9) (by omega) c_27
      refine aw_aload_n dX8_hastes_30 rfl rfl ?_
      refine aw_iload_n dX8_hastes_31 rfl rfl ?_
      refine aw_aload_n dX8_hastes_32 rfl rfl ?_
      refine aw_aload_n dX8_hastes_33 rfl rfl ?_
      refine aw_kindP (hW.2 _ hp).2.2 (hW.2 _ hp).2.1 ⟨Nat.le_of_ble_eq_true rfl, Nat.le_of_ble_eq_true rfl⟩ ⟨Nat.zero_le _, Nat.zero_le _⟩ (Nat.le_of_ble_eq_true rfl) dX8_hastes_34 ?_
      refine aw_iload dX8_hastes_37 rfl ?_
      refine aw_aload_n dX8_hastes_39 rfl rfl ?_
      refine aw_getP fd_X8_98_1 fd_X8_98_3 fd_X8_98_4 (hW.2 _ hp).2.2 dX8_hastes_40 (hW.2 _ hp).2.1 (he_per _) rfl ?_
      refine aw_callV cw_X8_mayGo ml_X8_105 im_X8_mayGo sl_X8_X8_mayGo rfl (by omega) rfl (c_X8_mayGo pk G _ _ n hn _ _ _) ⟨Nat.le_of_ble_eq_true rfl, Nat.le_of_ble_eq_true rfl⟩ ⟨Nat.zero_le _, Nat.zero_le _⟩ rfl rfl (Nat.le_of_ble_eq_true rfl) dX8_hastes_43 ?_
      rintro _ _ ⟨rfl, rfl⟩
      refine aw_iasti dX8_hastes_46 (by omega) rfl (fun _ => rfl) (vp_in_nI (by have := hW.1; omega) (by decide)) ?_
      rw [nI_clamp (show p < 2 ^ 31 by have := hW.1; omega), hs.1 0 (by decide), hs.1 (g p + 30) (by omega)]
      have eT : rdAll (st_F F1 3 (upd (F1 3) p (sMay (kd (pk (g p))) (nI i) (I (g p + 30) 2) (I 0 8))) 3) (st_F F1 3 (upd (F1 3) p (sMay (kd (pk (g p))) (nI i) (I (g p + 30) 2) (I 0 8))) 18) (st_F F1 3 (upd (F1 3) p (sMay (kd (pk (g p))) (nI i) (I (g p + 30) 2) (I 0 8))) 19) (st_F F1 3 (upd (F1 3) p (sMay (kd (pk (g p))) (nI i) (I (g p + 30) 2) (I 0 8))) 20) r = (fun v => rdAll (upd (myC pk g I c) p (sMay (kd (pk (g p))) (nI v) (I (g p + 30) 2) (I 0 8))) (F 18) (F 19) (F 20) r) i := by
        rw [st_Fs, st_Fn (by decide), st_Fn (by decide), st_Fn (by decide), hs.2 18 (by decide) (by decide) (by decide) (by decide) (by decide), hs.2 19 (by decide) (by decide) (by decide) (by decide) (by decide), hs.2 20 (by decide) (by decide) (by decide) (by decide) (by decide)]
        exact rdAll_c (upd_c h3) hw
      refine aw_iload dX8_hastes_47 rfl ?_
      refine aw_aload_n dX8_hastes_49 rfl rfl ?_
      refine aw_get fd_X8_44_8 dX8_hastes_50 (by omega) rfl rfl ?_
      refine aw_aload_n dX8_hastes_53 rfl rfl ?_
      refine aw_callV cw_X5_areSo ml_X8_206 im_X5_areSo sl_X5_X5_areSo rfl (by omega) rfl (c_X5_areSo pk G I1 _ n hn hr (by rw [hs.1 17 (by decide)]; exact hI1) (fun k hk => by show vp_in (st_F F1 3 _ 18 k) 6; rw [st_Fn (by decide), hs.2 18 (by decide) (by decide) (by decide) (by decide) (by decide)]; exact hw k hk)) ⟨Nat.le_of_ble_eq_true rfl, Nat.le_of_ble_eq_true rfl⟩ ⟨Nat.zero_le _, Nat.zero_le _⟩ rfl rfl (Nat.le_of_ble_eq_true rfl) dX8_hastes_54 ?_
      rintro _ _ ⟨rfl, rfl⟩
      rw [eT]
      refine aw_ifB_eq (tgt := 68) dX8_hastes_57 (by decide) (fun c_57 => ?_) (fun c_57 => ?_)
      · refine aw_iconst (v := 0) dX8_hastes_68 (by decide) ?_
        refine aw_ior dX8_hastes_69 ?_
        refine aw_istore dX8_hastes_70 (by decide) rfl ?_
        refine aw_iinc (v := 1) dX8_hastes_72 rfl (by decide) (by decide) rfl ?_
        refine aw_goto (tgt := 23) dX8_hastes_75 (by decide) ?_
        rw [nI_1]
        exact ih (m - 1) (by omega) (i + 1) _ _ (hs.cs _) (fun j hj hjp => by rw [st_Fs]; exact (if_neg hjp).trans (h3 j hj hjp)) (by omega) _ (by rw [bsN, hb]; simp [*])
      · refine aw_iload dX8_hastes_60 rfl ?_
        refine aw_callS cw_X8_bit ml_X8_137 sm_X8_bit (c_X8_bit _ _ _) ⟨Nat.le_of_ble_eq_true rfl, Nat.le_of_ble_eq_true rfl⟩ ⟨Nat.zero_le _, Nat.zero_le _⟩ rfl rfl (Nat.le_of_ble_eq_true rfl) dX8_hastes_62 ?_
        rintro _ _ ⟨rfl, rfl⟩
        refine aw_goto (tgt := 69) dX8_hastes_65 (by decide) ?_
        refine aw_ior dX8_hastes_69 ?_
        refine aw_istore dX8_hastes_70 (by decide) rfl ?_
        refine aw_iinc (v := 1) dX8_hastes_72 rfl (by decide) (by decide) rfl ?_
        refine aw_goto (tgt := 23) dX8_hastes_75 (by decide) ?_
        rw [nI_1]
        exact ih (m - 1) (by omega) (i + 1) _ _ (hs.cs _) (fun j hj hjp => by rw [st_Fs]; exact (if_neg hjp).trans (h3 j hj hjp)) (by omega) _ (by rw [bsN, hb]; simp [*])
set_option maxRecDepth 100000 in
set_option maxHeartbeats 4000000 in
theorem c_X8_hastes {l : Launch} {D : va_G} {tc : Nat → ClassId} (pk : Nat → Nat) (G : Nat → Option Nat) (I F : Nat → Nat → Int32) (n : Nat) (hn : 30 ≤ n) {c : Nat} {g : Nat → Nat} (hW : WP pk G n c g) (hI0 : I 0 7 = nI c) {p : Nat} (hp : p < c) {r : Nat} (hr : r ≤ 8) (hI1 : I 17 3 = nI r) (hw : ∀ k, k < r → vp_in (F 18 k) 6) : AM l D tc yX8_hastes cX8_hastes 6 (some .int) 3 66 0 0 [.ref 0, .int (nI p)] n (hC pk G I F) (fun v n1 h1 => n1 = n ∧ (∃ I1 F1, SC I F I1 F1 ∧ h1 = hC pk G I1 F1 ∧ v = some (.int (bsN (fun v => rdAll (upd (myC pk g I c) p (sMay (kd (pk (g p))) (nI v) (I (g p + 30) 2) (I 0 8))) (F 18) (F 19) (F 20) r) 10)))) := by
  refine am_of (L := [some (.ref 0), some (.int (nI p)), none, none, none, none]) (by decide +kernel) (Nat.le_of_ble_eq_true rfl) rfl ?_
  refine aw_aload_n dX8_hastes_0 rfl rfl ?_
  refine aw_iload_n dX8_hastes_1 rfl rfl ?_
  refine aw_callV cw_X8_personAt ml_X8_87 im_X8_personAt sl_X8_X8_personAt rfl (by omega) rfl (c_X8_personAt pk G _ _ n hn hW hI0 hp rfl) ⟨Nat.le_of_ble_eq_true rfl, Nat.le_of_ble_eq_true rfl⟩ ⟨Nat.zero_le _, Nat.zero_le _⟩ rfl rfl (Nat.le_of_ble_eq_true rfl) dX8_hastes_2 ?_
  rintro _ _ ⟨rfl, rfl⟩
  refine aw_astore_n dX8_hastes_5 rfl (by decide) rfl ?_
  refine aw_aload_n dX8_hastes_6 rfl rfl ?_
  refine aw_ifnonnull (tgt := 12) dX8_hastes_7 (by decide) ?_
  refine aw_aload_n dX8_hastes_12 rfl rfl ?_
  refine aw_callV cw_X8_maysNow ml_X8_129 im_X8_maysNow sl_X8_X8_maysNow rfl (by omega) rfl (c_X8_maysNow pk G _ _ n hn hW hI0) ⟨Nat.le_of_ble_eq_true rfl, Nat.le_of_ble_eq_true rfl⟩ ⟨Nat.zero_le _, Nat.zero_le _⟩ rfl rfl (Nat.le_of_ble_eq_true rfl) dX8_hastes_13 ?_
  rintro _ _ ⟨rfl, rfl⟩
  refine aw_astore_n dX8_hastes_16 rfl (by decide) rfl ?_
  refine aw_iconst (v := 0) dX8_hastes_17 (by decide) ?_
  refine aw_istore dX8_hastes_18 (by decide) rfl ?_
  refine aw_iconst (v := 0) dX8_hastes_20 (by decide) ?_
  refine aw_istore dX8_hastes_21 (by decide) rfl ?_
  exact lp_X8_hastes pk G I F n hn hW hI0 hp hr hI1 hw 10 0 I (mnF F (myC pk g I c)) (SC.mn I F _) (fun j hj _ => by rw [mn3]; exact pf6 _ _ j hj) (by omega) 0 rfl
set_option maxRecDepth 100000 in
set_option maxHeartbeats 4000000 in
theorem c_X8_rooms_no {l : Launch} {D : va_G} {tc : Nat → ClassId} (pk : Nat → Nat) (G : Nat → Option Nat) (I F : Nat → Nat → Int32) (n : Nat) (hn : 30 ≤ n) {c : Nat} (hI0 : I 0 7 = nI c) {x : Int32} (hx : sP c x = false) : AM l D tc yX8_rooms cX8_rooms 6 (some .int) 3 66 0 0 [.ref 0, .int x] n (hC pk G I F) (fun v n1 h1 => n1 = n ∧ (v = some (.int (-1)) ∧ h1 = hC pk G I F)) := by
  refine am_of (L := [some (.ref 0), some (.int x), none, none, none, none]) (by decide +kernel) (Nat.le_of_ble_eq_true rfl) rfl ?_
  refine aw_aload_n dX8_rooms_0 rfl rfl ?_
  refine aw_iload_n dX8_rooms_1 rfl rfl ?_
  refine aw_callV cw_X8_personAt ml_X8_87 im_X8_personAt sl_X8_X8_personAt rfl (by omega) rfl (c_X8_personAt_no pk G _ _ n hn hI0 hx) ⟨Nat.le_of_ble_eq_true rfl, Nat.le_of_ble_eq_true rfl⟩ ⟨Nat.zero_le _, Nat.zero_le _⟩ rfl rfl (Nat.le_of_ble_eq_true rfl) dX8_rooms_2 ?_
  rintro _ _ ⟨rfl, rfl⟩
  refine aw_astore_nN dX8_rooms_5 rfl (by decide) rfl ?_
  refine aw_aload_nN dX8_rooms_6 rfl rfl ?_
  refine aw_ifnonnullN dX8_rooms_7 ?_
  refine aw_iconst (v := (-1)) dX8_rooms_10 (by decide) ?_
  refine aw_iret dX8_rooms_11 (Nat.zero_le _) (Nat.zero_le _) ?_
  exact ⟨rfl, rfl, rfl⟩
set_option maxRecDepth 100000 in
set_option maxHeartbeats 4000000 in
theorem lp_X8_rooms {l : Launch} {D : va_G} {tc : Nat → ClassId} (pk : Nat → Nat) (G : Nat → Option Nat) (I F : Nat → Nat → Int32) (n : Nat) (hn : 30 ≤ n) {c : Nat} {g : Nat → Nat} (hW : WP pk G n c g) (hI0 : I 0 7 = nI c) {p : Nat} (hp : p < c) {r : Nat} (hr : r ≤ 8) (hI1 : I 17 3 = nI r) (hw : ∀ k, k < r → vp_in (F 18 k) 6) : ∀ (m i : Nat) (I1 F1 : Nat → Nat → Int32) , SC I F I1 F1 → (∀ j, j < 6 → j ≠ p → F1 3 j = myC pk g I c j) → i + m = 10 → ∀ (b : Int32), bsN (fun v => rdAll (upd (myC pk g I c) p (sMay (kd (pk (g p))) (I (g p + 30) 1) (nI v) (I 0 8))) (F 18) (F 19) (F 20) r) i = b → AW l D tc yX8_rooms.cls cX8_rooms 6 (some .int) { frames := 3, cells := 0, slots := 0, locals := 66 } n 0 0 (fun v n1 h1 => n1 = n ∧ (∃ I1 F1, SC I F I1 F1 ∧ h1 = hC pk G I1 F1 ∧ v = some (.int (bsN (fun v => rdAll (upd (myC pk g I c) p (sMay (kd (pk (g p))) (I (g p + 30) 1) (nI v) (I 0 8))) (F 18) (F 19) (F 20) r) 10)))) 23 [some (.ref 0), some (.int (nI p)), some (.ref (g p + 30)), some (.ref 3), some (.int b), some (.int (nI i))] [] n (hC pk G I1 F1) 0 0 := by
  intro m
  induction m using Nat.strongRecOn with
  | _ m ih =>
    intro i I1 F1 hs h3 hi b hb
    refine aw_iload dX8_rooms_23 rfl ?_
    refine aw_bipush (v := (9)) dX8_rooms_25 (by decide) ?_
    refine aw_icmp_gt (tgt := 78) dX8_rooms_27 (by decide) (fun c_27 => ?_) (fun c_27 => ?_)
    · have hi6 := gt_9 (N := 9) (by decide) (by omega) c_27
      subst hi6
      refine aw_iload dX8_rooms_78 rfl ?_
      refine aw_iret dX8_rooms_80 (Nat.zero_le _) (Nat.zero_le _) ?_
      refine ⟨rfl, I1, F1, hs, rfl, ?_⟩
      rw [hb]
    · have hi6 := le_9 (N := 9) (by omega) c_27
      refine aw_aload_n dX8_rooms_30 rfl rfl ?_
      refine aw_iload_n dX8_rooms_31 rfl rfl ?_
      refine aw_aload_n dX8_rooms_32 rfl rfl ?_
      refine aw_aload_n dX8_rooms_33 rfl rfl ?_
      refine aw_kindP (hW.2 _ hp).2.2 (hW.2 _ hp).2.1 ⟨Nat.le_of_ble_eq_true rfl, Nat.le_of_ble_eq_true rfl⟩ ⟨Nat.zero_le _, Nat.zero_le _⟩ (Nat.le_of_ble_eq_true rfl) dX8_rooms_34 ?_
      refine aw_aload_n dX8_rooms_37 rfl rfl ?_
      refine aw_getP fd_X8_95_1 fd_X8_95_3 fd_X8_95_4 (hW.2 _ hp).2.2 dX8_rooms_38 (hW.2 _ hp).2.1 (he_per _) rfl ?_
      refine aw_iload dX8_rooms_41 rfl ?_
      refine aw_callV cw_X8_mayGo ml_X8_105 im_X8_mayGo sl_X8_X8_mayGo rfl (by omega) rfl (c_X8_mayGo pk G _ _ n hn _ _ _) ⟨Nat.le_of_ble_eq_true rfl, Nat.le_of_ble_eq_true rfl⟩ ⟨Nat.zero_le _, Nat.zero_le _⟩ rfl rfl (Nat.le_of_ble_eq_true rfl) dX8_rooms_43 ?_
      rintro _ _ ⟨rfl, rfl⟩
      refine aw_iasti dX8_rooms_46 (by omega) rfl (fun _ => rfl) (vp_in_nI (by have := hW.1; omega) (by decide)) ?_
      rw [nI_clamp (show p < 2 ^ 31 by have := hW.1; omega), hs.1 0 (by decide), hs.1 (g p + 30) (by omega)]
      have eT : rdAll (st_F F1 3 (upd (F1 3) p (sMay (kd (pk (g p))) (I (g p + 30) 1) (nI i) (I 0 8))) 3) (st_F F1 3 (upd (F1 3) p (sMay (kd (pk (g p))) (I (g p + 30) 1) (nI i) (I 0 8))) 18) (st_F F1 3 (upd (F1 3) p (sMay (kd (pk (g p))) (I (g p + 30) 1) (nI i) (I 0 8))) 19) (st_F F1 3 (upd (F1 3) p (sMay (kd (pk (g p))) (I (g p + 30) 1) (nI i) (I 0 8))) 20) r = (fun v => rdAll (upd (myC pk g I c) p (sMay (kd (pk (g p))) (I (g p + 30) 1) (nI v) (I 0 8))) (F 18) (F 19) (F 20) r) i := by
        rw [st_Fs, st_Fn (by decide), st_Fn (by decide), st_Fn (by decide), hs.2 18 (by decide) (by decide) (by decide) (by decide) (by decide), hs.2 19 (by decide) (by decide) (by decide) (by decide) (by decide), hs.2 20 (by decide) (by decide) (by decide) (by decide) (by decide)]
        exact rdAll_c (upd_c h3) hw
      refine aw_iload dX8_rooms_47 rfl ?_
      refine aw_aload_n dX8_rooms_49 rfl rfl ?_
      refine aw_get fd_X8_44_8 dX8_rooms_50 (by omega) rfl rfl ?_
      refine aw_aload_n dX8_rooms_53 rfl rfl ?_
      refine aw_callV cw_X5_areSo ml_X8_206 im_X5_areSo sl_X5_X5_areSo rfl (by omega) rfl (c_X5_areSo pk G I1 _ n hn hr (by rw [hs.1 17 (by decide)]; exact hI1) (fun k hk => by show vp_in (st_F F1 3 _ 18 k) 6; rw [st_Fn (by decide), hs.2 18 (by decide) (by decide) (by decide) (by decide) (by decide)]; exact hw k hk)) ⟨Nat.le_of_ble_eq_true rfl, Nat.le_of_ble_eq_true rfl⟩ ⟨Nat.zero_le _, Nat.zero_le _⟩ rfl rfl (Nat.le_of_ble_eq_true rfl) dX8_rooms_54 ?_
      rintro _ _ ⟨rfl, rfl⟩
      rw [eT]
      refine aw_ifB_eq (tgt := 68) dX8_rooms_57 (by decide) (fun c_57 => ?_) (fun c_57 => ?_)
      · refine aw_iconst (v := 0) dX8_rooms_68 (by decide) ?_
        refine aw_ior dX8_rooms_69 ?_
        refine aw_istore dX8_rooms_70 (by decide) rfl ?_
        refine aw_iinc (v := 1) dX8_rooms_72 rfl (by decide) (by decide) rfl ?_
        refine aw_goto (tgt := 23) dX8_rooms_75 (by decide) ?_
        rw [nI_1]
        exact ih (m - 1) (by omega) (i + 1) _ _ (hs.cs _) (fun j hj hjp => by rw [st_Fs]; exact (if_neg hjp).trans (h3 j hj hjp)) (by omega) _ (by rw [bsN, hb]; simp [*])
      · refine aw_iload dX8_rooms_60 rfl ?_
        refine aw_callS cw_X8_bit ml_X8_137 sm_X8_bit (c_X8_bit _ _ _) ⟨Nat.le_of_ble_eq_true rfl, Nat.le_of_ble_eq_true rfl⟩ ⟨Nat.zero_le _, Nat.zero_le _⟩ rfl rfl (Nat.le_of_ble_eq_true rfl) dX8_rooms_62 ?_
        rintro _ _ ⟨rfl, rfl⟩
        refine aw_goto (tgt := 69) dX8_rooms_65 (by decide) ?_
        refine aw_ior dX8_rooms_69 ?_
        refine aw_istore dX8_rooms_70 (by decide) rfl ?_
        refine aw_iinc (v := 1) dX8_rooms_72 rfl (by decide) (by decide) rfl ?_
        refine aw_goto (tgt := 23) dX8_rooms_75 (by decide) ?_
        rw [nI_1]
        exact ih (m - 1) (by omega) (i + 1) _ _ (hs.cs _) (fun j hj hjp => by rw [st_Fs]; exact (if_neg hjp).trans (h3 j hj hjp)) (by omega) _ (by rw [bsN, hb]; simp [*])
set_option maxRecDepth 100000 in
set_option maxHeartbeats 4000000 in
theorem c_X8_rooms {l : Launch} {D : va_G} {tc : Nat → ClassId} (pk : Nat → Nat) (G : Nat → Option Nat) (I F : Nat → Nat → Int32) (n : Nat) (hn : 30 ≤ n) {c : Nat} {g : Nat → Nat} (hW : WP pk G n c g) (hI0 : I 0 7 = nI c) {p : Nat} (hp : p < c) {r : Nat} (hr : r ≤ 8) (hI1 : I 17 3 = nI r) (hw : ∀ k, k < r → vp_in (F 18 k) 6) : AM l D tc yX8_rooms cX8_rooms 6 (some .int) 3 66 0 0 [.ref 0, .int (nI p)] n (hC pk G I F) (fun v n1 h1 => n1 = n ∧ (∃ I1 F1, SC I F I1 F1 ∧ h1 = hC pk G I1 F1 ∧ v = some (.int (bsN (fun v => rdAll (upd (myC pk g I c) p (sMay (kd (pk (g p))) (I (g p + 30) 1) (nI v) (I 0 8))) (F 18) (F 19) (F 20) r) 10)))) := by
  refine am_of (L := [some (.ref 0), some (.int (nI p)), none, none, none, none]) (by decide +kernel) (Nat.le_of_ble_eq_true rfl) rfl ?_
  refine aw_aload_n dX8_rooms_0 rfl rfl ?_
  refine aw_iload_n dX8_rooms_1 rfl rfl ?_
  refine aw_callV cw_X8_personAt ml_X8_87 im_X8_personAt sl_X8_X8_personAt rfl (by omega) rfl (c_X8_personAt pk G _ _ n hn hW hI0 hp rfl) ⟨Nat.le_of_ble_eq_true rfl, Nat.le_of_ble_eq_true rfl⟩ ⟨Nat.zero_le _, Nat.zero_le _⟩ rfl rfl (Nat.le_of_ble_eq_true rfl) dX8_rooms_2 ?_
  rintro _ _ ⟨rfl, rfl⟩
  refine aw_astore_n dX8_rooms_5 rfl (by decide) rfl ?_
  refine aw_aload_n dX8_rooms_6 rfl rfl ?_
  refine aw_ifnonnull (tgt := 12) dX8_rooms_7 (by decide) ?_
  refine aw_aload_n dX8_rooms_12 rfl rfl ?_
  refine aw_callV cw_X8_maysNow ml_X8_129 im_X8_maysNow sl_X8_X8_maysNow rfl (by omega) rfl (c_X8_maysNow pk G _ _ n hn hW hI0) ⟨Nat.le_of_ble_eq_true rfl, Nat.le_of_ble_eq_true rfl⟩ ⟨Nat.zero_le _, Nat.zero_le _⟩ rfl rfl (Nat.le_of_ble_eq_true rfl) dX8_rooms_13 ?_
  rintro _ _ ⟨rfl, rfl⟩
  refine aw_astore_n dX8_rooms_16 rfl (by decide) rfl ?_
  refine aw_iconst (v := 0) dX8_rooms_17 (by decide) ?_
  refine aw_istore dX8_rooms_18 (by decide) rfl ?_
  refine aw_iconst (v := 0) dX8_rooms_20 (by decide) ?_
  refine aw_istore dX8_rooms_21 (by decide) rfl ?_
  exact lp_X8_rooms pk G I F n hn hW hI0 hp hr hI1 hw 10 0 I (mnF F (myC pk g I c)) (SC.mn I F _) (fun j hj _ => by rw [mn3]; exact pf6 _ _ j hj) (by omega) 0 rfl
set_option maxRecDepth 100000 in
set_option maxHeartbeats 4000000 in
theorem c_X8_kinds_no {l : Launch} {D : va_G} {tc : Nat → ClassId} (pk : Nat → Nat) (G : Nat → Option Nat) (I F : Nat → Nat → Int32) (n : Nat) (hn : 30 ≤ n) {c : Nat} (hI0 : I 0 7 = nI c) {x : Int32} (hx : sP c x = false) : AM l D tc yX8_kinds cX8_kinds 6 (some .int) 3 66 0 0 [.ref 0, .int x] n (hC pk G I F) (fun v n1 h1 => n1 = n ∧ (v = some (.int (-1)) ∧ h1 = hC pk G I F)) := by
  refine am_of (L := [some (.ref 0), some (.int x), none, none, none, none]) (by decide +kernel) (Nat.le_of_ble_eq_true rfl) rfl ?_
  refine aw_aload_n dX8_kinds_0 rfl rfl ?_
  refine aw_iload_n dX8_kinds_1 rfl rfl ?_
  refine aw_callV cw_X8_personAt ml_X8_87 im_X8_personAt sl_X8_X8_personAt rfl (by omega) rfl (c_X8_personAt_no pk G _ _ n hn hI0 hx) ⟨Nat.le_of_ble_eq_true rfl, Nat.le_of_ble_eq_true rfl⟩ ⟨Nat.zero_le _, Nat.zero_le _⟩ rfl rfl (Nat.le_of_ble_eq_true rfl) dX8_kinds_2 ?_
  rintro _ _ ⟨rfl, rfl⟩
  refine aw_astore_nN dX8_kinds_5 rfl (by decide) rfl ?_
  refine aw_aload_nN dX8_kinds_6 rfl rfl ?_
  refine aw_ifnonnullN dX8_kinds_7 ?_
  refine aw_iconst (v := (-1)) dX8_kinds_10 (by decide) ?_
  refine aw_iret dX8_kinds_11 (Nat.zero_le _) (Nat.zero_le _) ?_
  exact ⟨rfl, rfl, rfl⟩
set_option maxRecDepth 100000 in
set_option maxHeartbeats 4000000 in
theorem lp_X8_kinds {l : Launch} {D : va_G} {tc : Nat → ClassId} (pk : Nat → Nat) (G : Nat → Option Nat) (I F : Nat → Nat → Int32) (n : Nat) (hn : 30 ≤ n) {c : Nat} {g : Nat → Nat} (hW : WP pk G n c g) (hI0 : I 0 7 = nI c) {p : Nat} (hp : p < c) {r : Nat} (hr : r ≤ 8) (hI1 : I 17 3 = nI r) (hw : ∀ k, k < r → vp_in (F 18 k) 6) : ∀ (m i : Nat) (I1 F1 : Nat → Nat → Int32) , SC I F I1 F1 → (∀ j, j < 6 → j ≠ p → F1 3 j = myC pk g I c j) → i + m = 3 → ∀ (b : Int32), bsN (fun v => rdAll (upd (myC pk g I c) p (sMay (nI v) (I (g p + 30) 1) (I (g p + 30) 2) (I 0 8))) (F 18) (F 19) (F 20) r) i = b → AW l D tc yX8_kinds.cls cX8_kinds 6 (some .int) { frames := 3, cells := 0, slots := 0, locals := 66 } n 0 0 (fun v n1 h1 => n1 = n ∧ (∃ I1 F1, SC I F I1 F1 ∧ h1 = hC pk G I1 F1 ∧ v = some (.int (bsN (fun v => rdAll (upd (myC pk g I c) p (sMay (nI v) (I (g p + 30) 1) (I (g p + 30) 2) (I 0 8))) (F 18) (F 19) (F 20) r) 3)))) 23 [some (.ref 0), some (.int (nI p)), some (.ref (g p + 30)), some (.ref 3), some (.int b), some (.int (nI i))] [] n (hC pk G I1 F1) 0 0 := by
  intro m
  induction m using Nat.strongRecOn with
  | _ m ih =>
    intro i I1 F1 hs h3 hi b hb
    refine aw_iload dX8_kinds_23 rfl ?_
    refine aw_iconst (v := 2) dX8_kinds_25 (by decide) ?_
    refine aw_icmp_gt (tgt := 77) dX8_kinds_26 (by decide) (fun c_26 => ?_) (fun c_26 => ?_)
    · have hi6 := gt_9 (N := 2) (by decide) (by omega) c_26
      subst hi6
      refine aw_iload dX8_kinds_77 rfl ?_
      refine aw_iret dX8_kinds_79 (Nat.zero_le _) (Nat.zero_le _) ?_
      refine ⟨rfl, I1, F1, hs, rfl, ?_⟩
      rw [hb]
    · have hi6 := le_9 (N := 2) (by omega) c_26
      refine aw_aload_n dX8_kinds_29 rfl rfl ?_
      refine aw_iload_n dX8_kinds_30 rfl rfl ?_
      refine aw_aload_n dX8_kinds_31 rfl rfl ?_
      refine aw_iload dX8_kinds_32 rfl ?_
      refine aw_aload_n dX8_kinds_34 rfl rfl ?_
      refine aw_getP fd_X8_95_1 fd_X8_95_3 fd_X8_95_4 (hW.2 _ hp).2.2 dX8_kinds_35 (hW.2 _ hp).2.1 (he_per _) rfl ?_
      refine aw_aload_n dX8_kinds_38 rfl rfl ?_
      refine aw_getP fd_X8_98_1 fd_X8_98_3 fd_X8_98_4 (hW.2 _ hp).2.2 dX8_kinds_39 (hW.2 _ hp).2.1 (he_per _) rfl ?_
      refine aw_callV cw_X8_mayGo ml_X8_105 im_X8_mayGo sl_X8_X8_mayGo rfl (by omega) rfl (c_X8_mayGo pk G _ _ n hn _ _ _) ⟨Nat.le_of_ble_eq_true rfl, Nat.le_of_ble_eq_true rfl⟩ ⟨Nat.zero_le _, Nat.zero_le _⟩ rfl rfl (Nat.le_of_ble_eq_true rfl) dX8_kinds_42 ?_
      rintro _ _ ⟨rfl, rfl⟩
      refine aw_iasti dX8_kinds_45 (by omega) rfl (fun _ => rfl) (vp_in_nI (by have := hW.1; omega) (by decide)) ?_
      rw [nI_clamp (show p < 2 ^ 31 by have := hW.1; omega), hs.1 0 (by decide), hs.1 (g p + 30) (by omega)]
      have eT : rdAll (st_F F1 3 (upd (F1 3) p (sMay (nI i) (I (g p + 30) 1) (I (g p + 30) 2) (I 0 8))) 3) (st_F F1 3 (upd (F1 3) p (sMay (nI i) (I (g p + 30) 1) (I (g p + 30) 2) (I 0 8))) 18) (st_F F1 3 (upd (F1 3) p (sMay (nI i) (I (g p + 30) 1) (I (g p + 30) 2) (I 0 8))) 19) (st_F F1 3 (upd (F1 3) p (sMay (nI i) (I (g p + 30) 1) (I (g p + 30) 2) (I 0 8))) 20) r = (fun v => rdAll (upd (myC pk g I c) p (sMay (nI v) (I (g p + 30) 1) (I (g p + 30) 2) (I 0 8))) (F 18) (F 19) (F 20) r) i := by
        rw [st_Fs, st_Fn (by decide), st_Fn (by decide), st_Fn (by decide), hs.2 18 (by decide) (by decide) (by decide) (by decide) (by decide), hs.2 19 (by decide) (by decide) (by decide) (by decide) (by decide), hs.2 20 (by decide) (by decide) (by decide) (by decide) (by decide)]
        exact rdAll_c (upd_c h3) hw
      refine aw_iload dX8_kinds_46 rfl ?_
      refine aw_aload_n dX8_kinds_48 rfl rfl ?_
      refine aw_get fd_X8_44_8 dX8_kinds_49 (by omega) rfl rfl ?_
      refine aw_aload_n dX8_kinds_52 rfl rfl ?_
      refine aw_callV cw_X5_areSo ml_X8_206 im_X5_areSo sl_X5_X5_areSo rfl (by omega) rfl (c_X5_areSo pk G I1 _ n hn hr (by rw [hs.1 17 (by decide)]; exact hI1) (fun k hk => by show vp_in (st_F F1 3 _ 18 k) 6; rw [st_Fn (by decide), hs.2 18 (by decide) (by decide) (by decide) (by decide) (by decide)]; exact hw k hk)) ⟨Nat.le_of_ble_eq_true rfl, Nat.le_of_ble_eq_true rfl⟩ ⟨Nat.zero_le _, Nat.zero_le _⟩ rfl rfl (Nat.le_of_ble_eq_true rfl) dX8_kinds_53 ?_
      rintro _ _ ⟨rfl, rfl⟩
      rw [eT]
      refine aw_ifB_eq (tgt := 67) dX8_kinds_56 (by decide) (fun c_56 => ?_) (fun c_56 => ?_)
      · refine aw_iconst (v := 0) dX8_kinds_67 (by decide) ?_
        refine aw_ior dX8_kinds_68 ?_
        refine aw_istore dX8_kinds_69 (by decide) rfl ?_
        refine aw_iinc (v := 1) dX8_kinds_71 rfl (by decide) (by decide) rfl ?_
        refine aw_goto (tgt := 23) dX8_kinds_74 (by decide) ?_
        rw [nI_1]
        exact ih (m - 1) (by omega) (i + 1) _ _ (hs.cs _) (fun j hj hjp => by rw [st_Fs]; exact (if_neg hjp).trans (h3 j hj hjp)) (by omega) _ (by rw [bsN, hb]; simp [*])
      · refine aw_iload dX8_kinds_59 rfl ?_
        refine aw_callS cw_X8_bit ml_X8_137 sm_X8_bit (c_X8_bit _ _ _) ⟨Nat.le_of_ble_eq_true rfl, Nat.le_of_ble_eq_true rfl⟩ ⟨Nat.zero_le _, Nat.zero_le _⟩ rfl rfl (Nat.le_of_ble_eq_true rfl) dX8_kinds_61 ?_
        rintro _ _ ⟨rfl, rfl⟩
        refine aw_goto (tgt := 68) dX8_kinds_64 (by decide) ?_
        refine aw_ior dX8_kinds_68 ?_
        refine aw_istore dX8_kinds_69 (by decide) rfl ?_
        refine aw_iinc (v := 1) dX8_kinds_71 rfl (by decide) (by decide) rfl ?_
        refine aw_goto (tgt := 23) dX8_kinds_74 (by decide) ?_
        rw [nI_1]
        exact ih (m - 1) (by omega) (i + 1) _ _ (hs.cs _) (fun j hj hjp => by rw [st_Fs]; exact (if_neg hjp).trans (h3 j hj hjp)) (by omega) _ (by rw [bsN, hb]; simp [*])
set_option maxRecDepth 100000 in
set_option maxHeartbeats 4000000 in
theorem c_X8_kinds {l : Launch} {D : va_G} {tc : Nat → ClassId} (pk : Nat → Nat) (G : Nat → Option Nat) (I F : Nat → Nat → Int32) (n : Nat) (hn : 30 ≤ n) {c : Nat} {g : Nat → Nat} (hW : WP pk G n c g) (hI0 : I 0 7 = nI c) {p : Nat} (hp : p < c) {r : Nat} (hr : r ≤ 8) (hI1 : I 17 3 = nI r) (hw : ∀ k, k < r → vp_in (F 18 k) 6) : AM l D tc yX8_kinds cX8_kinds 6 (some .int) 3 66 0 0 [.ref 0, .int (nI p)] n (hC pk G I F) (fun v n1 h1 => n1 = n ∧ (∃ I1 F1, SC I F I1 F1 ∧ h1 = hC pk G I1 F1 ∧ v = some (.int (bsN (fun v => rdAll (upd (myC pk g I c) p (sMay (nI v) (I (g p + 30) 1) (I (g p + 30) 2) (I 0 8))) (F 18) (F 19) (F 20) r) 3)))) := by
  refine am_of (L := [some (.ref 0), some (.int (nI p)), none, none, none, none]) (by decide +kernel) (Nat.le_of_ble_eq_true rfl) rfl ?_
  refine aw_aload_n dX8_kinds_0 rfl rfl ?_
  refine aw_iload_n dX8_kinds_1 rfl rfl ?_
  refine aw_callV cw_X8_personAt ml_X8_87 im_X8_personAt sl_X8_X8_personAt rfl (by omega) rfl (c_X8_personAt pk G _ _ n hn hW hI0 hp rfl) ⟨Nat.le_of_ble_eq_true rfl, Nat.le_of_ble_eq_true rfl⟩ ⟨Nat.zero_le _, Nat.zero_le _⟩ rfl rfl (Nat.le_of_ble_eq_true rfl) dX8_kinds_2 ?_
  rintro _ _ ⟨rfl, rfl⟩
  refine aw_astore_n dX8_kinds_5 rfl (by decide) rfl ?_
  refine aw_aload_n dX8_kinds_6 rfl rfl ?_
  refine aw_ifnonnull (tgt := 12) dX8_kinds_7 (by decide) ?_
  refine aw_aload_n dX8_kinds_12 rfl rfl ?_
  refine aw_callV cw_X8_maysNow ml_X8_129 im_X8_maysNow sl_X8_X8_maysNow rfl (by omega) rfl (c_X8_maysNow pk G _ _ n hn hW hI0) ⟨Nat.le_of_ble_eq_true rfl, Nat.le_of_ble_eq_true rfl⟩ ⟨Nat.zero_le _, Nat.zero_le _⟩ rfl rfl (Nat.le_of_ble_eq_true rfl) dX8_kinds_13 ?_
  rintro _ _ ⟨rfl, rfl⟩
  refine aw_astore_n dX8_kinds_16 rfl (by decide) rfl ?_
  refine aw_iconst (v := 0) dX8_kinds_17 (by decide) ?_
  refine aw_istore dX8_kinds_18 (by decide) rfl ?_
  refine aw_iconst (v := 0) dX8_kinds_20 (by decide) ?_
  refine aw_istore dX8_kinds_21 (by decide) rfl ?_
  exact lp_X8_kinds pk G I F n hn hW hI0 hp hr hI1 hw 3 0 I (mnF F (myC pk g I c)) (SC.mn I F _) (fun j hj _ => by rw [mn3]; exact pf6 _ _ j hj) (by omega) 0 rfl
set_option maxRecDepth 100000 in
set_option maxHeartbeats 4000000 in
theorem c_X8_let_no {l : Launch} {D : va_G} {tc : Nat → ClassId} (pk : Nat → Nat) (G : Nat → Option Nat) (I F : Nat → Nat → Int32) (n : Nat) (hn : 30 ≤ n) {c : Nat} (hI0 : I 0 7 = nI c) {x : Int32} (hx : sP c x = false) (w : Int32) : AM l D tc yX8_let cX8_let 6 (some .int) 6 140 0 0 [.ref 0, .int x, .int w] n (hC pk G I F) (fun v n1 h1 => n1 = n ∧ (v = some (.int (-1)) ∧ h1 = hC pk G I F)) := by
  refine am_of (L := [some (.ref 0), some (.int x), some (.int w), none, none, none]) (by decide +kernel) (Nat.le_of_ble_eq_true rfl) rfl ?_
  refine aw_aload_n dX8_let_0 rfl rfl ?_
  refine aw_iload_n dX8_let_1 rfl rfl ?_
  refine aw_callV cw_X8_personAt ml_X8_87 im_X8_personAt sl_X8_X8_personAt rfl (by omega) rfl (c_X8_personAt_no pk G _ _ n hn hI0 hx) ⟨Nat.le_of_ble_eq_true rfl, Nat.le_of_ble_eq_true rfl⟩ ⟨Nat.zero_le _, Nat.zero_le _⟩ rfl rfl (Nat.le_of_ble_eq_true rfl) dX8_let_2 ?_
  rintro _ _ ⟨rfl, rfl⟩
  refine aw_astore_nN dX8_let_5 rfl (by decide) rfl ?_
  refine aw_aload_nN dX8_let_6 rfl rfl ?_
  refine aw_ifnonnullN dX8_let_7 ?_
  refine aw_iconst (v := (-1)) dX8_let_10 (by decide) ?_
  refine aw_iret dX8_let_11 (Nat.zero_le _) (Nat.zero_le _) ?_
  exact ⟨rfl, rfl, rfl⟩
set_option maxRecDepth 100000 in
set_option maxHeartbeats 4000000 in
theorem lp_X8_let {l : Launch} {D : va_G} {tc : Nat → ClassId} (pk : Nat → Nat) (G : Nat → Option Nat) (I F : Nat → Nat → Int32) (n : Nat) (hn : 30 ≤ n) {c : Nat} {g : Nat → Nat} (hW : WP pk G n c g) (hI0 : I 0 7 = nI c) {p : Nat} (hp : p < c) (w : Int32) : ∀ (m i : Nat) (I1 F1 : Nat → Nat → Int32), SC I F I1 F1 → (∀ j, j < 6 → j ≠ p → F1 3 j = myC pk g I c j) → i + m = 10 → ltN (fun v => sPlace (upd (myC pk g I c) p (sMay (kd (pk (g p))) (I (g p + 30) 1) (nI v) (I 0 8))) (I 0 9) (nI p)) w i m = ltN (fun v => sPlace (upd (myC pk g I c) p (sMay (kd (pk (g p))) (I (g p + 30) 1) (nI v) (I 0 8))) (I 0 9) (nI p)) w 0 10 → AW l D tc yX8_let.cls cX8_let 6 (some .int) { frames := 6, cells := 0, slots := 0, locals := 140 } n 0 0 (fun v n1 h1 => n1 = n ∧ (∃ I1 F1, SC I F I1 F1 ∧ h1 = hC pk G I1 F1 ∧ v = some (.int (ltN (fun v => sPlace (upd (myC pk g I c) p (sMay (kd (pk (g p))) (I (g p + 30) 1) (nI v) (I 0 8))) (I 0 9) (nI p)) w 0 10)))) 47 [some (.ref 0), some (.int (nI p)), some (.int w), some (.ref (g p + 30)), some (.ref 3), some (.int (nI i))] [] n (hC pk G I1 F1) 0 0 := by
  intro m
  induction m using Nat.strongRecOn with
  | _ m ih =>
    intro i I1 F1 hs h3 hi hb
    refine aw_iload dX8_let_47 rfl ?_
    refine aw_bipush (v := (9)) dX8_let_49 (by decide) ?_
    refine aw_icmp_gt (tgt := 99) dX8_let_51 (by decide) (fun c_51 => ?_) (fun c_51 => ?_)
    · refine aw_bipush (v := (-9)) dX8_let_99 (by decide) ?_
      refine aw_iret dX8_let_101 (Nat.zero_le _) (Nat.zero_le _) ?_
      have hi6 := gt_9 (N := 9) (by decide) (by omega) c_51
      have hm : m = 0 := by omega
      subst hm
      refine ⟨rfl, _, _, hs, rfl, ?_⟩
      rw [← hb]
      rfl
    · have hi6 := le_9 (N := 9) (by omega) c_51
      refine aw_aload dX8_let_54 rfl ?_
      refine aw_iload_n dX8_let_56 rfl rfl ?_
      refine aw_aload_n dX8_let_57 rfl rfl ?_
      refine aw_aload_n dX8_let_58 rfl rfl ?_
      refine aw_kindP (hW.2 _ hp).2.2 (hW.2 _ hp).2.1 ⟨Nat.le_of_ble_eq_true rfl, Nat.le_of_ble_eq_true rfl⟩ ⟨Nat.zero_le _, Nat.zero_le _⟩ (Nat.le_of_ble_eq_true rfl) dX8_let_59 ?_
      refine aw_aload_n dX8_let_62 rfl rfl ?_
      refine aw_getP fd_X8_95_1 fd_X8_95_3 fd_X8_95_4 (hW.2 _ hp).2.2 dX8_let_63 (hW.2 _ hp).2.1 (he_per _) rfl ?_
      refine aw_iload dX8_let_66 rfl ?_
      refine aw_callV cw_X8_mayGo ml_X8_105 im_X8_mayGo sl_X8_X8_mayGo rfl (by omega) rfl (c_X8_mayGo pk G _ _ n hn _ _ _) ⟨Nat.le_of_ble_eq_true rfl, Nat.le_of_ble_eq_true rfl⟩ ⟨Nat.zero_le _, Nat.zero_le _⟩ rfl rfl (Nat.le_of_ble_eq_true rfl) dX8_let_68 ?_
      rintro _ _ ⟨rfl, rfl⟩
      refine aw_iasti dX8_let_71 (by omega) rfl (fun _ => rfl) (vp_in_nI (by have := hW.1; omega) (by decide)) ?_
      rw [nI_clamp (show p < 2 ^ 31 by have := hW.1; omega), hs.1 0 (by decide), hs.1 (g p + 30) (by omega)]
      have eT : sPlace (st_F F1 3 (upd (F1 3) p (sMay (kd (pk (g p))) (I (g p + 30) 1) (nI i) (I 0 8))) 3) (I1 0 9) (nI p) = (fun v => sPlace (upd (myC pk g I c) p (sMay (kd (pk (g p))) (I (g p + 30) 1) (nI v) (I 0 8))) (I 0 9) (nI p)) i := by
        rw [st_Fs, hs.1 0 (by decide)]
        exact sPlace_c (upd_c h3)
      refine aw_aload_n dX8_let_72 rfl rfl ?_
      refine aw_get fd_X8_30_8 dX8_let_73 (by omega) rfl rfl ?_
      refine aw_iload_n dX8_let_76 rfl rfl ?_
      refine aw_aload dX8_let_77 rfl ?_
      refine aw_aload_n dX8_let_79 rfl rfl ?_
      refine aw_get fd_X8_109_8 dX8_let_80 (by omega) rfl rfl ?_
      refine aw_callV cw_X2_placeOf ml_X8_189 im_X2_placeOf sl_X2_X2_placeOf rfl (by omega) rfl (c_X2_placeOf pk G I1 _ n hn _ _) ⟨Nat.le_of_ble_eq_true rfl, Nat.le_of_ble_eq_true rfl⟩ ⟨Nat.zero_le _, Nat.zero_le _⟩ rfl rfl (Nat.le_of_ble_eq_true rfl) dX8_let_83 ?_
      rintro _ _ ⟨rfl, f9, h9, s9, rfl⟩
      rw [eT]
      refine aw_iload_n dX8_let_86 rfl rfl ?_
      refine aw_icmp_gt (tgt := 93) dX8_let_87 (by decide) (fun c_87 => ?_) (fun c_87 => ?_)
      · refine aw_iinc (v := 1) dX8_let_93 rfl (by decide) (by decide) rfl ?_
        refine aw_goto (tgt := 47) dX8_let_96 (by decide) ?_
        rw [nI_1]
        obtain ⟨m2, rfl⟩ : ∃ m2, m = m2 + 1 := ⟨m - 1, by omega⟩
        exact ih m2 (by omega) (i + 1) _ _ (((hs.cs _).tr (SC.gt _ _ _ _)).tr (SC.l3 _ _ _ _ _)) (fun j hj hjp => by show st_F F1 3 _ 3 j = _; rw [st_Fs]; exact (if_neg hjp).trans (h3 j hj hjp)) (by omega) (by rw [← hb, ltN, if_neg (fun q => absurd c_87 (by rw [Int32.not_lt]; exact q))])
      · refine aw_iload dX8_let_90 rfl ?_
        refine aw_iret dX8_let_92 (Nat.zero_le _) (Nat.zero_le _) ?_
        obtain ⟨m2, rfl⟩ : ∃ m2, m = m2 + 1 := ⟨m - 1, by omega⟩
        refine ⟨rfl, _, _, ((hs.cs _).tr (SC.gt _ _ _ _)).tr (SC.l3 _ _ _ _ _), rfl, ?_⟩
        rw [← hb, ltN, if_pos (Int32.not_lt.mp c_87)]
set_option maxRecDepth 100000 in
set_option maxHeartbeats 4000000 in
theorem c_X8_let {l : Launch} {D : va_G} {tc : Nat → ClassId} (pk : Nat → Nat) (G : Nat → Option Nat) (I F : Nat → Nat → Int32) (n : Nat) (hn : 30 ≤ n) {c : Nat} {g : Nat → Nat} (hW : WP pk G n c g) (hI0 : I 0 7 = nI c) {p : Nat} (hp : p < c) (w : Int32) : AM l D tc yX8_let cX8_let 6 (some .int) 6 140 0 0 [.ref 0, .int (nI p), .int w] n (hC pk G I F) (fun v n1 h1 => n1 = n ∧ (∃ I1 F1, SC I F I1 F1 ∧ h1 = hC pk G I1 F1 ∧ v = some (.int (if sW w 0 5 then (if sHas (I 0 9) (nI p) then ltN (fun v => sPlace (upd (myC pk g I c) p (sMay (kd (pk (g p))) (I (g p + 30) 1) (nI v) (I 0 8))) (I 0 9) (nI p)) w 0 10 else -3) else -2)))) := by
  refine am_of (L := [some (.ref 0), some (.int (nI p)), some (.int w), none, none, none]) (by decide +kernel) (Nat.le_of_ble_eq_true rfl) rfl ?_
  refine aw_aload_n dX8_let_0 rfl rfl ?_
  refine aw_iload_n dX8_let_1 rfl rfl ?_
  refine aw_callV cw_X8_personAt ml_X8_87 im_X8_personAt sl_X8_X8_personAt rfl (by omega) rfl (c_X8_personAt pk G _ _ n hn hW hI0 hp rfl) ⟨Nat.le_of_ble_eq_true rfl, Nat.le_of_ble_eq_true rfl⟩ ⟨Nat.zero_le _, Nat.zero_le _⟩ rfl rfl (Nat.le_of_ble_eq_true rfl) dX8_let_2 ?_
  rintro _ _ ⟨rfl, rfl⟩
  refine aw_astore_n dX8_let_5 rfl (by decide) rfl ?_
  refine aw_aload_n dX8_let_6 rfl rfl ?_
  refine aw_ifnonnull (tgt := 12) dX8_let_7 (by decide) ?_
  refine aw_iload_n dX8_let_12 rfl rfl ?_
  refine aw_iconst (v := 0) dX8_let_13 (by decide) ?_
  refine aw_iconst (v := 5) dX8_let_14 (by decide) ?_
  refine aw_callS cw_X8_isWithin ml_X8_122 sm_X8_isWithin (c_X8_isWithin _ _ _ _ _) ⟨Nat.le_of_ble_eq_true rfl, Nat.le_of_ble_eq_true rfl⟩ ⟨Nat.zero_le _, Nat.zero_le _⟩ rfl rfl (Nat.le_of_ble_eq_true rfl) dX8_let_15 ?_
  rintro _ _ ⟨rfl, rfl⟩
  refine aw_ifB_ne (tgt := 24) dX8_let_18 (by decide) (fun c_18 => ?_) (fun c_18 => ?_)
  · refine aw_aload_n dX8_let_24 rfl rfl ?_
    refine aw_get fd_X8_109_8 dX8_let_25 (by omega) rfl rfl ?_
    refine aw_iload_n dX8_let_28 rfl rfl ?_
    refine aw_callS cw_X8_has ml_X8_112 sm_X8_has (c_X8_has _ _ _ _) ⟨Nat.le_of_ble_eq_true rfl, Nat.le_of_ble_eq_true rfl⟩ ⟨Nat.zero_le _, Nat.zero_le _⟩ rfl rfl (Nat.le_of_ble_eq_true rfl) dX8_let_29 ?_
    rintro _ _ ⟨rfl, rfl⟩
    refine aw_ifB_ne (tgt := 38) dX8_let_32 (by decide) (fun c_32 => ?_) (fun c_32 => ?_)
    · refine aw_aload_n dX8_let_38 rfl rfl ?_
      refine aw_callV cw_X8_maysNow ml_X8_129 im_X8_maysNow sl_X8_X8_maysNow rfl (by omega) rfl (c_X8_maysNow pk G _ _ n hn hW hI0) ⟨Nat.le_of_ble_eq_true rfl, Nat.le_of_ble_eq_true rfl⟩ ⟨Nat.zero_le _, Nat.zero_le _⟩ rfl rfl (Nat.le_of_ble_eq_true rfl) dX8_let_39 ?_
      rintro _ _ ⟨rfl, rfl⟩
      refine aw_astore dX8_let_42 (by decide) rfl ?_
      refine aw_iconst (v := 0) dX8_let_44 (by decide) ?_
      refine aw_istore dX8_let_45 (by decide) rfl ?_
      have hl := lp_X8_let (l := l) (D := D) (tc := tc) pk G I F n hn hW hI0 hp w 10 0 I (mnF F (myC pk g I c)) (SC.mn I F _) (fun j hj _ => by rw [mn3]; exact pf6 _ _ j hj) (by omega) rfl
      rw [if_pos c_18, if_pos c_32]
      exact hl
    · refine aw_bipush (v := (-3)) dX8_let_35 (by decide) ?_
      refine aw_iret dX8_let_37 (Nat.zero_le _) (Nat.zero_le _) ?_
      refine ⟨rfl, _, _, SC.rf _ _, rfl, ?_⟩
      first | (simp [*]; done) | (simp_all; done)
  · refine aw_bipush (v := (-2)) dX8_let_21 (by decide) ?_
    refine aw_iret dX8_let_23 (Nat.zero_le _) (Nat.zero_le _) ?_
    refine ⟨rfl, _, _, SC.rf _ _, rfl, ?_⟩
    first | (simp [*]; done) | (simp_all; done)
set_option maxRecDepth 100000 in
set_option maxHeartbeats 4000000 in
theorem c_X8_were_no {l : Launch} {D : va_G} {tc : Nat → ClassId} (pk : Nat → Nat) (G : Nat → Option Nat) (I F : Nat → Nat → Int32) (n : Nat) (hn : 30 ≤ n) {c : Nat} (hI0 : I 0 7 = nI c) {x : Int32} (hx : sP c x = false) (y : Int32) (w : Int32) : AM l D tc yX8_were cX8_were 9 (some .int) 4 89 0 0 [.ref 0, .int x, .int y, .int w] n (hC pk G I F) (fun v n1 h1 => n1 = n ∧ (v = some (.int (-1)) ∧ h1 = hC pk G I F)) := by
  refine am_of (L := [some (.ref 0), some (.int x), some (.int y), some (.int w), none, none, none, none, none]) (by decide +kernel) (Nat.le_of_ble_eq_true rfl) rfl ?_
  refine aw_aload_n dX8_were_0 rfl rfl ?_
  refine aw_iload_n dX8_were_1 rfl rfl ?_
  refine aw_callV cw_X8_personAt ml_X8_87 im_X8_personAt sl_X8_X8_personAt rfl (by omega) rfl (c_X8_personAt_no pk G _ _ n hn hI0 hx) ⟨Nat.le_of_ble_eq_true rfl, Nat.le_of_ble_eq_true rfl⟩ ⟨Nat.zero_le _, Nat.zero_le _⟩ rfl rfl (Nat.le_of_ble_eq_true rfl) dX8_were_2 ?_
  rintro _ _ ⟨rfl, rfl⟩
  refine aw_ifnonnullN dX8_were_5 ?_
  refine aw_iconst (v := (-1)) dX8_were_8 (by decide) ?_
  refine aw_iret dX8_were_9 (Nat.zero_le _) (Nat.zero_le _) ?_
  exact ⟨rfl, rfl, rfl⟩
set_option maxRecDepth 100000 in
set_option maxHeartbeats 4000000 in
theorem lp_X8_were {l : Launch} {D : va_G} {tc : Nat → ClassId} (pk : Nat → Nat) (G : Nat → Option Nat) (I F : Nat → Nat → Int32) (n : Nat) (hn : 30 ≤ n) {c : Nat} {g : Nat → Nat} (hW : WP pk G n c g) (hI0 : I 0 7 = nI c) {p : Nat} (hp : p < c) (y w : Int32) (hz : 2 ^ c ≤ 64) (hz0 : 1 ≤ 2 ^ c) : ∀ (m i : Nat) (a b d f h s : Int32), i + m = 2 ^ c - 1 → wrN (myC pk g I c) (nI p) y (nI (2 ^ c - 1)) i = (a, b, d) → AW l D tc yX8_were.cls cX8_were 9 (some .int) { frames := 4, cells := 0, slots := 0, locals := 89 } n 0 0 (fun v n1 h1 => n1 = n ∧ (∃ I1 F1, SC I F I1 F1 ∧ h1 = hC pk G I1 F1 ∧ v = some (.int (if w = 0 then (wrN (myC pk g I c) (nI p) y (nI (2 ^ c - 1)) (2 ^ c - 1)).1 else if (wrN (myC pk g I c) (nI p) y (nI (2 ^ c - 1)) (2 ^ c - 1)).1 = 0 then -9 else if w = 1 then (wrN (myC pk g I c) (nI p) y (nI (2 ^ c - 1)) (2 ^ c - 1)).2.1 else (wrN (myC pk g I c) (nI p) y (nI (2 ^ c - 1)) (2 ^ c - 1)).2.2)))) 54 [some (.ref 0), some (.int (nI p)), some (.int y), some (.int w), some (.ref 3), some (.int a), some (.int b), some (.int d), some (.int (nI (i + 1)))] [] n (hC pk G (L3 I f h s) (mnF F (myC pk g I c))) 0 0 := by
  intro m
  induction m using Nat.strongRecOn with
  | _ m ih =>
    intro i a b d f h s hi hq
    refine aw_iload dX8_were_54 rfl ?_
    refine aw_aload_n dX8_were_56 rfl rfl ?_
    refine aw_callV cw_X8_everybody ml_X8_155 im_X8_everybody sl_X8_X8_everybody rfl (by omega) rfl (c_X8_everybody pk G (L3 I f h s) _ n hn) ⟨Nat.le_of_ble_eq_true rfl, Nat.le_of_ble_eq_true rfl⟩ ⟨Nat.zero_le _, Nat.zero_le _⟩ rfl rfl (Nat.le_of_ble_eq_true rfl) dX8_were_57 ?_
    rintro _ _ ⟨rfl, rfl⟩
    rw [show L3 I f h s 0 7 = nI c from hI0, ev_nI c hW.1]
    refine aw_icmp_gt (tgt := 121) dX8_were_60 (by decide) (fun c_60 => ?_) (fun c_60 => ?_)
    · have hi6 : i + 1 = 2 ^ c - 1 + 1 := gt_9 (by omega) (by omega) c_60
      have hi7 : i = 2 ^ c - 1 := by omega
      subst hi7
      rw [hq]
      refine aw_iload_n dX8_were_121 rfl rfl ?_
      refine aw_if_ne (tgt := 128) dX8_were_122 (by decide) (fun c_122 => ?_) (fun c_122 => ?_)
      · refine aw_iload dX8_were_128 rfl ?_
        refine aw_if_ne (tgt := 136) dX8_were_130 (by decide) (fun c_130 => ?_) (fun c_130 => ?_)
        · refine aw_iload_n dX8_were_136 rfl rfl ?_
          refine aw_iconst (v := 1) dX8_were_137 (by decide) ?_
          refine aw_icmp_ne (tgt := 146) dX8_were_138 (by decide) (fun c_138 => ?_) (fun c_138 => ?_)
          · refine aw_iload dX8_were_146 rfl ?_
            refine aw_iret dX8_were_148 (Nat.zero_le _) (Nat.zero_le _) ?_
            refine ⟨rfl, _, _, (SC.mn I F _).tr (SC.l3 _ _ _ _ _), rfl, ?_⟩
            first | (simp [*]; done) | (simp_all; done)
          · refine aw_iload dX8_were_141 rfl ?_
            refine aw_goto (tgt := 148) dX8_were_143 (by decide) ?_
            refine aw_iret dX8_were_148 (Nat.zero_le _) (Nat.zero_le _) ?_
            refine ⟨rfl, _, _, (SC.mn I F _).tr (SC.l3 _ _ _ _ _), rfl, ?_⟩
            first | (simp [*]; done) | (simp_all; done)
        · refine aw_bipush (v := (-9)) dX8_were_133 (by decide) ?_
          refine aw_iret dX8_were_135 (Nat.zero_le _) (Nat.zero_le _) ?_
          refine ⟨rfl, _, _, (SC.mn I F _).tr (SC.l3 _ _ _ _ _), rfl, ?_⟩
          first | (simp [*]; done) | (simp_all; done)
      · refine aw_iload dX8_were_125 rfl ?_
        refine aw_iret dX8_were_127 (Nat.zero_le _) (Nat.zero_le _) ?_
        refine ⟨rfl, _, _, (SC.mn I F _).tr (SC.l3 _ _ _ _ _), rfl, ?_⟩
        first | (simp [*]; done) | (simp_all; done)
    · have hi6 := le_9 (i := i + 1) (N := 2 ^ c - 1) (by omega) c_60
      refine aw_aload_n dX8_were_63 rfl rfl ?_
      refine aw_get fd_X8_30_8 dX8_were_64 (by omega) rfl rfl ?_
      refine aw_aload dX8_were_67 rfl ?_
      refine aw_iload dX8_were_69 rfl ?_
      refine aw_callV cw_X2_letDown ml_X8_133 im_X2_letDown sl_X2_X2_letDown rfl (by omega) rfl (c_X2_letDown3 pk G I (mnF F (myC pk g I c)) n hn (nI (i + 1)) f h s) ⟨Nat.le_of_ble_eq_true rfl, Nat.le_of_ble_eq_true rfl⟩ ⟨Nat.zero_le _, Nat.zero_le _⟩ rfl rfl (Nat.le_of_ble_eq_true rfl) dX8_were_71 ?_
      rintro _ _ ⟨rfl, rfl⟩
      rw [sDown_mn, sCall_mn]
      generalize hqd : sDown (myC pk g I c) (nI (i + 1)) = dn
      generalize hqc : sCall (myC pk g I c) (nI (i + 1)) = qc
      refine aw_iload_n dX8_were_74 rfl rfl ?_
      refine aw_icmp_ne (tgt := 115) dX8_were_75 (by decide) (fun c_75 => ?_) (fun c_75 => ?_)
      · refine aw_iinc (v := 1) dX8_were_115 rfl (by decide) (by decide) rfl ?_
        refine aw_goto (tgt := 54) dX8_were_118 (by decide) ?_
        rw [nI_1]
        exact ih (m - 1) (by omega) (i + 1) _ _ _ _ _ _ (by omega) (by rw [wrN, hq, hqd, hqc]; simp [*])
      · refine aw_aload_n dX8_were_78 rfl rfl ?_
        refine aw_get fd_X8_30_8 dX8_were_79 (by omega) rfl rfl ?_
        refine aw_get fd_X8_143_2 dX8_were_82 (by omega) rfl rfl ?_
        rw [show L3 I qc.1 qc.2.1 qc.2.2.1 4 2 = qc.1 from rfl]
        refine aw_iload_n dX8_were_85 rfl rfl ?_
        refine aw_icmp_ne (tgt := 115) dX8_were_86 (by decide) (fun c_86 => ?_) (fun c_86 => ?_)
        · refine aw_iinc (v := 1) dX8_were_115 rfl (by decide) (by decide) rfl ?_
          refine aw_goto (tgt := 54) dX8_were_118 (by decide) ?_
          rw [nI_1]
          exact ih (m - 1) (by omega) (i + 1) _ _ _ _ _ _ (by omega) (by rw [wrN, hq, hqd, hqc]; simp [*])
        · refine aw_iinc (v := 1) dX8_were_89 rfl (by decide) (by decide) rfl ?_
          refine aw_iload dX8_were_92 rfl ?_
          refine aw_bipush (v := (-9)) dX8_were_94 (by decide) ?_
          refine aw_icmp_ne (tgt := 104) dX8_were_96 (by decide) (fun c_96 => ?_) (fun c_96 => ?_)
          · refine aw_iload dX8_were_104 rfl ?_
            refine aw_istore dX8_were_106 (by decide) rfl ?_
            refine aw_iload dX8_were_108 rfl ?_
            refine aw_iload dX8_were_110 rfl ?_
            refine aw_iand dX8_were_112 ?_
            refine aw_istore dX8_were_113 (by decide) rfl ?_
            refine aw_iinc (v := 1) dX8_were_115 rfl (by decide) (by decide) rfl ?_
            refine aw_goto (tgt := 54) dX8_were_118 (by decide) ?_
            rw [nI_1]
            exact ih (m - 1) (by omega) (i + 1) _ _ _ _ _ _ (by omega) (by rw [wrN, hq, hqd, hqc]; simp [*])
          · refine aw_iload dX8_were_99 rfl ?_
            refine aw_goto (tgt := 106) dX8_were_101 (by decide) ?_
            refine aw_istore dX8_were_106 (by decide) rfl ?_
            refine aw_iload dX8_were_108 rfl ?_
            refine aw_iload dX8_were_110 rfl ?_
            refine aw_iand dX8_were_112 ?_
            refine aw_istore dX8_were_113 (by decide) rfl ?_
            refine aw_iinc (v := 1) dX8_were_115 rfl (by decide) (by decide) rfl ?_
            refine aw_goto (tgt := 54) dX8_were_118 (by decide) ?_
            rw [nI_1]
            exact ih (m - 1) (by omega) (i + 1) _ _ _ _ _ _ (by omega) (by rw [wrN, hq, hqd, hqc]; simp [*])
theorem pow6 {c : Nat} (h : c ≤ 6) : 2 ^ c ≤ 64 ∧ 1 ≤ 2 ^ c := ⟨Nat.pow_le_pow_right (by decide) h, Nat.one_le_two_pow⟩
set_option maxRecDepth 100000 in
set_option maxHeartbeats 4000000 in
theorem c_X8_were {l : Launch} {D : va_G} {tc : Nat → ClassId} (pk : Nat → Nat) (G : Nat → Option Nat) (I F : Nat → Nat → Int32) (n : Nat) (hn : 30 ≤ n) {c : Nat} {g : Nat → Nat} (hW : WP pk G n c g) (hI0 : I 0 7 = nI c) {p : Nat} (hp : p < c) (y w : Int32) : AM l D tc yX8_were cX8_were 9 (some .int) 4 89 0 0 [.ref 0, .int (nI p), .int y, .int w] n (hC pk G I F) (fun v n1 h1 => n1 = n ∧ (∃ I1 F1, SC I F I1 F1 ∧ h1 = hC pk G I1 F1 ∧ v = some (.int (if sW y 0 18 && sW w 0 2 then (if w = 0 then (wrN (myC pk g I c) (nI p) y (nI (2 ^ c - 1)) (2 ^ c - 1)).1 else if (wrN (myC pk g I c) (nI p) y (nI (2 ^ c - 1)) (2 ^ c - 1)).1 = 0 then -9 else if w = 1 then (wrN (myC pk g I c) (nI p) y (nI (2 ^ c - 1)) (2 ^ c - 1)).2.1 else (wrN (myC pk g I c) (nI p) y (nI (2 ^ c - 1)) (2 ^ c - 1)).2.2) else -2)))) := by
  refine am_of (L := [some (.ref 0), some (.int (nI p)), some (.int y), some (.int w), none, none, none, none, none]) (by decide +kernel) (Nat.le_of_ble_eq_true rfl) rfl ?_
  refine aw_aload_n dX8_were_0 rfl rfl ?_
  refine aw_iload_n dX8_were_1 rfl rfl ?_
  refine aw_callV cw_X8_personAt ml_X8_87 im_X8_personAt sl_X8_X8_personAt rfl (by omega) rfl (c_X8_personAt pk G _ _ n hn hW hI0 hp rfl) ⟨Nat.le_of_ble_eq_true rfl, Nat.le_of_ble_eq_true rfl⟩ ⟨Nat.zero_le _, Nat.zero_le _⟩ rfl rfl (Nat.le_of_ble_eq_true rfl) dX8_were_2 ?_
  rintro _ _ ⟨rfl, rfl⟩
  refine aw_ifnonnull (tgt := 10) dX8_were_5 (by decide) ?_
  refine aw_iload_n dX8_were_10 rfl rfl ?_
  refine aw_iconst (v := 0) dX8_were_11 (by decide) ?_
  refine aw_bipush (v := (18)) dX8_were_12 (by decide) ?_
  refine aw_callS cw_X8_isWithin ml_X8_122 sm_X8_isWithin (c_X8_isWithin _ _ _ _ _) ⟨Nat.le_of_ble_eq_true rfl, Nat.le_of_ble_eq_true rfl⟩ ⟨Nat.zero_le _, Nat.zero_le _⟩ rfl rfl (Nat.le_of_ble_eq_true rfl) dX8_were_14 ?_
  rintro _ _ ⟨rfl, rfl⟩
  refine aw_ifB_eq (tgt := 29) dX8_were_17 (by decide) (fun c_17 => ?_) (fun c_17 => ?_)
  · refine aw_bipush (v := (-2)) dX8_were_29 (by decide) ?_
    refine aw_iret dX8_were_31 (Nat.zero_le _) (Nat.zero_le _) ?_
    refine ⟨rfl, _, _, SC.rf _ _, rfl, ?_⟩
    first | (simp [*]; done) | (simp_all; done)
  · refine aw_iload_n dX8_were_20 rfl rfl ?_
    refine aw_iconst (v := 0) dX8_were_21 (by decide) ?_
    refine aw_iconst (v := 2) dX8_were_22 (by decide) ?_
    refine aw_callS cw_X8_isWithin ml_X8_122 sm_X8_isWithin (c_X8_isWithin _ _ _ _ _) ⟨Nat.le_of_ble_eq_true rfl, Nat.le_of_ble_eq_true rfl⟩ ⟨Nat.zero_le _, Nat.zero_le _⟩ rfl rfl (Nat.le_of_ble_eq_true rfl) dX8_were_23 ?_
    rintro _ _ ⟨rfl, rfl⟩
    refine aw_ifB_ne (tgt := 32) dX8_were_26 (by decide) (fun c_26 => ?_) (fun c_26 => ?_)
    · refine aw_aload_n dX8_were_32 rfl rfl ?_
      refine aw_callV cw_X8_maysNow ml_X8_129 im_X8_maysNow sl_X8_X8_maysNow rfl (by omega) rfl (c_X8_maysNow pk G _ _ n hn hW hI0) ⟨Nat.le_of_ble_eq_true rfl, Nat.le_of_ble_eq_true rfl⟩ ⟨Nat.zero_le _, Nat.zero_le _⟩ rfl rfl (Nat.le_of_ble_eq_true rfl) dX8_were_33 ?_
      rintro _ _ ⟨rfl, rfl⟩
      refine aw_astore dX8_were_36 (by decide) rfl ?_
      refine aw_iconst (v := 0) dX8_were_38 (by decide) ?_
      refine aw_istore dX8_were_39 (by decide) rfl ?_
      refine aw_bipush (v := (-9)) dX8_were_41 (by decide) ?_
      refine aw_istore dX8_were_43 (by decide) rfl ?_
      refine aw_aload_n dX8_were_45 rfl rfl ?_
      refine aw_callV cw_X8_everybody ml_X8_155 im_X8_everybody sl_X8_X8_everybody rfl (by omega) rfl (c_X8_everybody pk G I _ n hn) ⟨Nat.le_of_ble_eq_true rfl, Nat.le_of_ble_eq_true rfl⟩ ⟨Nat.zero_le _, Nat.zero_le _⟩ rfl rfl (Nat.le_of_ble_eq_true rfl) dX8_were_46 ?_
      rintro _ _ ⟨rfl, rfl⟩
      rw [hI0, ev_nI c hW.1]
      refine aw_istore dX8_were_49 (by decide) rfl ?_
      refine aw_iconst (v := 1) dX8_were_51 (by decide) ?_
      refine aw_istore dX8_were_52 (by decide) rfl ?_
      have hl := lp_X8_were (l := l) (D := D) (tc := tc) pk G I F n hn hW hI0 hp y w (pow6 hW.1).1 (pow6 hW.1).2 (2 ^ c - 1) 0 0 (-9) (nI (2 ^ c - 1)) (I 4 2) (I 4 3) (I 4 4) (by omega) rfl
      rw [← L3_I] at hl
      rw [if_pos (by rw [c_17, c_26]; rfl)]
      exact hl
    · refine aw_bipush (v := (-2)) dX8_were_29 (by decide) ?_
      refine aw_iret dX8_were_31 (Nat.zero_le _) (Nat.zero_le _) ?_
      refine ⟨rfl, _, _, SC.rf _ _, rfl, ?_⟩
      first | (simp [*]; done) | (simp_all; done)
set_option maxRecDepth 100000 in
set_option maxHeartbeats 4000000 in
theorem c_X8_odds_no {l : Launch} {D : va_G} {tc : Nat → ClassId} (pk : Nat → Nat) (G : Nat → Option Nat) (I F : Nat → Nat → Int32) (n : Nat) (hn : 30 ≤ n) {c : Nat} (hI0 : I 0 7 = nI c) {x : Int32} (hx : sP c x = false) (w : Int32) : AM l D tc yX8_odds cX8_odds 7 (some .long) 4 89 0 0 [.ref 0, .int x, .int w] n (hC pk G I F) (fun v n1 h1 => n1 = n ∧ (v = some (.long (-9223372036854775808)) ∧ h1 = hC pk G I F)) := by
  refine am_of (L := [some (.ref 0), some (.int x), some (.int w), none, none, none, none]) (by decide +kernel) (Nat.le_of_ble_eq_true rfl) rfl ?_
  refine aw_aload_n dX8_odds_0 rfl rfl ?_
  refine aw_iload_n dX8_odds_1 rfl rfl ?_
  refine aw_callV cw_X8_personAt ml_X8_87 im_X8_personAt sl_X8_X8_personAt rfl (by omega) rfl (c_X8_personAt_no pk G _ _ n hn hI0 hx) ⟨Nat.le_of_ble_eq_true rfl, Nat.le_of_ble_eq_true rfl⟩ ⟨Nat.zero_le _, Nat.zero_le _⟩ rfl rfl (Nat.le_of_ble_eq_true rfl) dX8_odds_2 ?_
  rintro _ _ ⟨rfl, rfl⟩
  refine aw_ifnullN (tgt := 17) dX8_odds_5 (by decide) ?_
  refine aw_ldc2 dX8_odds_17 ct_X8_210 ?_
  refine aw_lret dX8_odds_20 (Nat.zero_le _) (Nat.zero_le _) ?_
  exact ⟨rfl, rfl, rfl⟩
set_option maxRecDepth 100000 in
set_option maxHeartbeats 4000000 in
theorem lp_X8_odds2 {l : Launch} {D : va_G} {tc : Nat → ClassId} (pk : Nat → Nat) (G : Nat → Option Nat) (I F : Nat → Nat → Int32) (n : Nat) (hn : 30 ≤ n) {c : Nat} {g : Nat → Nat} (hW : WP pk G n c g) (hI0 : I 0 7 = nI c) (x w : Int32) (I1 F1 : Nat → Nat → Int32) (hs : SC I F I1 F1) (qf : Int32 × Int32) : ∀ (m i : Nat) (u d : Int32), i + m = c → hvN m u d = qf → AW l D tc yX8_odds.cls cX8_odds 7 (some .long) { frames := 4, cells := 0, slots := 0, locals := 89 } n 0 0 (fun v n1 h1 => n1 = n ∧ (∃ I1 F1, SC I F I1 F1 ∧ h1 = hC pk G I1 F1 ∧ v = some (.long (if w = 0 then qf.1.toInt64 else qf.2.toInt64)))) 83 [some (.ref 0), some (.int x), some (.int w), some (.ref 3), some (.int u), some (.int d), some (.int (nI i))] [] n (hC pk G I1 F1) 0 0 := by
  have hI0 : I1 0 7 = nI c := by rw [hs.1 0 (by decide)]; exact hI0
  intro m
  induction m using Nat.strongRecOn with
  | _ m ih =>
    intro i u d hi hq
    refine aw_iload dX8_odds_83 rfl ?_
    refine aw_aload_n dX8_odds_85 rfl rfl ?_
    refine aw_get fd_X8_84_8 dX8_odds_86 (by omega) rfl rfl ?_
    refine aw_icmp_ge (tgt := 117) dX8_odds_89 (by decide) (fun c_89 => ?_) (fun c_89 => ?_)
    · have hm : m = 0 := by
        have := lp_ge (i := i) (N := c) (by have := hW.1; omega) (by omega) (by rw [← hI0]; exact c_89)
        omega
      subst hm
      rw [← hq]
      refine aw_iload_n dX8_odds_117 rfl rfl ?_
      refine aw_if_ne (tgt := 127) dX8_odds_118 (by decide) (fun c_118 => ?_) (fun c_118 => ?_)
      · refine aw_iload dX8_odds_127 rfl ?_
        refine aw_i2l dX8_odds_129 ?_
        refine aw_lret dX8_odds_130 (Nat.zero_le _) (Nat.zero_le _) ?_
        refine ⟨rfl, _, _, hs, rfl, ?_⟩
        first | (simp [hvN, *]; done) | (simp_all [hvN]; done)
      · refine aw_iload dX8_odds_121 rfl ?_
        refine aw_i2l dX8_odds_123 ?_
        refine aw_goto (tgt := 130) dX8_odds_124 (by decide) ?_
        refine aw_lret dX8_odds_130 (Nat.zero_le _) (Nat.zero_le _) ?_
        refine ⟨rfl, _, _, hs, rfl, ?_⟩
        first | (simp [hvN, *]; done) | (simp_all [hvN]; done)
    · have hi6 : i < c := lp_lt (N := c) (by have := hW.1; omega) (by rw [← hI0]; exact c_89)
      refine aw_iload dX8_odds_92 rfl ?_
      refine aw_iconst (v := 2) dX8_odds_94 (by decide) ?_
      refine aw_irem dX8_odds_95 (by decide) ?_
      refine aw_if_ne (tgt := 117) dX8_odds_96 (by decide) (fun c_96 => ?_) (fun c_96 => ?_)
      · obtain ⟨m2, rfl⟩ : ∃ m2, m = m2 + 1 := ⟨m - 1, by omega⟩
        rw [← hq, hvN, if_neg c_96]
        refine aw_iload_n dX8_odds_117 rfl rfl ?_
        refine aw_if_ne (tgt := 127) dX8_odds_118 (by decide) (fun c_118 => ?_) (fun c_118 => ?_)
        · refine aw_iload dX8_odds_127 rfl ?_
          refine aw_i2l dX8_odds_129 ?_
          refine aw_lret dX8_odds_130 (Nat.zero_le _) (Nat.zero_le _) ?_
          refine ⟨rfl, _, _, hs, rfl, ?_⟩
          first | (simp [hvN, *]; done) | (simp_all [hvN]; done)
        · refine aw_iload dX8_odds_121 rfl ?_
          refine aw_i2l dX8_odds_123 ?_
          refine aw_goto (tgt := 130) dX8_odds_124 (by decide) ?_
          refine aw_lret dX8_odds_130 (Nat.zero_le _) (Nat.zero_le _) ?_
          refine ⟨rfl, _, _, hs, rfl, ?_⟩
          first | (simp [hvN, *]; done) | (simp_all [hvN]; done)
      · refine aw_iload dX8_odds_99 rfl ?_
        refine aw_iconst (v := 2) dX8_odds_101 (by decide) ?_
        refine aw_idiv dX8_odds_102 (by decide) ?_
        refine aw_istore dX8_odds_103 (by decide) rfl ?_
        refine aw_iload dX8_odds_105 rfl ?_
        refine aw_iconst (v := 2) dX8_odds_107 (by decide) ?_
        refine aw_idiv dX8_odds_108 (by decide) ?_
        refine aw_istore dX8_odds_109 (by decide) rfl ?_
        refine aw_iinc (v := 1) dX8_odds_111 rfl (by decide) (by decide) rfl ?_
        refine aw_goto (tgt := 83) dX8_odds_114 (by decide) ?_
        rw [nI_1]
        exact ih (m - 1) (by omega) (i + 1) _ _ (by omega) (by
          obtain ⟨m2, rfl⟩ : ∃ m2, m = m2 + 1 := ⟨m - 1, by omega⟩
          rw [← hq, hvN, if_pos c_96]
          rfl)
set_option maxRecDepth 100000 in
set_option maxHeartbeats 4000000 in
theorem lp_X8_odds {l : Launch} {D : va_G} {tc : Nat → ClassId} (pk : Nat → Nat) (G : Nat → Option Nat) (I F : Nat → Nat → Int32) (n : Nat) (hn : 30 ≤ n) {c : Nat} {g : Nat → Nat} (hW : WP pk G n c g) (hI0 : I 0 7 = nI c) {p : Nat} (hp : p < c) (w : Int32) (hz : 2 ^ c ≤ 64) (hz0 : 1 ≤ 2 ^ c) : ∀ (m i : Nat) (a f h s : Int32) (w9 : Option Value), i + m = 2 ^ c - 1 → udN (myC pk g I c) (nI p) i = a → AW l D tc yX8_odds.cls cX8_odds 7 (some .long) { frames := 4, cells := 0, slots := 0, locals := 89 } n 0 0 (fun v n1 h1 => n1 = n ∧ (∃ I1 F1, SC I F I1 F1 ∧ h1 = hC pk G I1 F1 ∧ v = some (.long (if w = 0 then (hvN c (udN (myC pk g I c) (nI p) (2 ^ c - 1)) (sBit (nI c))).1.toInt64 else (hvN c (udN (myC pk g I c) (nI p) (2 ^ c - 1)) (sBit (nI c))).2.toInt64)))) 32 [some (.ref 0), some (.int (nI p)), some (.int w), some (.ref 3), some (.int a), some (.int (nI (i + 1))), w9] [] n (hC pk G (L3 I f h s) (mnF F (myC pk g I c))) 0 0 := by
  intro m
  induction m using Nat.strongRecOn with
  | _ m ih =>
    intro i a f h s w9 hi hq
    refine aw_iload dX8_odds_32 rfl ?_
    refine aw_aload_n dX8_odds_34 rfl rfl ?_
    refine aw_callV cw_X8_everybody ml_X8_155 im_X8_everybody sl_X8_X8_everybody rfl (by omega) rfl (c_X8_everybody pk G (L3 I f h s) _ n hn) ⟨Nat.le_of_ble_eq_true rfl, Nat.le_of_ble_eq_true rfl⟩ ⟨Nat.zero_le _, Nat.zero_le _⟩ rfl rfl (Nat.le_of_ble_eq_true rfl) dX8_odds_35 ?_
    rintro _ _ ⟨rfl, rfl⟩
    rw [show L3 I f h s 0 7 = nI c from hI0, ev_nI c hW.1]
    refine aw_icmp_gt (tgt := 71) dX8_odds_38 (by decide) (fun c_38 => ?_) (fun c_38 => ?_)
    · have hi6 : i + 1 = 2 ^ c - 1 + 1 := gt_9 (by omega) (by omega) c_38
      have hi7 : i = 2 ^ c - 1 := by omega
      subst hi7
      refine aw_aload_n dX8_odds_71 rfl rfl ?_
      refine aw_get fd_X8_84_8 dX8_odds_72 (by omega) rfl rfl ?_
      refine aw_callS cw_X8_bit ml_X8_137 sm_X8_bit (c_X8_bit _ _ _) ⟨Nat.le_of_ble_eq_true rfl, Nat.le_of_ble_eq_true rfl⟩ ⟨Nat.zero_le _, Nat.zero_le _⟩ rfl rfl (Nat.le_of_ble_eq_true rfl) dX8_odds_75 ?_
      rintro _ _ ⟨rfl, rfl⟩
      rw [show L3 I f h s 0 7 = nI c from hI0, ← hq]
      refine aw_istore dX8_odds_78 (by decide) rfl ?_
      refine aw_iconst (v := 0) dX8_odds_80 (by decide) ?_
      refine aw_istore dX8_odds_81 (by decide) rfl ?_
      exact lp_X8_odds2 pk G I F n hn hW hI0 (nI p) w _ _ ((SC.mn I F _).tr (SC.l3 _ _ _ _ _)) _ c 0 _ _ (by omega) rfl
    · have hi6 := le_9 (i := i + 1) (N := 2 ^ c - 1) (by omega) c_38
      refine aw_iload dX8_odds_41 rfl ?_
      refine aw_aload_n dX8_odds_43 rfl rfl ?_
      refine aw_get fd_X8_30_8 dX8_odds_44 (by omega) rfl rfl ?_
      refine aw_aload_n dX8_odds_47 rfl rfl ?_
      refine aw_iload dX8_odds_48 rfl ?_
      refine aw_callV cw_X2_letDown ml_X8_133 im_X2_letDown sl_X2_X2_letDown rfl (by omega) rfl (c_X2_letDown3 pk G I (mnF F (myC pk g I c)) n hn (nI (i + 1)) f h s) ⟨Nat.le_of_ble_eq_true rfl, Nat.le_of_ble_eq_true rfl⟩ ⟨Nat.zero_le _, Nat.zero_le _⟩ rfl rfl (Nat.le_of_ble_eq_true rfl) dX8_odds_50 ?_
      rintro _ _ ⟨rfl, rfl⟩
      rw [sDown_mn, sCall_mn]
      generalize hqd : sDown (myC pk g I c) (nI (i + 1)) = dn
      generalize hqc : sCall (myC pk g I c) (nI (i + 1)) = qc
      refine aw_iload_n dX8_odds_53 rfl rfl ?_
      refine aw_icmp_ne (tgt := 61) dX8_odds_54 (by decide) (fun c_54 => ?_) (fun c_54 => ?_)
      · refine aw_iconst (v := 0) dX8_odds_61 (by decide) ?_
        refine aw_iadd dX8_odds_62 ?_
        refine aw_istore dX8_odds_63 (by decide) rfl ?_
        refine aw_iinc (v := 1) dX8_odds_65 rfl (by decide) (by decide) rfl ?_
        refine aw_goto (tgt := 32) dX8_odds_68 (by decide) ?_
        rw [nI_1]
        exact ih (m - 1) (by omega) (i + 1) _ _ _ _ _ (by omega) (by rw [udN, hq, hqd]; simp [*])
      · refine aw_iconst (v := 1) dX8_odds_57 (by decide) ?_
        refine aw_goto (tgt := 62) dX8_odds_58 (by decide) ?_
        refine aw_iadd dX8_odds_62 ?_
        refine aw_istore dX8_odds_63 (by decide) rfl ?_
        refine aw_iinc (v := 1) dX8_odds_65 rfl (by decide) (by decide) rfl ?_
        refine aw_goto (tgt := 32) dX8_odds_68 (by decide) ?_
        rw [nI_1]
        exact ih (m - 1) (by omega) (i + 1) _ _ _ _ _ (by omega) (by rw [udN, hq, hqd]; simp [*])
set_option maxRecDepth 100000 in
set_option maxHeartbeats 4000000 in
theorem c_X8_odds {l : Launch} {D : va_G} {tc : Nat → ClassId} (pk : Nat → Nat) (G : Nat → Option Nat) (I F : Nat → Nat → Int32) (n : Nat) (hn : 30 ≤ n) {c : Nat} {g : Nat → Nat} (hW : WP pk G n c g) (hI0 : I 0 7 = nI c) {p : Nat} (hp : p < c) (w : Int32) : AM l D tc yX8_odds cX8_odds 7 (some .long) 4 89 0 0 [.ref 0, .int (nI p), .int w] n (hC pk G I F) (fun v n1 h1 => n1 = n ∧ (∃ I1 F1, SC I F I1 F1 ∧ h1 = hC pk G I1 F1 ∧ v = some (.long (if sW w 0 1 then (if w = 0 then (hvN c (udN (myC pk g I c) (nI p) (2 ^ c - 1)) (sBit (nI c))).1.toInt64 else (hvN c (udN (myC pk g I c) (nI p) (2 ^ c - 1)) (sBit (nI c))).2.toInt64) else -9223372036854775808)))) := by
  refine am_of (L := [some (.ref 0), some (.int (nI p)), some (.int w), none, none, none, none]) (by decide +kernel) (Nat.le_of_ble_eq_true rfl) rfl ?_
  refine aw_aload_n dX8_odds_0 rfl rfl ?_
  refine aw_iload_n dX8_odds_1 rfl rfl ?_
  refine aw_callV cw_X8_personAt ml_X8_87 im_X8_personAt sl_X8_X8_personAt rfl (by omega) rfl (c_X8_personAt pk G _ _ n hn hW hI0 hp rfl) ⟨Nat.le_of_ble_eq_true rfl, Nat.le_of_ble_eq_true rfl⟩ ⟨Nat.zero_le _, Nat.zero_le _⟩ rfl rfl (Nat.le_of_ble_eq_true rfl) dX8_odds_2 ?_
  rintro _ _ ⟨rfl, rfl⟩
  refine aw_ifnull dX8_odds_5 ?_
  refine aw_iload_n dX8_odds_8 rfl rfl ?_
  refine aw_iconst (v := 0) dX8_odds_9 (by decide) ?_
  refine aw_iconst (v := 1) dX8_odds_10 (by decide) ?_
  refine aw_callS cw_X8_isWithin ml_X8_122 sm_X8_isWithin (c_X8_isWithin _ _ _ _ _) ⟨Nat.le_of_ble_eq_true rfl, Nat.le_of_ble_eq_true rfl⟩ ⟨Nat.zero_le _, Nat.zero_le _⟩ rfl rfl (Nat.le_of_ble_eq_true rfl) dX8_odds_11 ?_
  rintro _ _ ⟨rfl, rfl⟩
  refine aw_ifB_ne (tgt := 21) dX8_odds_14 (by decide) (fun c_14 => ?_) (fun c_14 => ?_)
  · refine aw_aload_n dX8_odds_21 rfl rfl ?_
    refine aw_callV cw_X8_maysNow ml_X8_129 im_X8_maysNow sl_X8_X8_maysNow rfl (by omega) rfl (c_X8_maysNow pk G _ _ n hn hW hI0) ⟨Nat.le_of_ble_eq_true rfl, Nat.le_of_ble_eq_true rfl⟩ ⟨Nat.zero_le _, Nat.zero_le _⟩ rfl rfl (Nat.le_of_ble_eq_true rfl) dX8_odds_22 ?_
    rintro _ _ ⟨rfl, rfl⟩
    refine aw_astore_n dX8_odds_25 rfl (by decide) rfl ?_
    refine aw_iconst (v := 0) dX8_odds_26 (by decide) ?_
    refine aw_istore dX8_odds_27 (by decide) rfl ?_
    refine aw_iconst (v := 1) dX8_odds_29 (by decide) ?_
    refine aw_istore dX8_odds_30 (by decide) rfl ?_
    have hl := lp_X8_odds (l := l) (D := D) (tc := tc) pk G I F n hn hW hI0 hp w (pow6 hW.1).1 (pow6 hW.1).2 (2 ^ c - 1) 0 0 (I 4 2) (I 4 3) (I 4 4) none (by omega) rfl
    rw [← L3_I] at hl
    rw [if_pos c_14]
    exact hl
  · refine aw_ldc2 dX8_odds_17 ct_X8_210 ?_
    refine aw_lret dX8_odds_20 (Nat.zero_le _) (Nat.zero_le _) ?_
    refine ⟨rfl, _, _, SC.rf _ _, rfl, ?_⟩
    first | (simp [*]; done) | (simp_all; done)
