/-! all go down, one behind another; readings -/
def pf (g f : Nat → Int32) (k : Nat) : Nat → Int32 := fun j => if j < k then g j else f j
theorem pf_0 (g f : Nat → Int32) : pf g f 0 = f := by funext j; simp [pf]
theorem pf_s (g f : Nat → Int32) (k : Nat) : upd (pf g f k) k (g k) = pf g f (k + 1) := by
  funext j
  unfold upd pf
  by_cases e : j = k
  · subst e; simp
  · by_cases q : j < k
    · simp [e, q, Nat.lt_succ_of_lt q]
    · simp [e, q, show ¬ j < k + 1 by omega]
def lfN (my : Nat → Int32) (set : Int32) : Nat → Int32
  | 0 => set
  | k + 1 => sClr (lfN my set k) (sDown my (lfN my set k))
def dnN (my : Nat → Int32) (set : Int32) (k : Nat) : Int32 := sDown my (lfN my set k)
def frN (my : Nat → Int32) (set : Int32) (k : Nat) : Int32 := (sCall my (lfN my set k)).1
def gtC (my : Nat → Int32) (set : Int32) : Nat → Nat → Nat
  | i, 0 => i
  | i, m + 1 => if lfN my set i = 0 then i else gtC my set (i + 1) m
def gtM (my : Nat → Int32) (set : Int32) : Nat := gtC my set 0 6
theorem gtC_le (my : Nat → Int32) (set : Int32) : ∀ m i, i ≤ gtC my set i m ∧ gtC my set i m ≤ i + m
  | 0, i => by simp [gtC]
  | m + 1, i => by
    have := gtC_le my set m (i + 1)
    rw [gtC]
    split <;> omega
theorem gtM_le (my : Nat → Int32) (set : Int32) : gtM my set ≤ 6 := by
  have := (gtC_le my set 6 0).2
  unfold gtM
  omega
def gtF (F : Nat → Nat → Int32) (set : Int32) (k : Nat) : Nat → Nat → Int32 := st_F (st_F F 5 (pf (dnN (F 3) set) (F 5) k)) 6 (pf (frN (F 3) set) (F 6) k)
theorem gtF_0 (F : Nat → Nat → Int32) (set : Int32) : gtF F set 0 = F := by
  unfold gtF
  rw [pf_0, pf_0, st_F0]
  have : st_F F 6 (F 6) = F := st_F0 F 6
  exact this
theorem gtF_s (F : Nat → Nat → Int32) (set : Int32) (k : Nat) : st_F (st_F (gtF F set k) 5 (upd (gtF F set k 5) k (dnN (F 3) set k))) 6 (upd (gtF F set k 6) k (frN (F 3) set k)) = gtF F set (k + 1) := by
  have e5 : gtF F set k 5 = pf (dnN (F 3) set) (F 5) k := rfl
  have e6 : gtF F set k 6 = pf (frN (F 3) set) (F 6) k := rfl
  rw [e5, e6, pf_s, pf_s]
  funext a
  unfold gtF st_F
  by_cases h6 : a = 6
  · subst h6; simp
  · by_cases h5 : a = 5
    · subst h5; simp
    · simp [h5, h6]
def fdN (g : Nat → Int32) (p : Int32) : Nat → Nat → Int32
  | _, 0 => 6
  | i, m + 1 => if g i = p then nI i else fdN g p (i + 1) m
def sPlace (my : Nat → Int32) (set p : Int32) : Int32 := fdN (dnN my set) p 0 (gtM my set)

set_option maxRecDepth 100000 in
set_option maxHeartbeats 4000000 in
theorem lp_X2_goThroughAll {l : Launch} {D : va_G} {tc : Nat → ClassId} (pk : Nat → Nat) (G : Nat → Option Nat) (I F : Nat → Nat → Int32) (n : Nat) (hn : 30 ≤ n) (x : Int32) : ∀ (m i : Nat) (f h s : Int32) (w : Option Value), i + m = 6 → gtC (F 3) x i m = gtM (F 3) x → AW l D tc yX2_goThroughAll.cls cX2_goThroughAll 7 (some .int) { frames := 4, cells := 0, slots := 0, locals := 89 } n 0 0 (fun v n1 h1 => n1 = n ∧ (v = some (.int (nI (gtM (F 3) x))) ∧ ∃ f h s : Int32, h1 = hC pk G (L3 I f h s) (gtF F x (gtM (F 3) x)))) 8 [some (.ref 4), some (.ref 3), some (.int x), some (.int (lfN (F 3) x i)), some (.int (nI i)), some (.int (nI i)), w] [] n (hC pk G (L3 I f h s) (gtF F x i)) 0 0 := by
  intro m
  induction m using Nat.strongRecOn with
  | _ m ih =>
    intro i f h s w hi hq
    refine aw_iload dX2_goThroughAll_8 rfl ?_
    refine aw_bipush (v := (6)) dX2_goThroughAll_10 (by decide) ?_
    refine aw_icmp_ge (tgt := 66) dX2_goThroughAll_12 (by decide) (fun c_12 => ?_) (fun c_12 => ?_)
    · have hi6 := lp_ge (N := 6) (by decide) (by omega) c_12
      have hm : m = 0 := by omega
      subst hm
      have hM : gtM (F 3) x = i := by rw [← hq]; rfl
      refine aw_iload dX2_goThroughAll_66 rfl ?_
      refine aw_iret dX2_goThroughAll_68 (Nat.zero_le _) (Nat.zero_le _) ?_
      rw [hM]
      exact ⟨rfl, rfl, f, h, s, rfl⟩
    · have hi6 := lp_lt (N := 6) (by omega) c_12
      refine aw_iload_n dX2_goThroughAll_15 rfl rfl ?_
      refine aw_if_eq (tgt := 66) dX2_goThroughAll_16 (by decide) (fun c_16 => ?_) (fun c_16 => ?_)
      · obtain ⟨m2, rfl⟩ : ∃ m2, m = m2 + 1 := ⟨m - 1, by omega⟩
        have hM : gtM (F 3) x = i := by rw [← hq, gtC, if_pos c_16]
        refine aw_iload dX2_goThroughAll_66 rfl ?_
        refine aw_iret dX2_goThroughAll_68 (Nat.zero_le _) (Nat.zero_le _) ?_
        rw [hM]
        exact ⟨rfl, rfl, f, h, s, rfl⟩
      · refine aw_aload_n dX2_goThroughAll_19 rfl rfl ?_
        refine aw_aload_n dX2_goThroughAll_20 rfl rfl ?_
        refine aw_iload_n dX2_goThroughAll_21 rfl rfl ?_
        refine aw_callV cw_X2_letDown ml_X2_40 im_X2_letDown sl_X2_X2_letDown rfl (by omega) he_L3 (c_X2_letDown3 pk G I (gtF F x i) n hn (lfN (F 3) x i) f h s) ⟨Nat.le_of_ble_eq_true rfl, Nat.le_of_ble_eq_true rfl⟩ ⟨Nat.zero_le _, Nat.zero_le _⟩ rfl rfl (Nat.le_of_ble_eq_true rfl) dX2_goThroughAll_22 ?_
        rintro _ _ ⟨rfl, rfl⟩
        refine aw_istore dX2_goThroughAll_25 (by decide) rfl ?_
        refine aw_aload_n dX2_goThroughAll_27 rfl rfl ?_
        refine aw_get fd_X2_9_2 dX2_goThroughAll_28 (by omega) he_L3 rfl ?_
        refine aw_iload dX2_goThroughAll_31 rfl ?_
        refine aw_iload dX2_goThroughAll_33 rfl ?_
        refine aw_iasti dX2_goThroughAll_35 (by omega) rfl (fun _ => rfl) (vp_in_nI hi6 (by decide)) ?_
        refine aw_aload_n dX2_goThroughAll_36 rfl rfl ?_
        refine aw_get fd_X2_15_2 dX2_goThroughAll_37 (by omega) he_L3 rfl ?_
        refine aw_iload dX2_goThroughAll_40 rfl ?_
        refine aw_aload_n dX2_goThroughAll_42 rfl rfl ?_
        refine aw_get fd_X2_18_2 dX2_goThroughAll_43 (by omega) he_L3 rfl ?_
        refine aw_iastI dX2_goThroughAll_46 (by omega) rfl (fun _ => rfl) (vp_in_nI hi6 (by decide)) (show _ = gtF F x (i + 1) from by rw [← gtF_s, nI_clamp (show i < 2 ^ 31 by omega)]; rfl) ?_
        refine aw_iload_n dX2_goThroughAll_47 rfl rfl ?_
        refine aw_iload dX2_goThroughAll_48 rfl ?_
        refine aw_callSN (host := RX8) cw_X8_bit (by decide +kernel) sm_X8_bit (c_X8_bit _ _ _) ⟨Nat.le_of_ble_eq_true rfl, Nat.le_of_ble_eq_true rfl⟩ ⟨Nat.zero_le _, Nat.zero_le _⟩ rfl rfl (Nat.le_of_ble_eq_true rfl) dX2_goThroughAll_50 ?_
        rintro _ _ ⟨rfl, rfl⟩
        refine aw_iconst (v := (-1)) dX2_goThroughAll_53 (by decide) ?_
        refine aw_ixor dX2_goThroughAll_54 ?_
        refine aw_iand dX2_goThroughAll_55 ?_
        refine aw_istore_n dX2_goThroughAll_56 rfl (by decide) rfl ?_
        refine aw_iinc (v := 1) dX2_goThroughAll_57 rfl (by decide) (by decide) rfl ?_
        refine aw_iinc (v := 1) dX2_goThroughAll_60 rfl (by decide) (by decide) rfl ?_
        refine aw_goto (tgt := 8) dX2_goThroughAll_63 (by decide) ?_
        rw [nI_1]
        exact ih (m - 1) (by omega) (i + 1) _ _ _ _ (by omega) (by
          obtain ⟨m2, rfl⟩ : ∃ m2, m = m2 + 1 := ⟨m - 1, by omega⟩
          rw [← hq, gtC, if_neg c_16]
          rfl)
set_option maxRecDepth 100000 in
set_option maxHeartbeats 4000000 in
theorem c_X2_goThroughAll {l : Launch} {D : va_G} {tc : Nat → ClassId} (pk : Nat → Nat) (G : Nat → Option Nat) (I F : Nat → Nat → Int32) (n : Nat) (hn : 30 ≤ n) (x : Int32) : AM l D tc yX2_goThroughAll cX2_goThroughAll 7 (some .int) 4 89 0 0 [.ref 4, .ref 3, .int x] n (hC pk G I F) (fun v n1 h1 => n1 = n ∧ (v = some (.int (nI (gtM (F 3) x))) ∧ ∃ f h s : Int32, h1 = hC pk G (L3 I f h s) (gtF F x (gtM (F 3) x)))) := by
  refine am_of (L := [some (.ref 4), some (.ref 3), some (.int x), none, none, none, none]) (by decide +kernel) (Nat.le_of_ble_eq_true rfl) rfl ?_
  refine aw_iload_n dX2_goThroughAll_0 rfl rfl ?_
  refine aw_istore_n dX2_goThroughAll_1 rfl (by decide) rfl ?_
  refine aw_iconst (v := 0) dX2_goThroughAll_2 (by decide) ?_
  refine aw_istore dX2_goThroughAll_3 (by decide) rfl ?_
  refine aw_iconst (v := 0) dX2_goThroughAll_5 (by decide) ?_
  refine aw_istore dX2_goThroughAll_6 (by decide) rfl ?_
  have hl := lp_X2_goThroughAll (l := l) (D := D) (tc := tc) pk G I F n hn x 6 0 (I 4 2) (I 4 3) (I 4 4) none (by omega) rfl
  rw [← L3_I, gtF_0] at hl
  exact hl
set_option maxRecDepth 100000 in
set_option maxHeartbeats 4000000 in
theorem lp_X2_placeOf {l : Launch} {D : va_G} {tc : Nat → ClassId} (pk : Nat → Nat) (G : Nat → Option Nat) (I F : Nat → Nat → Int32) (n : Nat) (hn : 30 ≤ n) (x y f9 h9 s9 : Int32) : ∀ (m i : Nat), i + m = gtM (F 3) x → fdN (dnN (F 3) x) y i m = sPlace (F 3) x y → AW l D tc yX2_placeOf.cls cX2_placeOf 6 (some .int) { frames := 5, cells := 0, slots := 0, locals := 115 } n 0 0 (fun v n1 h1 => n1 = n ∧ (v = some (.int (sPlace (F 3) x y)) ∧ ∃ f h s : Int32, h1 = hC pk G (L3 I f h s) (gtF F x (gtM (F 3) x)))) 11 [some (.ref 4), some (.int y), some (.ref 3), some (.int x), some (.int (nI (gtM (F 3) x))), some (.int (nI i))] [] n (hC pk G (L3 I f9 h9 s9) (gtF F x (gtM (F 3) x))) 0 0 := by
  have hM := gtM_le (F 3) x
  intro m
  induction m using Nat.strongRecOn with
  | _ m ih =>
    intro i hi hq
    refine aw_iload dX2_placeOf_11 rfl ?_
    refine aw_iload dX2_placeOf_13 rfl ?_
    refine aw_icmp_ge (tgt := 38) dX2_placeOf_15 (by decide) (fun c_15 => ?_) (fun c_15 => ?_)
    · have hi6 := lp_ge (N := gtM (F 3) x) (by omega) (by omega) c_15
      have hm : m = 0 := by omega
      subst hm
      refine aw_bipush (v := (6)) dX2_placeOf_38 (by decide) ?_
      refine aw_iret dX2_placeOf_40 (Nat.zero_le _) (Nat.zero_le _) ?_
      refine ⟨rfl, ?_, f9, h9, s9, rfl⟩
      rw [← hq]
      rfl
    · have hi6 := lp_lt (N := gtM (F 3) x) (by omega) c_15
      refine aw_aload_n dX2_placeOf_18 rfl rfl ?_
      refine aw_get fd_X2_9_2 dX2_placeOf_19 (by omega) he_L3 rfl ?_
      refine aw_iload dX2_placeOf_22 rfl ?_
      refine aw_iald dX2_placeOf_24 (by omega) rfl (vp_in_nI (by omega) (by decide)) ?_
      have hv : gtF F x (gtM (F 3) x) 5 (nI i).toNatClampNeg = dnN (F 3) x i := by
        rw [nI_clamp (by omega)]
        exact if_pos hi6
      refine aw_iload_n dX2_placeOf_25 rfl rfl ?_
      refine aw_icmp_ne (tgt := 32) dX2_placeOf_26 (by decide) (fun c_26 => ?_) (fun c_26 => ?_)
      · refine aw_iinc (v := 1) dX2_placeOf_32 rfl (by decide) (by decide) rfl ?_
        refine aw_goto (tgt := 11) dX2_placeOf_35 (by decide) ?_
        rw [nI_1]
        exact ih (m - 1) (by omega) (i + 1) (by omega) (by
          obtain ⟨m2, rfl⟩ : ∃ m2, m = m2 + 1 := ⟨m - 1, by omega⟩
          rw [← hq, fdN, if_neg (by rw [← hv]; exact c_26)]
          rfl)
      · refine aw_iload dX2_placeOf_29 rfl ?_
        refine aw_iret dX2_placeOf_31 (Nat.zero_le _) (Nat.zero_le _) ?_
        obtain ⟨m2, rfl⟩ : ∃ m2, m = m2 + 1 := ⟨m - 1, by omega⟩
        refine ⟨rfl, ?_, f9, h9, s9, rfl⟩
        rw [← hq, fdN, if_pos (by rw [← hv]; exact c_26)]
set_option maxRecDepth 100000 in
set_option maxHeartbeats 4000000 in
theorem c_X2_placeOf {l : Launch} {D : va_G} {tc : Nat → ClassId} (pk : Nat → Nat) (G : Nat → Option Nat) (I F : Nat → Nat → Int32) (n : Nat) (hn : 30 ≤ n) (x y : Int32) : AM l D tc yX2_placeOf cX2_placeOf 6 (some .int) 5 115 0 0 [.ref 4, .int y, .ref 3, .int x] n (hC pk G I F) (fun v n1 h1 => n1 = n ∧ (v = some (.int (sPlace (F 3) x y)) ∧ ∃ f h s : Int32, h1 = hC pk G (L3 I f h s) (gtF F x (gtM (F 3) x)))) := by
  refine am_of (L := [some (.ref 4), some (.int y), some (.ref 3), some (.int x), none, none]) (by decide +kernel) (Nat.le_of_ble_eq_true rfl) rfl ?_
  refine aw_aload_n dX2_placeOf_0 rfl rfl ?_
  refine aw_aload_n dX2_placeOf_1 rfl rfl ?_
  refine aw_iload_n dX2_placeOf_2 rfl rfl ?_
  refine aw_callV cw_X2_goThroughAll ml_X2_47 im_X2_goThroughAll sl_X2_X2_goThroughAll rfl (by omega) rfl (c_X2_goThroughAll pk G _ _ n hn _) ⟨Nat.le_of_ble_eq_true rfl, Nat.le_of_ble_eq_true rfl⟩ ⟨Nat.zero_le _, Nat.zero_le _⟩ rfl rfl (Nat.le_of_ble_eq_true rfl) dX2_placeOf_3 ?_
  rintro _ _ ⟨rfl, f9, h9, s9, rfl⟩
  refine aw_istore dX2_placeOf_6 (by decide) rfl ?_
  refine aw_iconst (v := 0) dX2_placeOf_8 (by decide) ?_
  refine aw_istore dX2_placeOf_9 (by decide) rfl ?_
  exact lp_X2_placeOf pk G I F n hn x y f9 h9 s9 _ 0 (by omega) rfl
def rdF (F : Nat → Nat → Int32) (c : Nat) (p s o : Int32) : Nat → Nat → Int32 := st_F (st_F (st_F F 18 (upd (F 18) c p)) 19 (upd (F 19) c s)) 20 (upd (F 20) c o)
theorem nar_b (b : Bool) : vp_nar .boolean (b2i b) = b2i b := by cases b <;> rfl
set_option maxRecDepth 100000 in
set_option maxHeartbeats 4000000 in
theorem c_X5_add {l : Launch} {D : va_G} {tc : Nat → ClassId} (pk : Nat → Nat) (G : Nat → Option Nat) (I F : Nat → Nat → Int32) (n : Nat) (hn : 30 ≤ n) {c : Nat} (hc : c < 8) (hI : I 17 3 = nI c) (p s : Int32) (b : Bool) : AM l D tc yX5_add cX5_add 4 (some .int) 1 22 0 0 [.ref 17, .int p, .int s, .int (b2i b)] n (hC pk G I F) (fun v n1 h1 => n1 = n ∧ (v = some (.int (nI c)) ∧ h1 = hC pk G (st_I I 17 3 (nI (c + 1))) (rdF F c p s (b2i b)))) := by
  refine am_of (L := [some (.ref 17), some (.int p), some (.int s), some (.int (b2i b))]) (by decide +kernel) (Nat.le_of_ble_eq_true rfl) rfl ?_
  refine aw_aload_n dX5_add_0 rfl rfl ?_
  refine aw_get fd_X5_22_5 dX5_add_1 (by omega) rfl rfl ?_
  refine aw_iconst (v := 0) dX5_add_4 (by decide) ?_
  refine aw_bipush (v := (7)) dX5_add_5 (by decide) ?_
  refine aw_callSN (host := RX8) cw_X8_isWithin (by decide +kernel) sm_X8_isWithin (c_X8_isWithin _ _ _ _ _) ⟨Nat.le_of_ble_eq_true rfl, Nat.le_of_ble_eq_true rfl⟩ ⟨Nat.zero_le _, Nat.zero_le _⟩ rfl rfl (Nat.le_of_ble_eq_true rfl) dX5_add_7 ?_
  rintro _ _ ⟨rfl, rfl⟩
  refine aw_if_ne (tgt := 16) dX5_add_10 (by decide) (fun c_10 => ?_) (fun c_10 => ?_)
  · refine aw_aload_n dX5_add_16 rfl rfl ?_
    refine aw_get fd_X5_9_5 dX5_add_17 (by omega) rfl rfl ?_
    refine aw_aload_n dX5_add_20 rfl rfl ?_
    refine aw_get fd_X5_22_5 dX5_add_21 (by omega) rfl rfl ?_
    refine aw_iload_n dX5_add_24 rfl rfl ?_
    refine aw_iasti dX5_add_25 (by omega) rfl (fun _ => rfl) (by first | (rw [hI]; exact vp_in_nI hc (by decide))) ?_
    refine aw_aload_n dX5_add_26 rfl rfl ?_
    refine aw_get fd_X5_15_5 dX5_add_27 (by omega) rfl rfl ?_
    refine aw_aload_n dX5_add_30 rfl rfl ?_
    refine aw_get fd_X5_22_5 dX5_add_31 (by omega) rfl rfl ?_
    refine aw_iload_n dX5_add_34 rfl rfl ?_
    refine aw_iasti dX5_add_35 (by omega) rfl (fun _ => rfl) (by first | (rw [hI]; exact vp_in_nI hc (by decide))) ?_
    refine aw_aload_n dX5_add_36 rfl rfl ?_
    refine aw_get fd_X5_18_5 dX5_add_37 (by omega) rfl rfl ?_
    refine aw_aload_n dX5_add_40 rfl rfl ?_
    refine aw_get fd_X5_22_5 dX5_add_41 (by omega) rfl rfl ?_
    refine aw_iload_n dX5_add_44 rfl rfl ?_
    refine aw_zasti dX5_add_45 (by omega) rfl (fun _ => rfl) (by first | (rw [hI]; exact vp_in_nI hc (by decide))) ?_
    refine aw_aload_n dX5_add_46 rfl rfl ?_
    refine aw_dup dX5_add_47 rfl ?_
    refine aw_get fd_X5_22_5 dX5_add_48 (by omega) rfl rfl ?_
    refine aw_iconst (v := 1) dX5_add_51 (by decide) ?_
    refine aw_iadd dX5_add_52 ?_
    refine aw_puti fp_X5_22_5 dX5_add_53 (by omega) rfl rfl rfl (Nat.le_of_ble_eq_true rfl) rfl ?_
    refine aw_aload_n dX5_add_56 rfl rfl ?_
    refine aw_get fd_X5_22_5 dX5_add_57 (by omega) rfl rfl ?_
    refine aw_iconst (v := 1) dX5_add_60 (by decide) ?_
    refine aw_isub dX5_add_61 ?_
    refine aw_iret dX5_add_62 (Nat.zero_le _) (Nat.zero_le _) ?_
    refine ⟨rfl, ?_, ?_⟩
    · show some (Value.int (I 17 3 + 1 - 1)) = _
      rw [hI, nI_1, nI_pred]
    · show hC pk G (st_I I 17 3 (I 17 3 + 1)) (st_F (st_F (st_F F 18 (upd (F 18) (I 17 3).toNatClampNeg p)) 19 (upd (F 19) (I 17 3).toNatClampNeg s)) 20 (upd (F 20) (I 17 3).toNatClampNeg (vp_nar .boolean (b2i b)))) = _
      rw [hI, nI_1, nI_clamp (by omega), nar_b]
      rfl
  · have hs : sW (nI c) 0 7 = true := sW_nI (m := 7) (by decide) (by omega)
    exact absurd c_10 (by rw [hI, hs]; decide)
set_option maxRecDepth 100000 in
set_option maxHeartbeats 4000000 in
theorem lp_X5_areSo {l : Launch} {D : va_G} {tc : Nat → ClassId} (pk : Nat → Nat) (G : Nat → Option Nat) (I F : Nat → Nat → Int32) (n : Nat) (hn : 30 ≤ n) {c : Nat} (hc : c ≤ 8) (hI : I 17 3 = nI c) (hw : ∀ k, k < c → vp_in (F 18 k) 6) : ∀ (m i : Nat), i + m = c → rdAll (F 3) (F 18) (F 19) (F 20) i = true → AW l D tc yX5_areSo.cls cX5_areSo 3 (some .boolean) { frames := 0, cells := 0, slots := 0, locals := 0 } n 0 0 (fun v n1 h1 => n1 = n ∧ (v = some (.int (b2i (rdAll (F 3) (F 18) (F 19) (F 20) c))) ∧ h1 = (hC pk G I F))) 2 [some (.ref 17), some (.ref 3), some (.int (nI i))] [] n (hC pk G I F) 0 0 := by
  intro m
  induction m using Nat.strongRecOn with
  | _ m ih =>
    intro i hi hq
    refine aw_iload_n dX5_areSo_2 rfl rfl ?_
    refine aw_aload_n dX5_areSo_3 rfl rfl ?_
    refine aw_get fd_X5_22_5 dX5_areSo_4 (by omega) rfl rfl ?_
    refine aw_icmp_ge (tgt := 49) dX5_areSo_7 (by decide) (fun c_7 => ?_) (fun c_7 => ?_)
    · refine aw_iconst (v := 1) dX5_areSo_49 (by decide) ?_
      refine aw_zret dX5_areSo_50 (by first | rfl | exact aw_nb _) (Nat.zero_le _) (Nat.zero_le _) ?_
      have hi6 := lp_ge (i := i) (N := c) (by omega) (by omega) (by rw [← hI]; exact c_7)
      subst hi6
      refine ⟨rfl, ?_, rfl⟩
      rw [hq]
      rfl
    · have hi6 : i < c := lp_lt (N := c) (by omega) (by rw [← hI]; exact c_7)
      refine aw_aload_n dX5_areSo_10 rfl rfl ?_
      refine aw_aload_n dX5_areSo_11 rfl rfl ?_
      refine aw_get fd_X5_9_5 dX5_areSo_12 (by omega) rfl rfl ?_
      refine aw_iload_n dX5_areSo_15 rfl rfl ?_
      refine aw_iald dX5_areSo_16 (by omega) rfl (vp_in_nI (by omega) (by decide)) ?_
      refine aw_iald dX5_areSo_17 (by omega) rfl (by rw [nI_clamp (show i < 2 ^ 31 by omega)]; exact hw i hi6) ?_
      refine aw_aload_n dX5_areSo_18 rfl rfl ?_
      refine aw_get fd_X5_15_5 dX5_areSo_19 (by omega) rfl rfl ?_
      refine aw_iload_n dX5_areSo_22 rfl rfl ?_
      refine aw_iald dX5_areSo_23 (by omega) rfl (vp_in_nI (by omega) (by decide)) ?_
      refine aw_icmp_le (tgt := 31) dX5_areSo_24 (by decide) (fun c_24 => ?_) (fun c_24 => ?_)
      · refine aw_iconst (v := 0) dX5_areSo_31 (by decide) ?_
        refine aw_aload_n dX5_areSo_32 rfl rfl ?_
        refine aw_get fd_X5_18_5 dX5_areSo_33 (by omega) rfl rfl ?_
        refine aw_iload_n dX5_areSo_36 rfl rfl ?_
        refine aw_zald dX5_areSo_37 (by omega) rfl (vp_in_nI (by omega) (by decide)) ?_
        refine aw_icmp_eq (tgt := 43) dX5_areSo_38 (by decide) (fun c_38 => ?_) (fun c_38 => ?_)
        · refine aw_iinc (v := 1) dX5_areSo_43 rfl (by decide) (by decide) rfl ?_
          refine aw_goto (tgt := 2) dX5_areSo_46 (by decide) ?_
          rw [nI_1]
          exact ih (m - 1) (by omega) (i + 1) (by omega) (by
            rw [rdAll, hq, Bool.true_and]
            rw [nI_clamp (show i < 2 ^ 31 by omega)] at *
            simp only [rdSo, decide_eq_true_eq]
            rw [← c_38]
            simp [b2i, c_24])
        · refine aw_iconst (v := 0) dX5_areSo_41 (by decide) ?_
          refine aw_zret dX5_areSo_42 (by first | rfl | exact aw_nb _) (Nat.zero_le _) (Nat.zero_le _) ?_
          refine ⟨rfl, ?_, rfl⟩
          have hso : rdSo (F 3) (F 18) (F 19) (F 20) i = false := by
            rw [nI_clamp (show i < 2 ^ 31 by omega)] at *
            simp only [rdSo, decide_eq_false_iff_not]
            intro q9
            apply c_38
            rw [← q9]
            simp [b2i, c_24]
          rw [rdAll_no hi6 hso]
          rfl
      · refine aw_iconst (v := 1) dX5_areSo_27 (by decide) ?_
        refine aw_goto (tgt := 32) dX5_areSo_28 (by decide) ?_
        refine aw_aload_n dX5_areSo_32 rfl rfl ?_
        refine aw_get fd_X5_18_5 dX5_areSo_33 (by omega) rfl rfl ?_
        refine aw_iload_n dX5_areSo_36 rfl rfl ?_
        refine aw_zald dX5_areSo_37 (by omega) rfl (vp_in_nI (by omega) (by decide)) ?_
        refine aw_icmp_eq (tgt := 43) dX5_areSo_38 (by decide) (fun c_38 => ?_) (fun c_38 => ?_)
        · refine aw_iinc (v := 1) dX5_areSo_43 rfl (by decide) (by decide) rfl ?_
          refine aw_goto (tgt := 2) dX5_areSo_46 (by decide) ?_
          rw [nI_1]
          exact ih (m - 1) (by omega) (i + 1) (by omega) (by
            rw [rdAll, hq, Bool.true_and]
            rw [nI_clamp (show i < 2 ^ 31 by omega)] at *
            simp only [rdSo, decide_eq_true_eq]
            rw [← c_38]
            simp [b2i, c_24])
        · refine aw_iconst (v := 0) dX5_areSo_41 (by decide) ?_
          refine aw_zret dX5_areSo_42 (by first | rfl | exact aw_nb _) (Nat.zero_le _) (Nat.zero_le _) ?_
          refine ⟨rfl, ?_, rfl⟩
          have hso : rdSo (F 3) (F 18) (F 19) (F 20) i = false := by
            rw [nI_clamp (show i < 2 ^ 31 by omega)] at *
            simp only [rdSo, decide_eq_false_iff_not]
            intro q9
            apply c_38
            rw [← q9]
            simp [b2i, c_24]
          rw [rdAll_no hi6 hso]
          rfl
set_option maxRecDepth 100000 in
set_option maxHeartbeats 4000000 in
theorem c_X5_areSo {l : Launch} {D : va_G} {tc : Nat → ClassId} (pk : Nat → Nat) (G : Nat → Option Nat) (I F : Nat → Nat → Int32) (n : Nat) (hn : 30 ≤ n) {c : Nat} (hc : c ≤ 8) (hI : I 17 3 = nI c) (hw : ∀ k, k < c → vp_in (F 18 k) 6) : AM l D tc yX5_areSo cX5_areSo 3 (some .boolean) 0 0 0 0 [.ref 17, .ref 3] n (hC pk G I F) (fun v n1 h1 => n1 = n ∧ (v = some (.int (b2i (rdAll (F 3) (F 18) (F 19) (F 20) c))) ∧ h1 = (hC pk G I F))) := by
  refine am_of (L := [some (.ref 17), some (.ref 3), none]) (by decide +kernel) (Nat.le_of_ble_eq_true rfl) rfl ?_
  refine aw_iconst (v := 0) dX5_areSo_0 (by decide) ?_
  refine aw_istore_n dX5_areSo_1 rfl (by decide) rfl ?_
  exact lp_X5_areSo pk G I F n hn hc hI hw c 0 (by omega) rfl
