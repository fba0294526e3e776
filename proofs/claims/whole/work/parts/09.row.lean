/-! rows of cells -/
theorem i32_lt (a b : Int32) : a < b ↔ a.toInt < b.toInt := Int32.lt_iff_toInt_lt
theorem i32_le (a b : Int32) : a ≤ b ↔ a.toInt ≤ b.toInt := Int32.le_iff_toInt_le
def sHasC (z i m : Int32) : Bool := !decide (i < 0) && !decide (z < i) && !decide (m < 0) && !decide (z - i < m)
theorem hasC_iff {z : Nat} (hz : z ≤ 60) (i m : Int32) : sHasC (nI z) i m = true ↔ ∃ a b : Nat, i = nI a ∧ m = nI b ∧ a + b ≤ z := by
  unfold sHasC
  simp only [Bool.and_eq_true, Bool.not_eq_true', decide_eq_false_iff_not]
  constructor
  · rintro ⟨⟨⟨h1, h2⟩, h3⟩, h4⟩
    obtain ⟨a, ha, rfl⟩ := nI_of h1
    obtain ⟨b, hb, rfl⟩ := nI_of h3
    have e1 : a ≤ z := by
      rcases Nat.lt_or_ge z a with q | q
      · exact absurd (nI_lt q (by omega)) h2
      · exact q
    rw [pk_sub e1] at h4
    have e2 : b ≤ z - a := by
      rcases Nat.lt_or_ge (z - a) b with q | q
      · exact absurd (nI_lt q (by omega)) h4
      · exact q
    exact ⟨a, b, rfl, rfl, by omega⟩
  · rintro ⟨a, b, rfl, rfl, h⟩
    rw [pk_sub (by omega)]
    exact ⟨⟨⟨nI_pos (by omega), nI_nlt (by omega) (by omega)⟩, nI_pos (by omega)⟩, nI_nlt (by omega) (by omega)⟩
theorem rd_in {z : Nat} (hz : z ≤ 60) {w i : Int32} (hw : w = nI z) (h : sHasC w i 1 = true) : vp_in i 60 := by
  subst hw
  obtain ⟨a, b, rfl, e, h1⟩ := (hasC_iff hz i 1).mp h
  have : b = 1 := by
    have e2 : nI 1 = nI b := by rw [← e]; rfl
    exact ((nI_eq (by omega) (by omega)).mp e2).symm
  exact vp_in_nI (by omega) (by decide)
def sRead (z : Int32) (f : Nat → Int32) (i : Int32) : Int32 := if sHasC z i 1 then f i.toNatClampNeg else 0
def sCut (lane v : Int32) : Int32 := if lane = 0 then v.toInt8.toInt32 else if lane = 1 then v.toInt16.toInt32 else v
def zr (f : Nat → Int32) (i : Nat) : Nat → Int32 := fun j => if j < i then 0 else f j
theorem zr_0 (f : Nat → Int32) : zr f 0 = f := by funext j; simp [zr]
theorem zr_s (f : Nat → Int32) (i : Nat) : upd (zr f i) i 0 = zr f (i + 1) := by
  funext j
  unfold upd zr
  by_cases e : j = i
  · subst e; simp
  · by_cases q : j < i
    · simp [e, q, Nat.lt_succ_of_lt q]
    · simp [e, q, show ¬ j < i + 1 by omega]
theorem st_FF (F : Nat → Nat → Int32) (a : Nat) (g g' : Nat → Int32) : st_F (st_F F a g) a g' = st_F F a g' := by
  funext b
  unfold st_F
  by_cases e : b = a <;> simp [e]
theorem st_F0 (F : Nat → Nat → Int32) (a : Nat) : st_F F a (F a) = F := by
  funext b
  unfold st_F
  by_cases e : b = a
  · subst e; simp
  · simp [e]
theorem rn_sz {z : Nat} (hz : z ≤ 60) : (if (0 : Int32) < (if (60 : Int32) < nI z then 60 else nI z) then (if (60 : Int32) < nI z then 60 else nI z) else 0) = nI z := by
  have h1 : ¬ (60 : Int32) < nI z := nI_nlt (a := 60) hz (by omega)
  rw [if_neg h1]
  by_cases h : 0 < z
  · have h2 : (0 : Int32) < nI z := nI_lt (a := 0) h (by omega)
    rw [if_pos h2]
  · have : z = 0 := by omega
    subst this
    decide
def rnI (I : Nat → Nat → Int32) (k : Nat) (a z : Int32) : Nat → Nat → Int32 := st_I (st_I (st_I I (22 + k) 1 1) (22 + k) 2 a) (22 + k) 3 z

set_option maxRecDepth 100000 in
set_option maxHeartbeats 4000000 in
theorem c_X6_hasCells {l : Launch} {D : va_G} {tc : Nat → ClassId} (pk : Nat → Nat) (G : Nat → Option Nat) (I F : Nat → Nat → Int32) (n : Nat) (hn : 30 ≤ n) (k : Nat) (hk : k < 4) (i m : Int32) : AM l D tc yX6_hasCells cX6_hasCells 3 (some .boolean) 0 0 0 0 [.ref (22 + k), .int i, .int m] n (hC pk G I F) (fun v n1 h1 => n1 = n ∧ (v = some (.int (b2i (sHasC (I (22 + k) 3) i m))) ∧ h1 = (hC pk G I F))) := by
  refine am_of (L := [some (.ref (22 + k)), some (.int i), some (.int m)]) (by decide +kernel) (Nat.le_of_ble_eq_true rfl) rfl ?_
  refine aw_iload_n dX6_hasCells_0 rfl rfl ?_
  refine aw_if_lt (tgt := 30) dX6_hasCells_1 (by decide) (fun c_1 => ?_) (fun c_1 => ?_)
  · refine aw_iconst (v := 0) dX6_hasCells_30 (by decide) ?_
    refine aw_zret dX6_hasCells_31 (by first | rfl | exact aw_nb _) (Nat.zero_le _) (Nat.zero_le _) ?_
    refine ⟨rfl, ?_, rfl⟩
    simp [b2i, sHasC, *]
  · refine aw_iload_n dX6_hasCells_4 rfl rfl ?_
    refine aw_aload_n dX6_hasCells_5 rfl rfl ?_
    refine aw_get fd_X6_32_6 dX6_hasCells_6 (by omega) (entC_row _ _ hk _ _) rfl ?_
    refine aw_icmp_gt (tgt := 30) dX6_hasCells_9 (by decide) (fun c_9 => ?_) (fun c_9 => ?_)
    · refine aw_iconst (v := 0) dX6_hasCells_30 (by decide) ?_
      refine aw_zret dX6_hasCells_31 (by first | rfl | exact aw_nb _) (Nat.zero_le _) (Nat.zero_le _) ?_
      refine ⟨rfl, ?_, rfl⟩
      simp [b2i, sHasC, *]
    · refine aw_iload_n dX6_hasCells_12 rfl rfl ?_
      refine aw_if_lt (tgt := 30) dX6_hasCells_13 (by decide) (fun c_13 => ?_) (fun c_13 => ?_)
      · refine aw_iconst (v := 0) dX6_hasCells_30 (by decide) ?_
        refine aw_zret dX6_hasCells_31 (by first | rfl | exact aw_nb _) (Nat.zero_le _) (Nat.zero_le _) ?_
        refine ⟨rfl, ?_, rfl⟩
        simp [b2i, sHasC, *]
      · refine aw_iload_n dX6_hasCells_16 rfl rfl ?_
        refine aw_aload_n dX6_hasCells_17 rfl rfl ?_
        refine aw_get fd_X6_32_6 dX6_hasCells_18 (by omega) (entC_row _ _ hk _ _) rfl ?_
        refine aw_iload_n dX6_hasCells_21 rfl rfl ?_
        refine aw_isub dX6_hasCells_22 ?_
        refine aw_icmp_gt (tgt := 30) dX6_hasCells_23 (by decide) (fun c_23 => ?_) (fun c_23 => ?_)
        · refine aw_iconst (v := 0) dX6_hasCells_30 (by decide) ?_
          refine aw_zret dX6_hasCells_31 (by first | rfl | exact aw_nb _) (Nat.zero_le _) (Nat.zero_le _) ?_
          refine ⟨rfl, ?_, rfl⟩
          simp [b2i, sHasC, *]
        · refine aw_iconst (v := 1) dX6_hasCells_26 (by decide) ?_
          refine aw_goto (tgt := 31) dX6_hasCells_27 (by decide) ?_
          refine aw_zret dX6_hasCells_31 (by first | rfl | exact aw_nb _) (Nat.zero_le _) (Nat.zero_le _) ?_
          refine ⟨rfl, ?_, rfl⟩
          simp [b2i, sHasC, *]
set_option maxRecDepth 100000 in
set_option maxHeartbeats 4000000 in
theorem c_X6_read {l : Launch} {D : va_G} {tc : Nat → ClassId} (pk : Nat → Nat) (G : Nat → Option Nat) (I F : Nat → Nat → Int32) (n : Nat) (hn : 30 ≤ n) (k : Nat) (hk : k < 4) {z : Nat} (hz : z ≤ 60) (hI : I (22 + k) 3 = nI z) (i : Int32) : AM l D tc yX6_read cX6_read 2 (some .int) 1 22 0 0 [.ref (22 + k), .int i] n (hC pk G I F) (fun v n1 h1 => n1 = n ∧ (v = some (.int (sRead (I (22 + k) 3) (F (26 + k)) i)) ∧ h1 = (hC pk G I F))) := by
  refine am_of (L := [some (.ref (22 + k)), some (.int i)]) (by decide +kernel) (Nat.le_of_ble_eq_true rfl) rfl ?_
  refine aw_aload_n dX6_read_0 rfl rfl ?_
  refine aw_iload_n dX6_read_1 rfl rfl ?_
  refine aw_iconst (v := 1) dX6_read_2 (by decide) ?_
  refine aw_callV cw_X6_hasCells ml_X6_35 im_X6_hasCells sl_X6_X6_hasCells rfl (by omega) (entC_row _ _ hk _ _) (c_X6_hasCells pk G _ _ n hn _ hk _ _) ⟨Nat.le_of_ble_eq_true rfl, Nat.le_of_ble_eq_true rfl⟩ ⟨Nat.zero_le _, Nat.zero_le _⟩ rfl rfl (Nat.le_of_ble_eq_true rfl) dX6_read_3 ?_
  rintro _ _ ⟨rfl, rfl⟩
  refine aw_if_eq (tgt := 18) dX6_read_6 (by decide) (fun c_6 => ?_) (fun c_6 => ?_)
  · refine aw_iconst (v := 0) dX6_read_18 (by decide) ?_
    refine aw_iret dX6_read_19 (Nat.zero_le _) (Nat.zero_le _) ?_
    refine ⟨rfl, ?_, rfl⟩
    first | rw [sRead, if_neg (by rw [(b2i_eq0 _).mp c_6]; decide)] | rw [sRead, if_pos ((b2i_ne0 _).mp c_6)]
  · refine aw_aload_n dX6_read_9 rfl rfl ?_
    refine aw_get fd_X6_9_6 dX6_read_10 (by omega) (entC_row _ _ hk _ _) rfl ?_
    refine aw_iload_n dX6_read_13 rfl rfl ?_
    refine aw_iald dX6_read_14 (by omega) (entC_cells _ _ hk _ _) (rd_in hz hI ((b2i_ne0 _).mp c_6)) ?_
    refine aw_goto (tgt := 19) dX6_read_15 (by decide) ?_
    refine aw_iret dX6_read_19 (Nat.zero_le _) (Nat.zero_le _) ?_
    refine ⟨rfl, ?_, rfl⟩
    first | rw [sRead, if_neg (by rw [(b2i_eq0 _).mp c_6]; decide)] | rw [sRead, if_pos ((b2i_ne0 _).mp c_6)]
set_option maxRecDepth 100000 in
set_option maxHeartbeats 4000000 in
theorem c_X6_cut {l : Launch} {D : va_G} {tc : Nat → ClassId} (pk : Nat → Nat) (G : Nat → Option Nat) (I F : Nat → Nat → Int32) (n : Nat) (hn : 30 ≤ n) (k : Nat) (hk : k < 4) (x : Int32) : AM l D tc yX6_cut cX6_cut 2 (some .int) 0 0 0 0 [.ref (22 + k), .int x] n (hC pk G I F) (fun v n1 h1 => n1 = n ∧ (v = some (.int (sCut (I (22 + k) 2) x)) ∧ h1 = (hC pk G I F))) := by
  refine am_of (L := [some (.ref (22 + k)), some (.int x)]) (by decide +kernel) (Nat.le_of_ble_eq_true rfl) rfl ?_
  refine aw_aload_n dX6_cut_0 rfl rfl ?_
  refine aw_get fd_X6_19_6 dX6_cut_1 (by omega) (entC_row _ _ hk _ _) rfl ?_
  by_cases e_4_0 : I (22 + k) 2 = 0
  · refine aw_lookupC (off := 28) (tgt := 32) e_4_0 dX6_cut_4 (by decide) (by decide) (by decide) ?_
    refine aw_iload_n dX6_cut_32 rfl rfl ?_
    refine aw_i2b dX6_cut_33 ?_
    refine aw_iret dX6_cut_34 (Nat.zero_le _) (Nat.zero_le _) ?_
    refine ⟨rfl, ?_, rfl⟩
    simp [sCut, *]
  by_cases e_4_1 : I (22 + k) 2 = 1
  · refine aw_lookupC (off := 31) (tgt := 35) e_4_1 dX6_cut_4 (by decide) (by decide) (by decide) ?_
    refine aw_iload_n dX6_cut_35 rfl rfl ?_
    refine aw_i2s dX6_cut_36 ?_
    refine aw_iret dX6_cut_37 (Nat.zero_le _) (Nat.zero_le _) ?_
    refine ⟨rfl, ?_, rfl⟩
    simp [sCut, *]
  refine aw_lookup (off := 34) (tgt := 38) dX6_cut_4 (by decide) (aw_lk2 (by decide) (by decide) e_4_0 e_4_1) (by decide) ?_
  refine aw_iload_n dX6_cut_38 rfl rfl ?_
  refine aw_iret dX6_cut_39 (Nat.zero_le _) (Nat.zero_le _) ?_
  refine ⟨rfl, ?_, rfl⟩
  simp [sCut, *]
set_option maxRecDepth 100000 in
set_option maxHeartbeats 4000000 in
theorem c_X6_write {l : Launch} {D : va_G} {tc : Nat → ClassId} (pk : Nat → Nat) (G : Nat → Option Nat) (I F : Nat → Nat → Int32) (n : Nat) (hn : 30 ≤ n) (k : Nat) (hk : k < 4) {z : Nat} (hz : z ≤ 60) (hI : I (22 + k) 3 = nI z) (i x : Int32) : AM l D tc yX6_write cX6_write 3 none 1 22 0 0 [.ref (22 + k), .int i, .int x] n (hC pk G I F) (fun v n1 h1 => n1 = n ∧ (v = none ∧ h1 = hC pk G I (if sHasC (I (22 + k) 3) i 1 then st_F F (26 + k) (upd (F (26 + k)) i.toNatClampNeg (sCut (I (22 + k) 2) x)) else F))) := by
  refine am_of (L := [some (.ref (22 + k)), some (.int i), some (.int x)]) (by decide +kernel) (Nat.le_of_ble_eq_true rfl) rfl ?_
  refine aw_aload_n dX6_write_0 rfl rfl ?_
  refine aw_iload_n dX6_write_1 rfl rfl ?_
  refine aw_iconst (v := 1) dX6_write_2 (by decide) ?_
  refine aw_callV cw_X6_hasCells ml_X6_35 im_X6_hasCells sl_X6_X6_hasCells rfl (by omega) (entC_row _ _ hk _ _) (c_X6_hasCells pk G _ _ n hn _ hk _ _) ⟨Nat.le_of_ble_eq_true rfl, Nat.le_of_ble_eq_true rfl⟩ ⟨Nat.zero_le _, Nat.zero_le _⟩ rfl rfl (Nat.le_of_ble_eq_true rfl) dX6_write_3 ?_
  rintro _ _ ⟨rfl, rfl⟩
  refine aw_if_eq (tgt := 20) dX6_write_6 (by decide) (fun c_6 => ?_) (fun c_6 => ?_)
  · refine aw_vret dX6_write_20 (Nat.zero_le _) (Nat.zero_le _) ?_
    refine ⟨rfl, rfl, ?_⟩
    first | rw [if_neg (by rw [(b2i_eq0 _).mp c_6]; decide)] | rw [if_pos ((b2i_ne0 _).mp c_6)]
  · refine aw_aload_n dX6_write_9 rfl rfl ?_
    refine aw_get fd_X6_9_6 dX6_write_10 (by omega) (entC_row _ _ hk _ _) rfl ?_
    refine aw_iload_n dX6_write_13 rfl rfl ?_
    refine aw_aload_n dX6_write_14 rfl rfl ?_
    refine aw_iload_n dX6_write_15 rfl rfl ?_
    refine aw_callV cw_X6_cut ml_X6_39 im_X6_cut sl_X6_X6_cut rfl (by omega) (entC_row _ _ hk _ _) (c_X6_cut pk G _ _ n hn _ hk _) ⟨Nat.le_of_ble_eq_true rfl, Nat.le_of_ble_eq_true rfl⟩ ⟨Nat.zero_le _, Nat.zero_le _⟩ rfl rfl (Nat.le_of_ble_eq_true rfl) dX6_write_16 ?_
    rintro _ _ ⟨rfl, rfl⟩
    refine aw_iastI dX6_write_19 (by omega) (entC_cells _ _ hk _ _) (fun _ => entC_cells _ _ hk _ _) (rd_in hz hI ((b2i_ne0 _).mp c_6)) rfl ?_
    refine aw_vret dX6_write_20 (Nat.zero_le _) (Nat.zero_le _) ?_
    refine ⟨rfl, rfl, ?_⟩
    first | rw [if_neg (by rw [(b2i_eq0 _).mp c_6]; decide)] | rw [if_pos ((b2i_ne0 _).mp c_6)]
set_option maxRecDepth 100000 in
set_option maxHeartbeats 4000000 in
theorem lp_X6_renew {l : Launch} {D : va_G} {tc : Nat → ClassId} (pk : Nat → Nat) (G : Nat → Option Nat) (I F : Nat → Nat → Int32) (n : Nat) (hn : 30 ≤ n) (k : Nat) (hk : k < 4) (a b : Int32) (f0 : Nat → Int32) {z : Nat} (hz : z ≤ 60) (hI : I (22 + k) 3 = nI z) : ∀ (m i : Nat), i + m = z → AW l D tc yX6_renew.cls cX6_renew 4 none { frames := 1, cells := 0, slots := 0, locals := 21 } n 0 0 (fun v n1 h1 => n1 = n ∧ (v = none ∧ h1 = hC pk G I (st_F F (26 + k) (zr f0 z)))) 26 [some (.ref (22 + k)), some (.int a), some (.int b), some (.int (nI i))] [] n (hC pk G I (st_F F (26 + k) (zr f0 i))) 0 0 := by
  intro m
  induction m using Nat.strongRecOn with
  | _ m ih =>
    intro i hi
    refine aw_iload_n dX6_renew_26 rfl rfl ?_
    refine aw_aload_n dX6_renew_27 rfl rfl ?_
    refine aw_get fd_X6_32_6 dX6_renew_28 (by omega) (entC_row _ _ hk _ _) rfl ?_
    refine aw_icmp_ge (tgt := 47) dX6_renew_31 (by decide) (fun c_31 => ?_) (fun c_31 => ?_)
    · refine aw_vret dX6_renew_47 (Nat.zero_le _) (Nat.zero_le _) ?_
      have : i = z := by
        rcases Nat.lt_or_ge i z with q | q
        · exact absurd c_31 (by rw [hI]; exact nI_ge q (by omega))
        · omega
      subst this
      exact ⟨rfl, rfl, rfl⟩
    · have hiz : i < z := by
        rcases Nat.lt_or_ge i z with q | q
        · exact q
        · exact absurd (by rw [hI]; exact nI_le q (by omega)) c_31
      refine aw_aload_n dX6_renew_34 rfl rfl ?_
      refine aw_get fd_X6_9_6 dX6_renew_35 (by omega) (entC_row _ _ hk _ _) rfl ?_
      refine aw_iload_n dX6_renew_38 rfl rfl ?_
      refine aw_iconst (v := 0) dX6_renew_39 (by decide) ?_
      refine aw_iastI dX6_renew_40 (by omega) (entC_cells _ _ hk _ _) (fun _ => entC_cells _ _ hk _ _) (vp_in_nI (n := i) (by omega) (by decide)) (by show st_F (st_F F (26 + k) (zr f0 i)) (26 + k) (upd (st_F F (26 + k) (zr f0 i) (26 + k)) _ 0) = _; rw [st_Fs, st_FF, nI_clamp (by omega), zr_s]) ?_
      refine aw_iinc (v := 1) dX6_renew_41 rfl (by decide) (by decide) rfl ?_
      refine aw_goto (tgt := 26) dX6_renew_44 (by decide) ?_
      rw [nI_1]
      exact ih (m - 1) (by omega) (i + 1) (by omega)
set_option maxRecDepth 100000 in
set_option maxHeartbeats 4000000 in
theorem c_X6_renew {l : Launch} {D : va_G} {tc : Nat → ClassId} (pk : Nat → Nat) (G : Nat → Option Nat) (I F : Nat → Nat → Int32) (n : Nat) (hn : 30 ≤ n) (k : Nat) (hk : k < 4) (a : Int32) {z : Nat} (hz : z ≤ 60) : AM l D tc yX6_renew cX6_renew 4 none 1 21 0 0 [.ref (22 + k), .int a, .int (nI z)] n (hC pk G I F) (fun v n1 h1 => n1 = n ∧ (v = none ∧ h1 = hC pk G (rnI I k a (nI z)) (st_F F (26 + k) (zr (F (26 + k)) z)))) := by
  refine am_of (L := [some (.ref (22 + k)), some (.int a), some (.int (nI z)), none]) (by decide +kernel) (Nat.le_of_ble_eq_true rfl) rfl ?_
  refine aw_aload_n dX6_renew_0 rfl rfl ?_
  refine aw_iconst (v := 1) dX6_renew_1 (by decide) ?_
  refine aw_puti fp_X6_15_6 dX6_renew_2 (by omega) (entC_row _ _ hk _ _) rfl rfl (Nat.le_of_ble_eq_true rfl) (entC_row _ _ hk _ _) ?_
  refine aw_aload_n dX6_renew_5 rfl rfl ?_
  refine aw_iload_n dX6_renew_6 rfl rfl ?_
  refine aw_puti fp_X6_19_6 dX6_renew_7 (by omega) (entC_row _ _ hk _ _) rfl rfl (Nat.le_of_ble_eq_true rfl) (entC_row _ _ hk _ _) ?_
  refine aw_aload_n dX6_renew_10 rfl rfl ?_
  refine aw_iconst (v := 0) dX6_renew_11 (by decide) ?_
  refine aw_iload_n dX6_renew_12 rfl rfl ?_
  refine aw_bipush (v := (60)) dX6_renew_13 (by decide) ?_
  refine aw_min ml_X6_23 ⟨Nat.le_of_ble_eq_true rfl, Nat.le_of_ble_eq_true rfl⟩ ⟨Nat.zero_le _, Nat.zero_le _⟩ (Nat.le_of_ble_eq_true rfl) dX6_renew_15 ?_
  refine aw_max ml_X6_29 ⟨Nat.le_of_ble_eq_true rfl, Nat.le_of_ble_eq_true rfl⟩ ⟨Nat.zero_le _, Nat.zero_le _⟩ (Nat.le_of_ble_eq_true rfl) dX6_renew_18 ?_
  rw [rn_sz hz]
  refine aw_puti fp_X6_32_6 dX6_renew_21 (by omega) (entC_row _ _ hk _ _) rfl rfl (Nat.le_of_ble_eq_true rfl) (entC_row _ _ hk _ _) ?_
  refine aw_iconst (v := 0) dX6_renew_24 (by decide) ?_
  refine aw_istore_n dX6_renew_25 rfl (by decide) rfl ?_
  have hl := lp_X6_renew (l := l) (D := D) (tc := tc) pk G (rnI I k a (nI z)) F n hn k hk a (nI z) (F (26 + k)) hz (by simp [rnI, st_I, upd]) z 0 (by omega)
  rw [zr_0, st_F0] at hl
  exact hl
