/-! the reference: clearings -/
def evS (b : Nat → Int32) (c s : Nat) : Int32 := sumN (fun p => if s.testBit p then b p else 0) c
def itG (b : Nat → Int32) (c : Nat) (g : Nat → Int32) (s t : Nat) : Int32 := if decide (nI (nd t s) = 0) && decide (evS b c t = 0) && (decide (nI t = nI s) || !decide (g (nd s t) ≤ 0)) then 1 + (if nI t = nI s then 0 else g (nd s t)) else -9
def inG (b : Nat → Int32) (c : Nat) (g : Nat → Int32) (s : Nat) : Nat → Int32
  | 0 => -9
  | t + 1 => if itG b c g s (t + 1) ≤ inG b c g s t then inG b c g s t else itG b c g s (t + 1)
def gmN (b : Nat → Int32) (c : Nat) (g0 : Nat → Int32) : Nat → Nat → Int32
  | 0 => g0
  | k + 1 => upd (gmN b c g0 k) (k + 1) (inG b c (gmN b c g0 k) (k + 1) (k + 1))
def unN (b : Nat → Int32) : Nat → Nat
  | 0 => 0
  | p + 1 => unN b p ||| (if b p = 0 then 0 else 2 ^ p)
theorem unN_lt (b : Nat → Int32) : ∀ p, unN b p < 2 ^ p
  | 0 => Nat.one_pos
  | p + 1 => by
    have h := unN_lt b p
    have h1 : 2 ^ p < 2 ^ (p + 1) := Nat.pow_lt_pow_right (by decide) (by omega)
    rw [unN]
    refine Nat.or_lt_two_pow (by omega) ?_
    split
    · exact Nat.pow_pos (by decide)
    · exact h1
theorem or_n {a b : Nat} (ha : a < 2 ^ 31) (hb : b < 2 ^ 31) : nI a ||| nI b = nI (a ||| b) := by
  have hl : a ||| b < 2 ^ 31 := Nat.or_lt_two_pow ha hb
  apply Int32.toBitVec_inj.mp
  apply BitVec.eq_of_toNat_eq
  rw [Int32.toBitVec_or, BitVec.toNat_or, pk_tn (by omega), pk_tn (by omega), pk_tn (by omega)]
theorem nd_0 {a b i : Nat} (h : nd a b = 0) (hi : a.testBit i = true) : b.testBit i = true := by
  have := nd_tb a b i
  rw [h, Nat.zero_testBit, hi] at this
  simpa using this.symm
theorem nd_ne {s t : Nat} (h : nd t s = 0) (h0 : t ≠ 0) : nd s t ≠ s := by
  intro q
  obtain ⟨i, hi⟩ := Nat.exists_testBit_of_ne_zero h0
  have h1 := nd_0 h hi
  have h2 := nd_tb s t i
  rw [q, h1, hi] at h2
  cases h2
theorem nI_00 {a : Nat} (ha : a < 2 ^ 31) : nI a = 0 ↔ a = 0 := nI_eq (b := 0) ha (by decide)

set_option maxRecDepth 100000 in
set_option maxHeartbeats 4000000 in
theorem lp_X9_isEven {l : Launch} {D : va_G} {tc : Nat → ClassId} (I F : Nat → Nat → Int32) {c : Nat} (hc : c ≤ 6) (hI5 : I 0 5 = nI c) {s : Nat} (hs : s < 64) : ∀ (m i : Nat) (a : Int32), i + m = c → sumN (fun p => if s.testBit p then blM F c p else 0) i = a → AW l D tc yX9_isEven.cls cX9_isEven 4 (some .boolean) { frames := 2, cells := 0, slots := 0, locals := 45 } 15 0 0 (fun v n1 h1 => n1 = 15 ∧ (v = some (.int (b2i (decide (evS (blM F c) c s = 0)))) ∧ h1 = (hM I F))) 4 [some (.ref 0), some (.int (nI s)), some (.int a), some (.int (nI i))] [] 15 (hM I F) 0 0 := by
  intro m
  induction m using Nat.strongRecOn with
  | _ m ih =>
    intro i a hi hq
    refine aw_iload_n dX9_isEven_4 rfl rfl ?_
    refine aw_aload_n dX9_isEven_5 rfl rfl ?_
    refine aw_get fd_X9_62_9 dX9_isEven_6 (by decide) rfl rfl ?_
    refine aw_icmp_ge (tgt := 38) dX9_isEven_9 (by decide) (fun c_9 => ?_) (fun c_9 => ?_)
    · have hi6 : i = c := lp_ge (by omega) (by omega) (by rw [← hI5]; exact c_9)
      refine aw_iload_n dX9_isEven_38 rfl rfl ?_
      refine aw_if_ne (tgt := 46) dX9_isEven_39 (by decide) (fun c_39 => ?_) (fun c_39 => ?_)
      · refine aw_iconst (v := 0) dX9_isEven_46 (by decide) ?_
        refine aw_zret dX9_isEven_47 (by first | rfl | exact aw_nb _) (Nat.zero_le _) (Nat.zero_le _) ?_
        have he : evS (blM F c) c s = a := by rw [evS, ← hq, hi6]
        refine ⟨rfl, ?_, rfl⟩
        rw [he]
        simp [b2i, c_39]
      · refine aw_iconst (v := 1) dX9_isEven_42 (by decide) ?_
        refine aw_goto (tgt := 47) dX9_isEven_43 (by decide) ?_
        refine aw_zret dX9_isEven_47 (by first | rfl | exact aw_nb _) (Nat.zero_le _) (Nat.zero_le _) ?_
        have he : evS (blM F c) c s = a := by rw [evS, ← hq, hi6]
        refine ⟨rfl, ?_, rfl⟩
        rw [he]
        simp [b2i, c_39]
    · have hi6 : i < c := lp_lt (N := c) (by omega) (by rw [← hI5]; exact c_9)
      refine aw_iload_n dX9_isEven_12 rfl rfl ?_
      refine aw_iload_n dX9_isEven_13 rfl rfl ?_
      refine aw_iload_n dX9_isEven_14 rfl rfl ?_
      refine aw_callS cw_X9_isOf ml_X9_139 sm_X9_isOf (c_X9_isOf _ _ _ _) ⟨Nat.le_of_ble_eq_true rfl, Nat.le_of_ble_eq_true rfl⟩ ⟨Nat.zero_le _, Nat.zero_le _⟩ rfl rfl (Nat.le_of_ble_eq_true rfl) dX9_isEven_15 ?_
      rintro _ _ ⟨rfl, rfl⟩
      rw [of_has (by omega) (by omega), has_tb (by omega) (by omega)]
      refine aw_ifB_eq (tgt := 29) dX9_isEven_18 (by decide) (fun c_18 => ?_) (fun c_18 => ?_)
      · refine aw_iconst (v := 0) dX9_isEven_29 (by decide) ?_
        refine aw_iadd dX9_isEven_30 ?_
        refine aw_istore_n dX9_isEven_31 rfl (by decide) rfl ?_
        refine aw_iinc (v := 1) dX9_isEven_32 rfl (by decide) (by decide) rfl ?_
        refine aw_goto (tgt := 4) dX9_isEven_35 (by decide) ?_
        rw [nI_1]
        exact ih (m - 1) (by omega) (i + 1) _ (by omega) (by
          rw [sumN, hq]
          congr 1
          simp only [c_18]
          rfl)
      · refine aw_aload_n dX9_isEven_21 rfl rfl ?_
        refine aw_iload_n dX9_isEven_22 rfl rfl ?_
        refine aw_callV cw_X9_balanceOf ml_X9_171 im_X9_balanceOf sl_X9_X9_balanceOf rfl (by decide) rfl (c_X9_balanceOf _ _ hc hI5 (p := i) (by omega)) ⟨Nat.le_of_ble_eq_true rfl, Nat.le_of_ble_eq_true rfl⟩ ⟨Nat.zero_le _, Nat.zero_le _⟩ rfl rfl (Nat.le_of_ble_eq_true rfl) dX9_isEven_23 ?_
        rintro _ _ ⟨rfl, rfl⟩
        refine aw_goto (tgt := 30) dX9_isEven_26 (by decide) ?_
        refine aw_iadd dX9_isEven_30 ?_
        refine aw_istore_n dX9_isEven_31 rfl (by decide) rfl ?_
        refine aw_iinc (v := 1) dX9_isEven_32 rfl (by decide) (by decide) rfl ?_
        refine aw_goto (tgt := 4) dX9_isEven_35 (by decide) ?_
        rw [nI_1]
        exact ih (m - 1) (by omega) (i + 1) _ (by omega) (by
          rw [sumN, hq]
          congr 1
          simp only [c_18]
          rfl)
set_option maxRecDepth 100000 in
set_option maxHeartbeats 4000000 in
theorem c_X9_isEven {l : Launch} {D : va_G} {tc : Nat → ClassId} (I F : Nat → Nat → Int32) {c : Nat} (hc : c ≤ 6) (hI5 : I 0 5 = nI c) {s : Nat} (hs : s < 64) : AM l D tc yX9_isEven cX9_isEven 4 (some .boolean) 2 45 0 0 [.ref 0, .int (nI s)] 15 (hM I F) (fun v n1 h1 => n1 = 15 ∧ (v = some (.int (b2i (decide (evS (blM F c) c s = 0)))) ∧ h1 = (hM I F))) := by
  refine am_of (L := [some (.ref 0), some (.int (nI s)), none, none]) (by decide +kernel) (Nat.le_of_ble_eq_true rfl) rfl ?_
  refine aw_iconst (v := 0) dX9_isEven_0 (by decide) ?_
  refine aw_istore_n dX9_isEven_1 rfl (by decide) rfl ?_
  refine aw_iconst (v := 0) dX9_isEven_2 (by decide) ?_
  refine aw_istore_n dX9_isEven_3 rfl (by decide) rfl ?_
  exact lp_X9_isEven I F hc hI5 hs c 0 0 (by omega) rfl
set_option maxRecDepth 100000 in
set_option maxHeartbeats 4000000 in
theorem lp_X9_mg1 {l : Launch} {D : va_G} {tc : Nat → ClassId} (I F : Nat → Nat → Int32) {c : Nat} (hc : c ≤ 6) (hI5 : I 0 5 = nI c) (g0 g : Nat → Int32) {W s : Nat} (hW : W < 64) (hs : s < 64) (hs0 : 0 < s) (K : ∀ w3 w4 w5 : Option Value, AW l D tc yX9_mostGroups.cls cX9_mostGroups 6 (some .int) { frames := 3, cells := 0, slots := 0, locals := 68 } 15 0 0 (fun v n1 h1 => n1 = 15 ∧ (v = some (.int (gmN (blM F c) c g0 W W)) ∧ ∃ g1, h1 = hM I (st_F F 11 g1))) 130 [some (.ref 0), some (.int (nI W)), some (.int (nI s)), w3, w4, w5] [] 15 (hM I (st_F F 11 (upd g s (inG (blM F c) c g s s)))) 0 0) : ∀ (m t : Nat) (v9 : Int32) (w4 w5 : Option Value), t + m = s → inG (blM F c) c g s t = v9 → AW l D tc yX9_mostGroups.cls cX9_mostGroups 6 (some .int) { frames := 3, cells := 0, slots := 0, locals := 68 } 15 0 0 (fun v n1 h1 => n1 = 15 ∧ (v = some (.int (gmN (blM F c) c g0 W W)) ∧ ∃ g1, h1 = hM I (st_F F 11 g1))) 17 [some (.ref 0), some (.int (nI W)), some (.int (nI s)), some (.int (nI (t + 1))), w4, w5] [] 15 (hM I (st_F F 11 (upd g s v9))) 0 0 := by
  intro m
  induction m using Nat.strongRecOn with
  | _ m ih =>
    intro t v9 w4 w5 hi hq
    refine aw_iload_n dX9_mostGroups_17 rfl rfl ?_
    refine aw_iload_n dX9_mostGroups_18 rfl rfl ?_
    refine aw_icmp_gt (tgt := 130) dX9_mostGroups_19 (by decide) (fun c_19 => ?_) (fun c_19 => ?_)
    · have hts : t = s := by
        have := lp_9 (by omega) (by omega) c_19
        omega
      rw [hts] at hq
      rw [← hq]
      exact K _ _ _
    · have ht : t + 1 ≤ s := le_9 (by omega) c_19
      refine aw_iload_n dX9_mostGroups_22 rfl rfl ?_
      refine aw_iload_n dX9_mostGroups_23 rfl rfl ?_
      refine aw_iconst (v := (-1)) dX9_mostGroups_24 (by decide) ?_
      refine aw_ixor dX9_mostGroups_25 ?_
      refine aw_iand dX9_mostGroups_26 ?_
      rw [nd_n (by omega) (by omega)]
      have hn1 := nd_lt (b := t + 1) (k := 6) (show s < 2 ^ 6 by omega)
      have hn2 := nd_lt (b := s) (k := 6) (show t + 1 < 2 ^ 6 by omega)
      refine aw_if_ne (tgt := 60) dX9_mostGroups_27 (by decide) (fun c_27 => ?_) (fun c_27 => ?_)
      · refine aw_iconst (v := 0) dX9_mostGroups_60 (by decide) ?_
        refine aw_istore dX9_mostGroups_61 (by decide) rfl ?_
        refine aw_iload dX9_mostGroups_63 rfl ?_
        refine aw_if_eq (tgt := 92) dX9_mostGroups_65 (by decide) (fun _ => ?_) (fun c9 => absurd rfl c9)
        refine aw_bipush (v := (-9)) dX9_mostGroups_92 (by decide) ?_
        refine aw_istore dX9_mostGroups_94 (by decide) rfl ?_
        refine aw_aload_n dX9_mostGroups_96 rfl rfl ?_
        refine aw_get fd_X9_40_9 dX9_mostGroups_97 (by decide) rfl rfl ?_
        refine aw_iload_n dX9_mostGroups_100 rfl rfl ?_
        refine aw_iload dX9_mostGroups_101 rfl ?_
        refine aw_aload_n dX9_mostGroups_103 rfl rfl ?_
        refine aw_get fd_X9_40_9 dX9_mostGroups_104 (by decide) rfl rfl ?_
        refine aw_iload_n dX9_mostGroups_107 rfl rfl ?_
        refine aw_iald dX9_mostGroups_108 (by decide) rfl (vp_in_nI (n := s) (by omega) (by decide)) ?_
        rw [nI_clamp (n := s) (by omega), show st_F F 11 (upd g s v9) 11 s = v9 from by rw [st_Fs]; exact if_pos rfl]
        refine aw_icmp_le (tgt := 117) dX9_mostGroups_109 (by decide) (fun c_109 => ?_) (fun c_109 => ?_)
        · refine aw_aload_n dX9_mostGroups_117 rfl rfl ?_
          refine aw_get fd_X9_40_9 dX9_mostGroups_118 (by decide) rfl rfl ?_
          refine aw_iload_n dX9_mostGroups_121 rfl rfl ?_
          refine aw_iald dX9_mostGroups_122 (by decide) rfl (vp_in_nI (n := s) (by omega) (by decide)) ?_
          (try rw [nI_clamp (n := s) (by omega), show st_F F 11 (upd g s v9) 11 s = v9 from by rw [st_Fs]; exact if_pos rfl])
          refine aw_iasti dX9_mostGroups_123 (by decide) rfl (fun _ => rfl) (vp_in_nI (n := s) (by omega) (by decide)) ?_
          refine aw_iinc (v := 1) dX9_mostGroups_124 rfl (by decide) (by decide) rfl ?_
          refine aw_goto (tgt := 17) dX9_mostGroups_127 (by decide) ?_
          rw [nI_1, nI_clamp (n := s) (by omega), st_Fs, st_FF, upd_upd]
          exact ih (m - 1) (by omega) (t + 1) _ _ _ (by omega) (by
            rw [inG, hq]
            clear hq ih K hI5
            first
              | contradiction
              | (rw [show itG (blM F c) c g s (t + 1) = 1 + 0 from by rw [itG, if_pos (by simp [*]), if_pos c_71]])
              | (rw [show itG (blM F c) c g s (t + 1) = 1 + g (nd s (t + 1)) from by rw [itG, if_pos (by simp [*]), if_neg c_71]])
              | (rw [show itG (blM F c) c g s (t + 1) = -9 from by rw [itG, if_neg (by simp [*])]])
            all_goals first
              | rw [if_pos c_109]
              | rw [if_neg c_109])
        · refine aw_iload dX9_mostGroups_112 rfl ?_
          refine aw_goto (tgt := 123) dX9_mostGroups_114 (by decide) ?_
          (try rw [nI_clamp (n := s) (by omega), show st_F F 11 (upd g s v9) 11 s = v9 from by rw [st_Fs]; exact if_pos rfl])
          refine aw_iasti dX9_mostGroups_123 (by decide) rfl (fun _ => rfl) (vp_in_nI (n := s) (by omega) (by decide)) ?_
          refine aw_iinc (v := 1) dX9_mostGroups_124 rfl (by decide) (by decide) rfl ?_
          refine aw_goto (tgt := 17) dX9_mostGroups_127 (by decide) ?_
          rw [nI_1, nI_clamp (n := s) (by omega), st_Fs, st_FF, upd_upd]
          exact ih (m - 1) (by omega) (t + 1) _ _ _ (by omega) (by
            rw [inG, hq]
            clear hq ih K hI5
            first
              | contradiction
              | (rw [show itG (blM F c) c g s (t + 1) = 1 + 0 from by rw [itG, if_pos (by simp [*]), if_pos c_71]])
              | (rw [show itG (blM F c) c g s (t + 1) = 1 + g (nd s (t + 1)) from by rw [itG, if_pos (by simp [*]), if_neg c_71]])
              | (rw [show itG (blM F c) c g s (t + 1) = -9 from by rw [itG, if_neg (by simp [*])]])
            all_goals first
              | rw [if_pos c_109]
              | rw [if_neg c_109])
      · refine aw_aload_n dX9_mostGroups_30 rfl rfl ?_
        refine aw_iload_n dX9_mostGroups_31 rfl rfl ?_
        refine aw_callV cw_X9_isEven ml_X9_174 im_X9_isEven sl_X9_X9_isEven rfl (by decide) rfl (c_X9_isEven I (st_F F 11 (upd g s v9)) hc hI5 (s := t + 1) (by omega)) ⟨Nat.le_of_ble_eq_true rfl, Nat.le_of_ble_eq_true rfl⟩ ⟨Nat.zero_le _, Nat.zero_le _⟩ rfl rfl (Nat.le_of_ble_eq_true rfl) dX9_mostGroups_32 ?_
        rintro _ _ ⟨rfl, rfl⟩
        rw [show blM (st_F F 11 (upd g s v9)) c = blM F c from rfl]
        refine aw_ifB_eq (tgt := 60) dX9_mostGroups_35 (by decide) (fun c_35 => ?_) (fun c_35 => ?_)
        · refine aw_iconst (v := 0) dX9_mostGroups_60 (by decide) ?_
          refine aw_istore dX9_mostGroups_61 (by decide) rfl ?_
          refine aw_iload dX9_mostGroups_63 rfl ?_
          refine aw_if_eq (tgt := 92) dX9_mostGroups_65 (by decide) (fun _ => ?_) (fun c9 => absurd rfl c9)
          refine aw_bipush (v := (-9)) dX9_mostGroups_92 (by decide) ?_
          refine aw_istore dX9_mostGroups_94 (by decide) rfl ?_
          refine aw_aload_n dX9_mostGroups_96 rfl rfl ?_
          refine aw_get fd_X9_40_9 dX9_mostGroups_97 (by decide) rfl rfl ?_
          refine aw_iload_n dX9_mostGroups_100 rfl rfl ?_
          refine aw_iload dX9_mostGroups_101 rfl ?_
          refine aw_aload_n dX9_mostGroups_103 rfl rfl ?_
          refine aw_get fd_X9_40_9 dX9_mostGroups_104 (by decide) rfl rfl ?_
          refine aw_iload_n dX9_mostGroups_107 rfl rfl ?_
          refine aw_iald dX9_mostGroups_108 (by decide) rfl (vp_in_nI (n := s) (by omega) (by decide)) ?_
          rw [nI_clamp (n := s) (by omega), show st_F F 11 (upd g s v9) 11 s = v9 from by rw [st_Fs]; exact if_pos rfl]
          refine aw_icmp_le (tgt := 117) dX9_mostGroups_109 (by decide) (fun c_109 => ?_) (fun c_109 => ?_)
          · refine aw_aload_n dX9_mostGroups_117 rfl rfl ?_
            refine aw_get fd_X9_40_9 dX9_mostGroups_118 (by decide) rfl rfl ?_
            refine aw_iload_n dX9_mostGroups_121 rfl rfl ?_
            refine aw_iald dX9_mostGroups_122 (by decide) rfl (vp_in_nI (n := s) (by omega) (by decide)) ?_
            (try rw [nI_clamp (n := s) (by omega), show st_F F 11 (upd g s v9) 11 s = v9 from by rw [st_Fs]; exact if_pos rfl])
            refine aw_iasti dX9_mostGroups_123 (by decide) rfl (fun _ => rfl) (vp_in_nI (n := s) (by omega) (by decide)) ?_
            refine aw_iinc (v := 1) dX9_mostGroups_124 rfl (by decide) (by decide) rfl ?_
            refine aw_goto (tgt := 17) dX9_mostGroups_127 (by decide) ?_
            rw [nI_1, nI_clamp (n := s) (by omega), st_Fs, st_FF, upd_upd]
            exact ih (m - 1) (by omega) (t + 1) _ _ _ (by omega) (by
              rw [inG, hq]
              clear hq ih K hI5
              first
                | contradiction
                | (rw [show itG (blM F c) c g s (t + 1) = 1 + 0 from by rw [itG, if_pos (by simp [*]), if_pos c_71]])
                | (rw [show itG (blM F c) c g s (t + 1) = 1 + g (nd s (t + 1)) from by rw [itG, if_pos (by simp [*]), if_neg c_71]])
                | (rw [show itG (blM F c) c g s (t + 1) = -9 from by rw [itG, if_neg (by simp [*])]])
              all_goals first
                | rw [if_pos c_109]
                | rw [if_neg c_109])
          · refine aw_iload dX9_mostGroups_112 rfl ?_
            refine aw_goto (tgt := 123) dX9_mostGroups_114 (by decide) ?_
            (try rw [nI_clamp (n := s) (by omega), show st_F F 11 (upd g s v9) 11 s = v9 from by rw [st_Fs]; exact if_pos rfl])
            refine aw_iasti dX9_mostGroups_123 (by decide) rfl (fun _ => rfl) (vp_in_nI (n := s) (by omega) (by decide)) ?_
            refine aw_iinc (v := 1) dX9_mostGroups_124 rfl (by decide) (by decide) rfl ?_
            refine aw_goto (tgt := 17) dX9_mostGroups_127 (by decide) ?_
            rw [nI_1, nI_clamp (n := s) (by omega), st_Fs, st_FF, upd_upd]
            exact ih (m - 1) (by omega) (t + 1) _ _ _ (by omega) (by
              rw [inG, hq]
              clear hq ih K hI5
              first
                | contradiction
                | (rw [show itG (blM F c) c g s (t + 1) = 1 + 0 from by rw [itG, if_pos (by simp [*]), if_pos c_71]])
                | (rw [show itG (blM F c) c g s (t + 1) = 1 + g (nd s (t + 1)) from by rw [itG, if_pos (by simp [*]), if_neg c_71]])
                | (rw [show itG (blM F c) c g s (t + 1) = -9 from by rw [itG, if_neg (by simp [*])]])
              all_goals first
                | rw [if_pos c_109]
                | rw [if_neg c_109])
        · refine aw_iload_n dX9_mostGroups_38 rfl rfl ?_
          refine aw_iload_n dX9_mostGroups_39 rfl rfl ?_
          refine aw_icmp_eq (tgt := 56) dX9_mostGroups_40 (by decide) (fun c_40 => ?_) (fun c_40 => ?_)
          · refine aw_iconst (v := 1) dX9_mostGroups_56 (by decide) ?_
            refine aw_goto (tgt := 61) dX9_mostGroups_57 (by decide) ?_
            refine aw_istore dX9_mostGroups_61 (by decide) rfl ?_
            refine aw_iload dX9_mostGroups_63 rfl ?_
            refine aw_if_eq (tgt := 92) dX9_mostGroups_65 (by decide) (fun c9 => absurd c9 (by decide)) (fun _ => ?_)
            refine aw_iconst (v := 1) dX9_mostGroups_68 (by decide) ?_
            refine aw_iload_n dX9_mostGroups_69 rfl rfl ?_
            refine aw_iload_n dX9_mostGroups_70 rfl rfl ?_
            refine aw_icmp_ne (tgt := 78) dX9_mostGroups_71 (by decide) (fun c_71 => ?_) (fun c_71 => ?_)
            · refine aw_aload_n dX9_mostGroups_78 rfl rfl ?_
              refine aw_get fd_X9_40_9 dX9_mostGroups_79 (by decide) rfl rfl ?_
              refine aw_iload_n dX9_mostGroups_82 rfl rfl ?_
              refine aw_iload_n dX9_mostGroups_83 rfl rfl ?_
              refine aw_iconst (v := (-1)) dX9_mostGroups_84 (by decide) ?_
              refine aw_ixor dX9_mostGroups_85 ?_
              refine aw_iand dX9_mostGroups_86 ?_
              rw [nd_n (by omega) (by omega)]
              refine aw_iald dX9_mostGroups_87 (by decide) rfl (vp_in_nI (n := nd s (t + 1)) (by omega) (by decide)) ?_
              (try rw [nI_clamp (n := nd s (t + 1)) (by omega), show st_F F 11 (upd g s v9) 11 (nd s (t + 1)) = g (nd s (t + 1)) from by rw [st_Fs]; exact if_neg (nd_ne ((nI_00 (by omega)).mp c_27) (by omega))])
              refine aw_iadd dX9_mostGroups_88 ?_
              refine aw_goto (tgt := 94) dX9_mostGroups_89 (by decide) ?_
              refine aw_istore dX9_mostGroups_94 (by decide) rfl ?_
              refine aw_aload_n dX9_mostGroups_96 rfl rfl ?_
              refine aw_get fd_X9_40_9 dX9_mostGroups_97 (by decide) rfl rfl ?_
              refine aw_iload_n dX9_mostGroups_100 rfl rfl ?_
              refine aw_iload dX9_mostGroups_101 rfl ?_
              refine aw_aload_n dX9_mostGroups_103 rfl rfl ?_
              refine aw_get fd_X9_40_9 dX9_mostGroups_104 (by decide) rfl rfl ?_
              refine aw_iload_n dX9_mostGroups_107 rfl rfl ?_
              refine aw_iald dX9_mostGroups_108 (by decide) rfl (vp_in_nI (n := s) (by omega) (by decide)) ?_
              rw [nI_clamp (n := s) (by omega), show st_F F 11 (upd g s v9) 11 s = v9 from by rw [st_Fs]; exact if_pos rfl]
              refine aw_icmp_le (tgt := 117) dX9_mostGroups_109 (by decide) (fun c_109 => ?_) (fun c_109 => ?_)
              · refine aw_aload_n dX9_mostGroups_117 rfl rfl ?_
                refine aw_get fd_X9_40_9 dX9_mostGroups_118 (by decide) rfl rfl ?_
                refine aw_iload_n dX9_mostGroups_121 rfl rfl ?_
                refine aw_iald dX9_mostGroups_122 (by decide) rfl (vp_in_nI (n := s) (by omega) (by decide)) ?_
                (try rw [nI_clamp (n := s) (by omega), show st_F F 11 (upd g s v9) 11 s = v9 from by rw [st_Fs]; exact if_pos rfl])
                refine aw_iasti dX9_mostGroups_123 (by decide) rfl (fun _ => rfl) (vp_in_nI (n := s) (by omega) (by decide)) ?_
                refine aw_iinc (v := 1) dX9_mostGroups_124 rfl (by decide) (by decide) rfl ?_
                refine aw_goto (tgt := 17) dX9_mostGroups_127 (by decide) ?_
                rw [nI_1, nI_clamp (n := s) (by omega), st_Fs, st_FF, upd_upd]
                exact ih (m - 1) (by omega) (t + 1) _ _ _ (by omega) (by
                  rw [inG, hq]
                  clear hq ih K hI5
                  first
                    | contradiction
                    | (rw [show itG (blM F c) c g s (t + 1) = 1 + 0 from by rw [itG, if_pos (by simp [*]), if_pos c_71]])
                    | (rw [show itG (blM F c) c g s (t + 1) = 1 + g (nd s (t + 1)) from by rw [itG, if_pos (by simp [*]), if_neg c_71]])
                    | (rw [show itG (blM F c) c g s (t + 1) = -9 from by rw [itG, if_neg (by simp [*])]])
                  all_goals first
                    | rw [if_pos c_109]
                    | rw [if_neg c_109])
              · refine aw_iload dX9_mostGroups_112 rfl ?_
                refine aw_goto (tgt := 123) dX9_mostGroups_114 (by decide) ?_
                (try rw [nI_clamp (n := s) (by omega), show st_F F 11 (upd g s v9) 11 s = v9 from by rw [st_Fs]; exact if_pos rfl])
                refine aw_iasti dX9_mostGroups_123 (by decide) rfl (fun _ => rfl) (vp_in_nI (n := s) (by omega) (by decide)) ?_
                refine aw_iinc (v := 1) dX9_mostGroups_124 rfl (by decide) (by decide) rfl ?_
                refine aw_goto (tgt := 17) dX9_mostGroups_127 (by decide) ?_
                rw [nI_1, nI_clamp (n := s) (by omega), st_Fs, st_FF, upd_upd]
                exact ih (m - 1) (by omega) (t + 1) _ _ _ (by omega) (by
                  rw [inG, hq]
                  clear hq ih K hI5
                  first
                    | contradiction
                    | (rw [show itG (blM F c) c g s (t + 1) = 1 + 0 from by rw [itG, if_pos (by simp [*]), if_pos c_71]])
                    | (rw [show itG (blM F c) c g s (t + 1) = 1 + g (nd s (t + 1)) from by rw [itG, if_pos (by simp [*]), if_neg c_71]])
                    | (rw [show itG (blM F c) c g s (t + 1) = -9 from by rw [itG, if_neg (by simp [*])]])
                  all_goals first
                    | rw [if_pos c_109]
                    | rw [if_neg c_109])
            · refine aw_iconst (v := 0) dX9_mostGroups_74 (by decide) ?_
              refine aw_goto (tgt := 88) dX9_mostGroups_75 (by decide) ?_
              (try rw [nI_clamp (n := nd s (t + 1)) (by omega), show st_F F 11 (upd g s v9) 11 (nd s (t + 1)) = g (nd s (t + 1)) from by rw [st_Fs]; exact if_neg (nd_ne ((nI_00 (by omega)).mp c_27) (by omega))])
              refine aw_iadd dX9_mostGroups_88 ?_
              refine aw_goto (tgt := 94) dX9_mostGroups_89 (by decide) ?_
              refine aw_istore dX9_mostGroups_94 (by decide) rfl ?_
              refine aw_aload_n dX9_mostGroups_96 rfl rfl ?_
              refine aw_get fd_X9_40_9 dX9_mostGroups_97 (by decide) rfl rfl ?_
              refine aw_iload_n dX9_mostGroups_100 rfl rfl ?_
              refine aw_iload dX9_mostGroups_101 rfl ?_
              refine aw_aload_n dX9_mostGroups_103 rfl rfl ?_
              refine aw_get fd_X9_40_9 dX9_mostGroups_104 (by decide) rfl rfl ?_
              refine aw_iload_n dX9_mostGroups_107 rfl rfl ?_
              refine aw_iald dX9_mostGroups_108 (by decide) rfl (vp_in_nI (n := s) (by omega) (by decide)) ?_
              rw [nI_clamp (n := s) (by omega), show st_F F 11 (upd g s v9) 11 s = v9 from by rw [st_Fs]; exact if_pos rfl]
              refine aw_icmp_le (tgt := 117) dX9_mostGroups_109 (by decide) (fun c_109 => ?_) (fun c_109 => ?_)
              · refine aw_aload_n dX9_mostGroups_117 rfl rfl ?_
                refine aw_get fd_X9_40_9 dX9_mostGroups_118 (by decide) rfl rfl ?_
                refine aw_iload_n dX9_mostGroups_121 rfl rfl ?_
                refine aw_iald dX9_mostGroups_122 (by decide) rfl (vp_in_nI (n := s) (by omega) (by decide)) ?_
                (try rw [nI_clamp (n := s) (by omega), show st_F F 11 (upd g s v9) 11 s = v9 from by rw [st_Fs]; exact if_pos rfl])
                refine aw_iasti dX9_mostGroups_123 (by decide) rfl (fun _ => rfl) (vp_in_nI (n := s) (by omega) (by decide)) ?_
                refine aw_iinc (v := 1) dX9_mostGroups_124 rfl (by decide) (by decide) rfl ?_
                refine aw_goto (tgt := 17) dX9_mostGroups_127 (by decide) ?_
                rw [nI_1, nI_clamp (n := s) (by omega), st_Fs, st_FF, upd_upd]
                exact ih (m - 1) (by omega) (t + 1) _ _ _ (by omega) (by
                  rw [inG, hq]
                  clear hq ih K hI5
                  first
                    | contradiction
                    | (rw [show itG (blM F c) c g s (t + 1) = 1 + 0 from by rw [itG, if_pos (by simp [*]), if_pos c_71]])
                    | (rw [show itG (blM F c) c g s (t + 1) = 1 + g (nd s (t + 1)) from by rw [itG, if_pos (by simp [*]), if_neg c_71]])
                    | (rw [show itG (blM F c) c g s (t + 1) = -9 from by rw [itG, if_neg (by simp [*])]])
                  all_goals first
                    | rw [if_pos c_109]
                    | rw [if_neg c_109])
              · refine aw_iload dX9_mostGroups_112 rfl ?_
                refine aw_goto (tgt := 123) dX9_mostGroups_114 (by decide) ?_
                (try rw [nI_clamp (n := s) (by omega), show st_F F 11 (upd g s v9) 11 s = v9 from by rw [st_Fs]; exact if_pos rfl])
                refine aw_iasti dX9_mostGroups_123 (by decide) rfl (fun _ => rfl) (vp_in_nI (n := s) (by omega) (by decide)) ?_
                refine aw_iinc (v := 1) dX9_mostGroups_124 rfl (by decide) (by decide) rfl ?_
                refine aw_goto (tgt := 17) dX9_mostGroups_127 (by decide) ?_
                rw [nI_1, nI_clamp (n := s) (by omega), st_Fs, st_FF, upd_upd]
                exact ih (m - 1) (by omega) (t + 1) _ _ _ (by omega) (by
                  rw [inG, hq]
                  clear hq ih K hI5
                  first
                    | contradiction
                    | (rw [show itG (blM F c) c g s (t + 1) = 1 + 0 from by rw [itG, if_pos (by simp [*]), if_pos c_71]])
                    | (rw [show itG (blM F c) c g s (t + 1) = 1 + g (nd s (t + 1)) from by rw [itG, if_pos (by simp [*]), if_neg c_71]])
                    | (rw [show itG (blM F c) c g s (t + 1) = -9 from by rw [itG, if_neg (by simp [*])]])
                  all_goals first
                    | rw [if_pos c_109]
                    | rw [if_neg c_109])
          · refine aw_aload_n dX9_mostGroups_43 rfl rfl ?_
            refine aw_get fd_X9_40_9 dX9_mostGroups_44 (by decide) rfl rfl ?_
            refine aw_iload_n dX9_mostGroups_47 rfl rfl ?_
            refine aw_iload_n dX9_mostGroups_48 rfl rfl ?_
            refine aw_iconst (v := (-1)) dX9_mostGroups_49 (by decide) ?_
            refine aw_ixor dX9_mostGroups_50 ?_
            refine aw_iand dX9_mostGroups_51 ?_
            rw [nd_n (by omega) (by omega)]
            refine aw_iald dX9_mostGroups_52 (by decide) rfl (vp_in_nI (n := nd s (t + 1)) (by omega) (by decide)) ?_
            rw [nI_clamp (n := nd s (t + 1)) (by omega), show st_F F 11 (upd g s v9) 11 (nd s (t + 1)) = g (nd s (t + 1)) from by rw [st_Fs]; exact if_neg (nd_ne ((nI_00 (by omega)).mp c_27) (by omega))]
            refine aw_if_le (tgt := 60) dX9_mostGroups_53 (by decide) (fun c_53 => ?_) (fun c_53 => ?_)
            · refine aw_iconst (v := 0) dX9_mostGroups_60 (by decide) ?_
              refine aw_istore dX9_mostGroups_61 (by decide) rfl ?_
              refine aw_iload dX9_mostGroups_63 rfl ?_
              refine aw_if_eq (tgt := 92) dX9_mostGroups_65 (by decide) (fun _ => ?_) (fun c9 => absurd rfl c9)
              refine aw_bipush (v := (-9)) dX9_mostGroups_92 (by decide) ?_
              refine aw_istore dX9_mostGroups_94 (by decide) rfl ?_
              refine aw_aload_n dX9_mostGroups_96 rfl rfl ?_
              refine aw_get fd_X9_40_9 dX9_mostGroups_97 (by decide) rfl rfl ?_
              refine aw_iload_n dX9_mostGroups_100 rfl rfl ?_
              refine aw_iload dX9_mostGroups_101 rfl ?_
              refine aw_aload_n dX9_mostGroups_103 rfl rfl ?_
              refine aw_get fd_X9_40_9 dX9_mostGroups_104 (by decide) rfl rfl ?_
              refine aw_iload_n dX9_mostGroups_107 rfl rfl ?_
              refine aw_iald dX9_mostGroups_108 (by decide) rfl (vp_in_nI (n := s) (by omega) (by decide)) ?_
              rw [nI_clamp (n := s) (by omega), show st_F F 11 (upd g s v9) 11 s = v9 from by rw [st_Fs]; exact if_pos rfl]
              refine aw_icmp_le (tgt := 117) dX9_mostGroups_109 (by decide) (fun c_109 => ?_) (fun c_109 => ?_)
              · refine aw_aload_n dX9_mostGroups_117 rfl rfl ?_
                refine aw_get fd_X9_40_9 dX9_mostGroups_118 (by decide) rfl rfl ?_
                refine aw_iload_n dX9_mostGroups_121 rfl rfl ?_
                refine aw_iald dX9_mostGroups_122 (by decide) rfl (vp_in_nI (n := s) (by omega) (by decide)) ?_
                (try rw [nI_clamp (n := s) (by omega), show st_F F 11 (upd g s v9) 11 s = v9 from by rw [st_Fs]; exact if_pos rfl])
                refine aw_iasti dX9_mostGroups_123 (by decide) rfl (fun _ => rfl) (vp_in_nI (n := s) (by omega) (by decide)) ?_
                refine aw_iinc (v := 1) dX9_mostGroups_124 rfl (by decide) (by decide) rfl ?_
                refine aw_goto (tgt := 17) dX9_mostGroups_127 (by decide) ?_
                rw [nI_1, nI_clamp (n := s) (by omega), st_Fs, st_FF, upd_upd]
                exact ih (m - 1) (by omega) (t + 1) _ _ _ (by omega) (by
                  rw [inG, hq]
                  clear hq ih K hI5
                  first
                    | contradiction
                    | (rw [show itG (blM F c) c g s (t + 1) = 1 + 0 from by rw [itG, if_pos (by simp [*]), if_pos c_71]])
                    | (rw [show itG (blM F c) c g s (t + 1) = 1 + g (nd s (t + 1)) from by rw [itG, if_pos (by simp [*]), if_neg c_71]])
                    | (rw [show itG (blM F c) c g s (t + 1) = -9 from by rw [itG, if_neg (by simp [*])]])
                  all_goals first
                    | rw [if_pos c_109]
                    | rw [if_neg c_109])
              · refine aw_iload dX9_mostGroups_112 rfl ?_
                refine aw_goto (tgt := 123) dX9_mostGroups_114 (by decide) ?_
                (try rw [nI_clamp (n := s) (by omega), show st_F F 11 (upd g s v9) 11 s = v9 from by rw [st_Fs]; exact if_pos rfl])
                refine aw_iasti dX9_mostGroups_123 (by decide) rfl (fun _ => rfl) (vp_in_nI (n := s) (by omega) (by decide)) ?_
                refine aw_iinc (v := 1) dX9_mostGroups_124 rfl (by decide) (by decide) rfl ?_
                refine aw_goto (tgt := 17) dX9_mostGroups_127 (by decide) ?_
                rw [nI_1, nI_clamp (n := s) (by omega), st_Fs, st_FF, upd_upd]
                exact ih (m - 1) (by omega) (t + 1) _ _ _ (by omega) (by
                  rw [inG, hq]
                  clear hq ih K hI5
                  first
                    | contradiction
                    | (rw [show itG (blM F c) c g s (t + 1) = 1 + 0 from by rw [itG, if_pos (by simp [*]), if_pos c_71]])
                    | (rw [show itG (blM F c) c g s (t + 1) = 1 + g (nd s (t + 1)) from by rw [itG, if_pos (by simp [*]), if_neg c_71]])
                    | (rw [show itG (blM F c) c g s (t + 1) = -9 from by rw [itG, if_neg (by simp [*])]])
                  all_goals first
                    | rw [if_pos c_109]
                    | rw [if_neg c_109])
            · refine aw_iconst (v := 1) dX9_mostGroups_56 (by decide) ?_
              refine aw_goto (tgt := 61) dX9_mostGroups_57 (by decide) ?_
              refine aw_istore dX9_mostGroups_61 (by decide) rfl ?_
              refine aw_iload dX9_mostGroups_63 rfl ?_
              refine aw_if_eq (tgt := 92) dX9_mostGroups_65 (by decide) (fun c9 => absurd c9 (by decide)) (fun _ => ?_)
              refine aw_iconst (v := 1) dX9_mostGroups_68 (by decide) ?_
              refine aw_iload_n dX9_mostGroups_69 rfl rfl ?_
              refine aw_iload_n dX9_mostGroups_70 rfl rfl ?_
              refine aw_icmp_ne (tgt := 78) dX9_mostGroups_71 (by decide) (fun c_71 => ?_) (fun c_71 => ?_)
              · refine aw_aload_n dX9_mostGroups_78 rfl rfl ?_
                refine aw_get fd_X9_40_9 dX9_mostGroups_79 (by decide) rfl rfl ?_
                refine aw_iload_n dX9_mostGroups_82 rfl rfl ?_
                refine aw_iload_n dX9_mostGroups_83 rfl rfl ?_
                refine aw_iconst (v := (-1)) dX9_mostGroups_84 (by decide) ?_
                refine aw_ixor dX9_mostGroups_85 ?_
                refine aw_iand dX9_mostGroups_86 ?_
                rw [nd_n (by omega) (by omega)]
                refine aw_iald dX9_mostGroups_87 (by decide) rfl (vp_in_nI (n := nd s (t + 1)) (by omega) (by decide)) ?_
                (try rw [nI_clamp (n := nd s (t + 1)) (by omega), show st_F F 11 (upd g s v9) 11 (nd s (t + 1)) = g (nd s (t + 1)) from by rw [st_Fs]; exact if_neg (nd_ne ((nI_00 (by omega)).mp c_27) (by omega))])
                refine aw_iadd dX9_mostGroups_88 ?_
                refine aw_goto (tgt := 94) dX9_mostGroups_89 (by decide) ?_
                refine aw_istore dX9_mostGroups_94 (by decide) rfl ?_
                refine aw_aload_n dX9_mostGroups_96 rfl rfl ?_
                refine aw_get fd_X9_40_9 dX9_mostGroups_97 (by decide) rfl rfl ?_
                refine aw_iload_n dX9_mostGroups_100 rfl rfl ?_
                refine aw_iload dX9_mostGroups_101 rfl ?_
                refine aw_aload_n dX9_mostGroups_103 rfl rfl ?_
                refine aw_get fd_X9_40_9 dX9_mostGroups_104 (by decide) rfl rfl ?_
                refine aw_iload_n dX9_mostGroups_107 rfl rfl ?_
                refine aw_iald dX9_mostGroups_108 (by decide) rfl (vp_in_nI (n := s) (by omega) (by decide)) ?_
                rw [nI_clamp (n := s) (by omega), show st_F F 11 (upd g s v9) 11 s = v9 from by rw [st_Fs]; exact if_pos rfl]
                refine aw_icmp_le (tgt := 117) dX9_mostGroups_109 (by decide) (fun c_109 => ?_) (fun c_109 => ?_)
                · refine aw_aload_n dX9_mostGroups_117 rfl rfl ?_
                  refine aw_get fd_X9_40_9 dX9_mostGroups_118 (by decide) rfl rfl ?_
                  refine aw_iload_n dX9_mostGroups_121 rfl rfl ?_
                  refine aw_iald dX9_mostGroups_122 (by decide) rfl (vp_in_nI (n := s) (by omega) (by decide)) ?_
                  (try rw [nI_clamp (n := s) (by omega), show st_F F 11 (upd g s v9) 11 s = v9 from by rw [st_Fs]; exact if_pos rfl])
                  refine aw_iasti dX9_mostGroups_123 (by decide) rfl (fun _ => rfl) (vp_in_nI (n := s) (by omega) (by decide)) ?_
                  refine aw_iinc (v := 1) dX9_mostGroups_124 rfl (by decide) (by decide) rfl ?_
                  refine aw_goto (tgt := 17) dX9_mostGroups_127 (by decide) ?_
                  rw [nI_1, nI_clamp (n := s) (by omega), st_Fs, st_FF, upd_upd]
                  exact ih (m - 1) (by omega) (t + 1) _ _ _ (by omega) (by
                    rw [inG, hq]
                    clear hq ih K hI5
                    first
                      | contradiction
                      | (rw [show itG (blM F c) c g s (t + 1) = 1 + 0 from by rw [itG, if_pos (by simp [*]), if_pos c_71]])
                      | (rw [show itG (blM F c) c g s (t + 1) = 1 + g (nd s (t + 1)) from by rw [itG, if_pos (by simp [*]), if_neg c_71]])
                      | (rw [show itG (blM F c) c g s (t + 1) = -9 from by rw [itG, if_neg (by simp [*])]])
                    all_goals first
                      | rw [if_pos c_109]
                      | rw [if_neg c_109])
                · refine aw_iload dX9_mostGroups_112 rfl ?_
                  refine aw_goto (tgt := 123) dX9_mostGroups_114 (by decide) ?_
                  (try rw [nI_clamp (n := s) (by omega), show st_F F 11 (upd g s v9) 11 s = v9 from by rw [st_Fs]; exact if_pos rfl])
                  refine aw_iasti dX9_mostGroups_123 (by decide) rfl (fun _ => rfl) (vp_in_nI (n := s) (by omega) (by decide)) ?_
                  refine aw_iinc (v := 1) dX9_mostGroups_124 rfl (by decide) (by decide) rfl ?_
                  refine aw_goto (tgt := 17) dX9_mostGroups_127 (by decide) ?_
                  rw [nI_1, nI_clamp (n := s) (by omega), st_Fs, st_FF, upd_upd]
                  exact ih (m - 1) (by omega) (t + 1) _ _ _ (by omega) (by
                    rw [inG, hq]
                    clear hq ih K hI5
                    first
                      | contradiction
                      | (rw [show itG (blM F c) c g s (t + 1) = 1 + 0 from by rw [itG, if_pos (by simp [*]), if_pos c_71]])
                      | (rw [show itG (blM F c) c g s (t + 1) = 1 + g (nd s (t + 1)) from by rw [itG, if_pos (by simp [*]), if_neg c_71]])
                      | (rw [show itG (blM F c) c g s (t + 1) = -9 from by rw [itG, if_neg (by simp [*])]])
                    all_goals first
                      | rw [if_pos c_109]
                      | rw [if_neg c_109])
              · refine aw_iconst (v := 0) dX9_mostGroups_74 (by decide) ?_
                refine aw_goto (tgt := 88) dX9_mostGroups_75 (by decide) ?_
                (try rw [nI_clamp (n := nd s (t + 1)) (by omega), show st_F F 11 (upd g s v9) 11 (nd s (t + 1)) = g (nd s (t + 1)) from by rw [st_Fs]; exact if_neg (nd_ne ((nI_00 (by omega)).mp c_27) (by omega))])
                refine aw_iadd dX9_mostGroups_88 ?_
                refine aw_goto (tgt := 94) dX9_mostGroups_89 (by decide) ?_
                refine aw_istore dX9_mostGroups_94 (by decide) rfl ?_
                refine aw_aload_n dX9_mostGroups_96 rfl rfl ?_
                refine aw_get fd_X9_40_9 dX9_mostGroups_97 (by decide) rfl rfl ?_
                refine aw_iload_n dX9_mostGroups_100 rfl rfl ?_
                refine aw_iload dX9_mostGroups_101 rfl ?_
                refine aw_aload_n dX9_mostGroups_103 rfl rfl ?_
                refine aw_get fd_X9_40_9 dX9_mostGroups_104 (by decide) rfl rfl ?_
                refine aw_iload_n dX9_mostGroups_107 rfl rfl ?_
                refine aw_iald dX9_mostGroups_108 (by decide) rfl (vp_in_nI (n := s) (by omega) (by decide)) ?_
                rw [nI_clamp (n := s) (by omega), show st_F F 11 (upd g s v9) 11 s = v9 from by rw [st_Fs]; exact if_pos rfl]
                refine aw_icmp_le (tgt := 117) dX9_mostGroups_109 (by decide) (fun c_109 => ?_) (fun c_109 => ?_)
                · refine aw_aload_n dX9_mostGroups_117 rfl rfl ?_
                  refine aw_get fd_X9_40_9 dX9_mostGroups_118 (by decide) rfl rfl ?_
                  refine aw_iload_n dX9_mostGroups_121 rfl rfl ?_
                  refine aw_iald dX9_mostGroups_122 (by decide) rfl (vp_in_nI (n := s) (by omega) (by decide)) ?_
                  (try rw [nI_clamp (n := s) (by omega), show st_F F 11 (upd g s v9) 11 s = v9 from by rw [st_Fs]; exact if_pos rfl])
                  refine aw_iasti dX9_mostGroups_123 (by decide) rfl (fun _ => rfl) (vp_in_nI (n := s) (by omega) (by decide)) ?_
                  refine aw_iinc (v := 1) dX9_mostGroups_124 rfl (by decide) (by decide) rfl ?_
                  refine aw_goto (tgt := 17) dX9_mostGroups_127 (by decide) ?_
                  rw [nI_1, nI_clamp (n := s) (by omega), st_Fs, st_FF, upd_upd]
                  exact ih (m - 1) (by omega) (t + 1) _ _ _ (by omega) (by
                    rw [inG, hq]
                    clear hq ih K hI5
                    first
                      | contradiction
                      | (rw [show itG (blM F c) c g s (t + 1) = 1 + 0 from by rw [itG, if_pos (by simp [*]), if_pos c_71]])
                      | (rw [show itG (blM F c) c g s (t + 1) = 1 + g (nd s (t + 1)) from by rw [itG, if_pos (by simp [*]), if_neg c_71]])
                      | (rw [show itG (blM F c) c g s (t + 1) = -9 from by rw [itG, if_neg (by simp [*])]])
                    all_goals first
                      | rw [if_pos c_109]
                      | rw [if_neg c_109])
                · refine aw_iload dX9_mostGroups_112 rfl ?_
                  refine aw_goto (tgt := 123) dX9_mostGroups_114 (by decide) ?_
                  (try rw [nI_clamp (n := s) (by omega), show st_F F 11 (upd g s v9) 11 s = v9 from by rw [st_Fs]; exact if_pos rfl])
                  refine aw_iasti dX9_mostGroups_123 (by decide) rfl (fun _ => rfl) (vp_in_nI (n := s) (by omega) (by decide)) ?_
                  refine aw_iinc (v := 1) dX9_mostGroups_124 rfl (by decide) (by decide) rfl ?_
                  refine aw_goto (tgt := 17) dX9_mostGroups_127 (by decide) ?_
                  rw [nI_1, nI_clamp (n := s) (by omega), st_Fs, st_FF, upd_upd]
                  exact ih (m - 1) (by omega) (t + 1) _ _ _ (by omega) (by
                    rw [inG, hq]
                    clear hq ih K hI5
                    first
                      | contradiction
                      | (rw [show itG (blM F c) c g s (t + 1) = 1 + 0 from by rw [itG, if_pos (by simp [*]), if_pos c_71]])
                      | (rw [show itG (blM F c) c g s (t + 1) = 1 + g (nd s (t + 1)) from by rw [itG, if_pos (by simp [*]), if_neg c_71]])
                      | (rw [show itG (blM F c) c g s (t + 1) = -9 from by rw [itG, if_neg (by simp [*])]])
                    all_goals first
                      | rw [if_pos c_109]
                      | rw [if_neg c_109])
set_option maxRecDepth 100000 in
set_option maxHeartbeats 4000000 in
theorem lp_X9_mg {l : Launch} {D : va_G} {tc : Nat → ClassId} (I F : Nat → Nat → Int32) {c : Nat} (hc : c ≤ 6) (hI5 : I 0 5 = nI c) (g0 : Nat → Int32) {W : Nat} (hW : W < 64) : ∀ (m s : Nat) (w3 w4 w5 : Option Value), s + m = W → AW l D tc yX9_mostGroups.cls cX9_mostGroups 6 (some .int) { frames := 3, cells := 0, slots := 0, locals := 68 } 15 0 0 (fun v n1 h1 => n1 = 15 ∧ (v = some (.int (gmN (blM F c) c g0 W W)) ∧ ∃ g1, h1 = hM I (st_F F 11 g1))) 2 [some (.ref 0), some (.int (nI W)), some (.int (nI (s + 1))), w3, w4, w5] [] 15 (hM I (st_F F 11 (gmN (blM F c) c g0 s))) 0 0 := by
  intro m
  induction m using Nat.strongRecOn with
  | _ m ih =>
    intro s w3 w4 w5 hi
    refine aw_iload_n dX9_mostGroups_2 rfl rfl ?_
    refine aw_iload_n dX9_mostGroups_3 rfl rfl ?_
    refine aw_icmp_gt (tgt := 136) dX9_mostGroups_4 (by decide) (fun c_4 => ?_) (fun c_4 => ?_)
    · have hs : s = W := by
        have := lp_9 (by omega) (by omega) c_4
        omega
      subst hs
      refine aw_aload_n dX9_mostGroups_136 rfl rfl ?_
      refine aw_get fd_X9_40_9 dX9_mostGroups_137 (by decide) rfl rfl ?_
      refine aw_iload_n dX9_mostGroups_140 rfl rfl ?_
      refine aw_iald dX9_mostGroups_141 (by decide) rfl (vp_in_nI hW (by decide)) ?_
      refine aw_iret dX9_mostGroups_142 (Nat.zero_le _) (Nat.zero_le _) ?_
      refine ⟨rfl, ?_, _, rfl⟩
      rw [nI_clamp (by omega), st_Fs]
    · have hs : s + 1 ≤ W := le_9 (by omega) c_4
      refine aw_aload_n dX9_mostGroups_7 rfl rfl ?_
      refine aw_get fd_X9_40_9 dX9_mostGroups_8 (by decide) rfl rfl ?_
      refine aw_iload_n dX9_mostGroups_11 rfl rfl ?_
      refine aw_bipush (v := (-9)) dX9_mostGroups_12 (by decide) ?_
      refine aw_iastI dX9_mostGroups_14 (by decide) rfl (fun _ => rfl) (vp_in_nI (n := s + 1) (by omega) (by decide)) (show _ = st_F F 11 (upd (gmN (blM F c) c g0 s) (s + 1) (-9)) from by rw [nI_clamp (n := s + 1) (by omega)]; show st_F (st_F F 11 (gmN (blM F c) c g0 s)) 11 (upd (st_F F 11 (gmN (blM F c) c g0 s) 11) (s + 1) (-9)) = _; rw [st_Fs, st_FF]) ?_
      refine aw_iconst (v := 1) dX9_mostGroups_15 (by decide) ?_
      refine aw_istore_n dX9_mostGroups_16 rfl (by decide) rfl ?_
      refine lp_X9_mg1 I F hc hI5 g0 (gmN (blM F c) c g0 s) hW (by omega) (by omega) (fun w3 w4 w5 => ?_) (s + 1) 0 (-9) _ _ (by omega) rfl
      refine aw_iinc (v := 1) dX9_mostGroups_130 rfl (by decide) (by decide) rfl ?_
      refine aw_goto (tgt := 2) dX9_mostGroups_133 (by decide) ?_
      rw [nI_1]
      exact ih (m - 1) (by omega) (s + 1) _ _ _ (by omega)
set_option maxRecDepth 100000 in
set_option maxHeartbeats 4000000 in
theorem c_X9_mostGroups {l : Launch} {D : va_G} {tc : Nat → ClassId} (I F : Nat → Nat → Int32) {c : Nat} (hc : c ≤ 6) (hI5 : I 0 5 = nI c) {W : Nat} (hW : W < 64) : AM l D tc yX9_mostGroups cX9_mostGroups 6 (some .int) 3 68 0 0 [.ref 0, .int (nI W)] 15 (hM I F) (fun v n1 h1 => n1 = 15 ∧ (v = some (.int (gmN (blM F c) c (F 11) W W)) ∧ ∃ g1, h1 = hM I (st_F F 11 g1))) := by
  refine am_of (L := [some (.ref 0), some (.int (nI W)), none, none, none, none]) (by decide +kernel) (Nat.le_of_ble_eq_true rfl) rfl ?_
  refine aw_iconst (v := 1) dX9_mostGroups_0 (by decide) ?_
  refine aw_istore_n dX9_mostGroups_1 rfl (by decide) rfl ?_
  have hl := lp_X9_mg (l := l) (D := D) (tc := tc) I F hc hI5 (F 11) hW W 0 none none none (by omega)
  rw [show st_F F 11 (gmN (blM F c) c (F 11) 0) = F from st_F0 F 11] at hl
  exact hl
set_option maxRecDepth 100000 in
set_option maxHeartbeats 4000000 in
theorem lp_X9_cleared {l : Launch} {D : va_G} {tc : Nat → ClassId} (I F : Nat → Nat → Int32) {c : Nat} (hc : c ≤ 6) (hI5 : I 0 5 = nI c) (w : Int32) : ∀ (m i : Nat) (a : Int32) (u : Nat), i + m = c → sumN (fun p => if blM F c p ≤ 0 then 0 else blM F c p) i = a → unN (blM F c) i = u → AW l D tc yX9_cleared.cls cX9_cleared 5 (some .int) { frames := 4, cells := 0, slots := 0, locals := 93 } 15 0 0 (fun v n1 h1 => n1 = 15 ∧ (∃ I1 F1, h1 = hM I1 F1 ∧ SM I F I1 F1 ∧ v = some (.int (if w = 0 ∨ (unN (blM F c) c) = 0 then sumN (fun p => if blM F c p ≤ 0 then 0 else blM F c p) c else nI (szN 6 (unN (blM F c) c)) - gmN (blM F c) c (F 11) (unN (blM F c) c) (unN (blM F c) c))))) 29 [some (.ref 0), some (.int w), some (.int a), some (.int (nI u)), some (.int (nI i))] [] 15 (hM I F) 0 0 := by
  intro m
  induction m using Nat.strongRecOn with
  | _ m ih =>
    intro i a u hi hq hu
    refine aw_iload dX9_cleared_29 rfl ?_
    refine aw_aload_n dX9_cleared_31 rfl rfl ?_
    refine aw_get fd_X9_62_9 dX9_cleared_32 (by decide) rfl rfl ?_
    refine aw_icmp_ge (tgt := 86) dX9_cleared_35 (by decide) (fun c_35 => ?_) (fun c_35 => ?_)
    · have hi6 : i = c := lp_ge (by omega) (by omega) (by rw [← hI5]; exact c_35)
      subst hi6
      have hlt := unN_lt (blM F i) i
      have hl6 : 2 ^ i ≤ 2 ^ 6 := Nat.pow_le_pow_right (by decide) (by omega)
      rw [hu] at hlt ⊢
      rw [hq]
      refine aw_iload_n dX9_cleared_86 rfl rfl ?_
      refine aw_if_eq (tgt := 94) dX9_cleared_87 (by decide) (fun c_87 => ?_) (fun c_87 => ?_)
      · refine aw_iload_n dX9_cleared_94 rfl rfl ?_
        refine aw_iret dX9_cleared_95 (Nat.zero_le _) (Nat.zero_le _) ?_
        refine ⟨rfl, _, _, rfl, SM_refl I F, ?_⟩
        rw [if_pos (by first | exact Or.inl c_87 | exact Or.inr ((nI_00 (by omega)).mp c_91))]
      · refine aw_iload_n dX9_cleared_90 rfl rfl ?_
        refine aw_if_ne (tgt := 96) dX9_cleared_91 (by decide) (fun c_91 => ?_) (fun c_91 => ?_)
        · refine aw_iload_n dX9_cleared_96 rfl rfl ?_
          refine aw_callS cw_X9_size ml_X9_148 sm_X9_size (c_X9_size (m := u) (by omega) _ _) ⟨Nat.le_of_ble_eq_true rfl, Nat.le_of_ble_eq_true rfl⟩ ⟨Nat.zero_le _, Nat.zero_le _⟩ rfl rfl (Nat.le_of_ble_eq_true rfl) dX9_cleared_97 ?_
          rintro _ _ ⟨rfl, rfl⟩
          refine aw_aload_n dX9_cleared_100 rfl rfl ?_
          refine aw_iload_n dX9_cleared_101 rfl rfl ?_
          refine aw_callV cw_X9_mostGroups ml_X9_177 im_X9_mostGroups sl_X9_X9_mostGroups rfl (by decide) rfl (c_X9_mostGroups I F hc hI5 (W := u) (by omega)) ⟨Nat.le_of_ble_eq_true rfl, Nat.le_of_ble_eq_true rfl⟩ ⟨Nat.zero_le _, Nat.zero_le _⟩ rfl rfl (Nat.le_of_ble_eq_true rfl) dX9_cleared_102 ?_
          rintro _ _ ⟨rfl, g1, rfl⟩
          refine aw_isub dX9_cleared_105 ?_
          refine aw_iret dX9_cleared_106 (Nat.zero_le _) (Nat.zero_le _) ?_
          refine ⟨rfl, _, _, rfl, ⟨fun _ _ _ _ _ _ _ _ => rfl, fun a _ _ _ h9 => st_Fn h9⟩, ?_⟩
          rw [if_neg (fun q9 => by
            rcases q9 with q9 | q9
            · exact c_87 q9
            · exact c_91 ((nI_00 (by omega)).mpr q9))]
        · refine aw_iload_n dX9_cleared_94 rfl rfl ?_
          refine aw_iret dX9_cleared_95 (Nat.zero_le _) (Nat.zero_le _) ?_
          refine ⟨rfl, _, _, rfl, SM_refl I F, ?_⟩
          rw [if_pos (by first | exact Or.inl c_87 | exact Or.inr ((nI_00 (by omega)).mp c_91))]
    · have hi6 : i < c := lp_lt (N := c) (by omega) (by rw [← hI5]; exact c_35)
      refine aw_iload_n dX9_cleared_38 rfl rfl ?_
      refine aw_aload_n dX9_cleared_39 rfl rfl ?_
      refine aw_iload dX9_cleared_40 rfl ?_
      refine aw_callV cw_X9_balanceOf ml_X9_171 im_X9_balanceOf sl_X9_X9_balanceOf rfl (by decide) rfl (c_X9_balanceOf _ _ hc hI5 (p := i) (by omega)) ⟨Nat.le_of_ble_eq_true rfl, Nat.le_of_ble_eq_true rfl⟩ ⟨Nat.zero_le _, Nat.zero_le _⟩ rfl rfl (Nat.le_of_ble_eq_true rfl) dX9_cleared_42 ?_
      rintro _ _ ⟨rfl, rfl⟩
      refine aw_if_le (tgt := 57) dX9_cleared_45 (by decide) (fun c_45 => ?_) (fun c_45 => ?_)
      · refine aw_iconst (v := 0) dX9_cleared_57 (by decide) ?_
        refine aw_iadd dX9_cleared_58 ?_
        refine aw_istore_n dX9_cleared_59 rfl (by decide) rfl ?_
        refine aw_iload_n dX9_cleared_60 rfl rfl ?_
        refine aw_aload_n dX9_cleared_61 rfl rfl ?_
        refine aw_iload dX9_cleared_62 rfl ?_
        refine aw_callV cw_X9_balanceOf ml_X9_171 im_X9_balanceOf sl_X9_X9_balanceOf rfl (by decide) rfl (c_X9_balanceOf _ _ hc hI5 (p := i) (by omega)) ⟨Nat.le_of_ble_eq_true rfl, Nat.le_of_ble_eq_true rfl⟩ ⟨Nat.zero_le _, Nat.zero_le _⟩ rfl rfl (Nat.le_of_ble_eq_true rfl) dX9_cleared_64 ?_
        rintro _ _ ⟨rfl, rfl⟩
        refine aw_if_ne (tgt := 74) dX9_cleared_67 (by decide) (fun c_67 => ?_) (fun c_67 => ?_)
        · refine aw_iconst (v := 1) dX9_cleared_74 (by decide) ?_
          refine aw_iload dX9_cleared_75 rfl ?_
          refine aw_ishl dX9_cleared_77 ?_
          refine aw_ior dX9_cleared_78 ?_
          refine aw_istore_n dX9_cleared_79 rfl (by decide) rfl ?_
          refine aw_iinc (v := 1) dX9_cleared_80 rfl (by decide) (by decide) rfl ?_
          refine aw_goto (tgt := 29) dX9_cleared_83 (by decide) ?_
          have hlt := unN_lt (blM F c) i
          have hl6 : 2 ^ i ≤ 2 ^ 6 := Nat.pow_le_pow_right (by decide) (by omega)
          (try rw [show (1 : Int32) <<< (nI i &&& 31) = nI (2 ^ i) from bit_n (by omega)])
          (try rw [or_n (by omega) (by omega)])
          (try rw [Int32.or_zero])
          rw [nI_1]
          exact ih (m - 1) (by omega) (i + 1) _ _ (by omega) (by
            rw [sumN, hq]
            congr 1
            first | (rw [if_pos c_45]) | (rw [if_neg c_45])) (by
            rw [unN, hu]
            first | (rw [if_neg c_67]) | (rw [if_pos c_67, Nat.or_zero]))
        · refine aw_iconst (v := 0) dX9_cleared_70 (by decide) ?_
          refine aw_goto (tgt := 78) dX9_cleared_71 (by decide) ?_
          refine aw_ior dX9_cleared_78 ?_
          refine aw_istore_n dX9_cleared_79 rfl (by decide) rfl ?_
          refine aw_iinc (v := 1) dX9_cleared_80 rfl (by decide) (by decide) rfl ?_
          refine aw_goto (tgt := 29) dX9_cleared_83 (by decide) ?_
          have hlt := unN_lt (blM F c) i
          have hl6 : 2 ^ i ≤ 2 ^ 6 := Nat.pow_le_pow_right (by decide) (by omega)
          (try rw [show (1 : Int32) <<< (nI i &&& 31) = nI (2 ^ i) from bit_n (by omega)])
          (try rw [or_n (by omega) (by omega)])
          (try rw [Int32.or_zero])
          rw [nI_1]
          exact ih (m - 1) (by omega) (i + 1) _ _ (by omega) (by
            rw [sumN, hq]
            congr 1
            first | (rw [if_pos c_45]) | (rw [if_neg c_45])) (by
            rw [unN, hu]
            first | (rw [if_neg c_67]) | (rw [if_pos c_67, Nat.or_zero]))
      · refine aw_aload_n dX9_cleared_48 rfl rfl ?_
        refine aw_iload dX9_cleared_49 rfl ?_
        refine aw_callV cw_X9_balanceOf ml_X9_171 im_X9_balanceOf sl_X9_X9_balanceOf rfl (by decide) rfl (c_X9_balanceOf _ _ hc hI5 (p := i) (by omega)) ⟨Nat.le_of_ble_eq_true rfl, Nat.le_of_ble_eq_true rfl⟩ ⟨Nat.zero_le _, Nat.zero_le _⟩ rfl rfl (Nat.le_of_ble_eq_true rfl) dX9_cleared_51 ?_
        rintro _ _ ⟨rfl, rfl⟩
        refine aw_goto (tgt := 58) dX9_cleared_54 (by decide) ?_
        refine aw_iadd dX9_cleared_58 ?_
        refine aw_istore_n dX9_cleared_59 rfl (by decide) rfl ?_
        refine aw_iload_n dX9_cleared_60 rfl rfl ?_
        refine aw_aload_n dX9_cleared_61 rfl rfl ?_
        refine aw_iload dX9_cleared_62 rfl ?_
        refine aw_callV cw_X9_balanceOf ml_X9_171 im_X9_balanceOf sl_X9_X9_balanceOf rfl (by decide) rfl (c_X9_balanceOf _ _ hc hI5 (p := i) (by omega)) ⟨Nat.le_of_ble_eq_true rfl, Nat.le_of_ble_eq_true rfl⟩ ⟨Nat.zero_le _, Nat.zero_le _⟩ rfl rfl (Nat.le_of_ble_eq_true rfl) dX9_cleared_64 ?_
        rintro _ _ ⟨rfl, rfl⟩
        refine aw_if_ne (tgt := 74) dX9_cleared_67 (by decide) (fun c_67 => ?_) (fun c_67 => ?_)
        · refine aw_iconst (v := 1) dX9_cleared_74 (by decide) ?_
          refine aw_iload dX9_cleared_75 rfl ?_
          refine aw_ishl dX9_cleared_77 ?_
          refine aw_ior dX9_cleared_78 ?_
          refine aw_istore_n dX9_cleared_79 rfl (by decide) rfl ?_
          refine aw_iinc (v := 1) dX9_cleared_80 rfl (by decide) (by decide) rfl ?_
          refine aw_goto (tgt := 29) dX9_cleared_83 (by decide) ?_
          have hlt := unN_lt (blM F c) i
          have hl6 : 2 ^ i ≤ 2 ^ 6 := Nat.pow_le_pow_right (by decide) (by omega)
          (try rw [show (1 : Int32) <<< (nI i &&& 31) = nI (2 ^ i) from bit_n (by omega)])
          (try rw [or_n (by omega) (by omega)])
          (try rw [Int32.or_zero])
          rw [nI_1]
          exact ih (m - 1) (by omega) (i + 1) _ _ (by omega) (by
            rw [sumN, hq]
            congr 1
            first | (rw [if_pos c_45]) | (rw [if_neg c_45])) (by
            rw [unN, hu]
            first | (rw [if_neg c_67]) | (rw [if_pos c_67, Nat.or_zero]))
        · refine aw_iconst (v := 0) dX9_cleared_70 (by decide) ?_
          refine aw_goto (tgt := 78) dX9_cleared_71 (by decide) ?_
          refine aw_ior dX9_cleared_78 ?_
          refine aw_istore_n dX9_cleared_79 rfl (by decide) rfl ?_
          refine aw_iinc (v := 1) dX9_cleared_80 rfl (by decide) (by decide) rfl ?_
          refine aw_goto (tgt := 29) dX9_cleared_83 (by decide) ?_
          have hlt := unN_lt (blM F c) i
          have hl6 : 2 ^ i ≤ 2 ^ 6 := Nat.pow_le_pow_right (by decide) (by omega)
          (try rw [show (1 : Int32) <<< (nI i &&& 31) = nI (2 ^ i) from bit_n (by omega)])
          (try rw [or_n (by omega) (by omega)])
          (try rw [Int32.or_zero])
          rw [nI_1]
          exact ih (m - 1) (by omega) (i + 1) _ _ (by omega) (by
            rw [sumN, hq]
            congr 1
            first | (rw [if_pos c_45]) | (rw [if_neg c_45])) (by
            rw [unN, hu]
            first | (rw [if_neg c_67]) | (rw [if_pos c_67, Nat.or_zero]))
set_option maxRecDepth 100000 in
set_option maxHeartbeats 4000000 in
theorem c_X9_cleared {l : Launch} {D : va_G} {tc : Nat → ClassId} (I F : Nat → Nat → Int32) {c : Nat} (hc : c ≤ 6) (hI5 : I 0 5 = nI c) (w : Int32) : AM l D tc yX9_cleared cX9_cleared 5 (some .int) 4 93 0 0 [.ref 0, .int w] 15 (hM I F) (fun v n1 h1 => n1 = 15 ∧ (∃ I1 F1, h1 = hM I1 F1 ∧ SM I F I1 F1 ∧ v = some (.int (if sW w 0 1 then (if I 0 5 = 0 then -3 else if w = 0 ∨ (unN (blM F c) c) = 0 then sumN (fun p => if blM F c p ≤ 0 then 0 else blM F c p) c else nI (szN 6 (unN (blM F c) c)) - gmN (blM F c) c (F 11) (unN (blM F c) c) (unN (blM F c) c)) else -2)))) := by
  refine am_of (L := [some (.ref 0), some (.int w), none, none, none]) (by decide +kernel) (Nat.le_of_ble_eq_true rfl) rfl ?_
  refine aw_iload_n dX9_cleared_0 rfl rfl ?_
  refine aw_iconst (v := 0) dX9_cleared_1 (by decide) ?_
  refine aw_iconst (v := 1) dX9_cleared_2 (by decide) ?_
  refine aw_callS cw_X9_within ml_X9_58 sm_X9_within (c_X9_within _ _ _ _ _) ⟨Nat.le_of_ble_eq_true rfl, Nat.le_of_ble_eq_true rfl⟩ ⟨Nat.zero_le _, Nat.zero_le _⟩ rfl rfl (Nat.le_of_ble_eq_true rfl) dX9_cleared_3 ?_
  rintro _ _ ⟨rfl, rfl⟩
  refine aw_ifB_ne (tgt := 12) dX9_cleared_6 (by decide) (fun c_6 => ?_) (fun c_6 => ?_)
  · refine aw_aload_n dX9_cleared_12 rfl rfl ?_
    refine aw_get fd_X9_62_9 dX9_cleared_13 (by decide) rfl rfl ?_
    refine aw_if_ne (tgt := 22) dX9_cleared_16 (by decide) (fun c_16 => ?_) (fun c_16 => ?_)
    · refine aw_iconst (v := 0) dX9_cleared_22 (by decide) ?_
      refine aw_istore_n dX9_cleared_23 rfl (by decide) rfl ?_
      refine aw_iconst (v := 0) dX9_cleared_24 (by decide) ?_
      refine aw_istore_n dX9_cleared_25 rfl (by decide) rfl ?_
      refine aw_iconst (v := 0) dX9_cleared_26 (by decide) ?_
      refine aw_istore dX9_cleared_27 (by decide) rfl ?_
      rw [if_pos c_6, if_neg c_16]
      exact lp_X9_cleared I F hc hI5 w c 0 0 0 (by omega) rfl rfl
    · refine aw_bipush (v := (-3)) dX9_cleared_19 (by decide) ?_
      refine aw_iret dX9_cleared_21 (Nat.zero_le _) (Nat.zero_le _) ?_
      refine ⟨rfl, _, _, rfl, SM_refl I F, ?_⟩
      rw [if_pos c_6, if_pos c_16]
  · refine aw_bipush (v := (-2)) dX9_cleared_9 (by decide) ?_
    refine aw_iret dX9_cleared_11 (Nat.zero_le _) (Nat.zero_le _) ?_
    refine ⟨rfl, _, _, rfl, SM_refl I F, ?_⟩
    rw [if_neg (by rw [c_6]; decide)]
