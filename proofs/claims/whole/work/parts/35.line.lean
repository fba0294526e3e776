def kF (F : Nat → Nat → Int32) (p : Nat) : Nat → Nat → Int32 := st_F (st_F (st_F F 4 (pf (fun q => F 8 (3 * q)) (F 4) p)) 5 (pf (fun q => F 8 (3 * q + 1)) (F 5) p)) 6 (pf (fun q => F 8 (3 * q + 2)) (F 6) p)
theorem kF_0 (F : Nat → Nat → Int32) : kF F 0 = F := by
  unfold kF
  rw [pf_0, pf_0, pf_0, st_F0]
  have h5 : st_F F 5 (F 5) = F := st_F0 F 5
  rw [h5]
  exact st_F0 F 6
theorem kF_s (F : Nat → Nat → Int32) (p : Nat) : st_F (st_F (st_F (kF F p) 4 (upd (kF F p 4) p (F 8 (3 * p)))) 5 (upd (kF F p 5) p (F 8 (3 * p + 1)))) 6 (upd (kF F p 6) p (F 8 (3 * p + 2))) = kF F (p + 1) := by
  have e4 : kF F p 4 = pf (fun q => F 8 (3 * q)) (F 4) p := rfl
  have e5 : kF F p 5 = pf (fun q => F 8 (3 * q + 1)) (F 5) p := rfl
  have e6 : kF F p 6 = pf (fun q => F 8 (3 * q + 2)) (F 6) p := rfl
  rw [e4, e5, e6]
  have p4 := pf_s (fun q => F 8 (3 * q)) (F 4) p
  have p5 := pf_s (fun q => F 8 (3 * q + 1)) (F 5) p
  have p6 := pf_s (fun q => F 8 (3 * q + 2)) (F 6) p
  rw [p4, p5, p6]
  funext a
  unfold kF st_F
  by_cases h6 : a = 6
  · subst h6; simp
  · by_cases h5 : a = 5
    · subst h5; simp
    · by_cases h4 : a = 4
      · subst h4; simp
      · simp [h4, h5, h6]
def tkI (I : Nat → Nat → Int32) (g : Int32) (c : Nat) : Nat → Nat → Int32 := st_I (st_I (st_I (st_I (st_I I 0 6 g) 0 5 (nI c)) 0 7 (nI (2 ^ c - 1))) 0 8 0) 0 24 0
def tkF (F : Nat → Nat → Int32) (c : Nat) : Nat → Nat → Int32 := st_F (kF F c) 7 (zr (F 7) 36)
def tF (F : Nat → Nat → Int32) (b c : Nat) : Nat → Nat → Int32 := st_F (st_F (st_F (st_F F 4 (pf (fun q => ltK (F 3 (b + (4 * q + 3)))) (F 4) c)) 5 (pf (fun q => F 3 (b + (4 * q + 4)) - 48) (F 5) c)) 6 (pf (fun q => F 3 (b + (4 * q + 5)) - 48) (F 6) c)) 7 (zr (F 7) 36)
theorem pf_c {g g' f : Nat → Int32} {c : Nat} (h : ∀ q, q < c → g q = g' q) : pf g f c = pf g' f c := by
  funext j
  unfold pf
  by_cases e : j < c
  · rw [if_pos e, if_pos e, h j e]
  · rw [if_neg e, if_neg e]
theorem tkF_tF {F : Nat → Nat → Int32} {b c : Nat} {r : Nat → Int32} (h : RF F b r c) : ∀ a, a ≠ 8 → tkF (st_F F 8 r) c a = tF F b c a := by
  intro a h8
  have e4 : pf (fun q => (st_F F 8 r) 8 (3 * q)) (F 4) c = pf (fun q => ltK (F 3 (b + (4 * q + 3)))) (F 4) c := pf_c fun q hq => (h q hq).1
  have e5 : pf (fun q => (st_F F 8 r) 8 (3 * q + 1)) (F 5) c = pf (fun q => F 3 (b + (4 * q + 4)) - 48) (F 5) c := pf_c fun q hq => (h q hq).2.1
  have e6 : pf (fun q => (st_F F 8 r) 8 (3 * q + 2)) (F 6) c = pf (fun q => F 3 (b + (4 * q + 5)) - 48) (F 6) c := pf_c fun q hq => (h q hq).2.2
  unfold tkF kF tF
  rw [show st_F F 8 r 4 = F 4 from rfl, show st_F F 8 r 5 = F 5 from rfl, show st_F F 8 r 6 = F 6 from rfl, show st_F F 8 r 7 = F 7 from rfl, e4, e5, e6]
  unfold st_F
  simp [h8]
theorem SM_tk {J F : Nat → Nat → Int32} {b c : Nat} {r : Nat → Int32} {a g p : Int32} (h : RF F b r c) : SM (tkI J g c) (tF F b c) (tkI (PM J a g p) g c) (tkF (st_F F 8 r) c) := by
  refine ⟨fun k h1 h2 h3 _ _ _ _ => ?_, fun a h8 _ _ _ => tkF_tF h a h8⟩
  unfold tkI st_I upd PM
  simp [h1, h2, h3]

set_option maxRecDepth 100000 in
set_option maxHeartbeats 4000000 in
theorem lp_X9_takeLine2 {l : Launch} {D : va_G} {tc : Nat → ClassId} (I F : Nat → Nat → Int32) {c : Nat} (hc : c ≤ 6) (hI5 : I 0 5 = nI c) : ∀ (m i : Nat), i + m = 36 → AW l D tc yX9_takeLine.cls cX9_takeLine 2 none { frames := 0, cells := 0, slots := 0, locals := 0 } 15 0 0 (fun v n1 h1 => n1 = 15 ∧ (v = none ∧ h1 = hM (st_I (st_I (st_I I 0 7 (nI (2 ^ c - 1))) 0 8 0) 0 24 0) (tkF F c))) 80 [some (.ref 0), some (.int (nI i))] [] 15 (hM I (st_F (kF F c) 7 (zr (F 7) i))) 0 0 := by
  intro m
  induction m using Nat.strongRecOn with
  | _ m ih =>
    intro i hi
    refine aw_iload_n dX9_takeLine_80 rfl rfl ?_
    refine aw_bipush (v := (36)) dX9_takeLine_81 (by decide) ?_
    refine aw_icmp_ge (tgt := 99) dX9_takeLine_83 (by decide) (fun c_83 => ?_) (fun c_83 => ?_)
    · have hi6 := lp_ge (N := 36) (by decide) (by omega) c_83
      subst hi6
      refine aw_aload_n dX9_takeLine_99 rfl rfl ?_
      refine aw_iconst (v := 1) dX9_takeLine_100 (by decide) ?_
      refine aw_aload_n dX9_takeLine_101 rfl rfl ?_
      refine aw_get fd_X9_62_9 dX9_takeLine_102 (by decide) rfl rfl ?_
      rw [hI5]
      refine aw_ishl dX9_takeLine_105 ?_
      refine aw_iconst (v := 1) dX9_takeLine_106 (by decide) ?_
      refine aw_isub dX9_takeLine_107 ?_
      rw [show (1 : Int32) <<< (nI c &&& 31) - 1 = nI (2 ^ c - 1) from ev_nI c hc]
      refine aw_puti fp_X9_98_9 dX9_takeLine_108 (by decide) rfl rfl rfl (Nat.le_of_ble_eq_true rfl) rfl ?_
      refine aw_aload_n dX9_takeLine_111 rfl rfl ?_
      refine aw_iconst (v := 0) dX9_takeLine_112 (by decide) ?_
      refine aw_puti fp_X9_101_9 dX9_takeLine_113 (by decide) rfl rfl rfl (Nat.le_of_ble_eq_true rfl) rfl ?_
      refine aw_aload_n dX9_takeLine_116 rfl rfl ?_
      refine aw_iconst (v := 0) dX9_takeLine_117 (by decide) ?_
      refine aw_puti fp_X9_104_9 dX9_takeLine_118 (by decide) rfl rfl rfl (Nat.le_of_ble_eq_true rfl) rfl ?_
      refine aw_vret dX9_takeLine_121 (Nat.zero_le _) (Nat.zero_le _) ?_
      exact ⟨rfl, rfl, rfl⟩
    · have hi6 := lp_lt (N := 36) (by omega) c_83
      refine aw_aload_n dX9_takeLine_86 rfl rfl ?_
      refine aw_get fd_X9_28_9 dX9_takeLine_87 (by decide) rfl rfl ?_
      refine aw_iload_n dX9_takeLine_90 rfl rfl ?_
      refine aw_iconst (v := 0) dX9_takeLine_91 (by decide) ?_
      refine aw_iastI dX9_takeLine_92 (by decide) rfl (fun _ => rfl) (vp_in_nI hi6 (by decide)) (show _ = st_F (kF F c) 7 (zr (F 7) (i + 1)) from by rw [← zr_s, nI_clamp (show i < 2 ^ 31 by omega)]; show st_F (st_F (kF F c) 7 (zr (F 7) i)) 7 (upd (st_F (kF F c) 7 (zr (F 7) i) 7) i 0) = _; rw [st_Fs, st_FF]) ?_
      refine aw_iinc (v := 1) dX9_takeLine_93 rfl (by decide) (by decide) rfl ?_
      refine aw_goto (tgt := 80) dX9_takeLine_96 (by decide) ?_
      rw [nI_1]
      exact ih (m - 1) (by omega) (i + 1) (by omega)
set_option maxRecDepth 100000 in
set_option maxHeartbeats 4000000 in
theorem lp_X9_takeLine1 {l : Launch} {D : va_G} {tc : Nat → ClassId} (I F : Nat → Nat → Int32) {c : Nat} (hc : c ≤ 6) (hI5 : I 0 5 = nI c) : ∀ (m i : Nat), i + m = c → AW l D tc yX9_takeLine.cls cX9_takeLine 2 none { frames := 0, cells := 0, slots := 0, locals := 0 } 15 0 0 (fun v n1 h1 => n1 = 15 ∧ (v = none ∧ h1 = hM (st_I (st_I (st_I I 0 7 (nI (2 ^ c - 1))) 0 8 0) 0 24 0) (tkF F c))) 18 [some (.ref 0), some (.int (nI i))] [] 15 (hM I (kF F i)) 0 0 := by
  intro m
  induction m using Nat.strongRecOn with
  | _ m ih =>
    intro i hi
    refine aw_iload_n dX9_takeLine_18 rfl rfl ?_
    refine aw_aload_n dX9_takeLine_19 rfl rfl ?_
    refine aw_get fd_X9_62_9 dX9_takeLine_20 (by decide) rfl rfl ?_
    refine aw_icmp_ge (tgt := 78) dX9_takeLine_23 (by decide) (fun c_23 => ?_) (fun c_23 => ?_)
    · have hi6 : i = c := lp_ge (by omega) (by omega) (by rw [← hI5]; exact c_23)
      subst hi6
      refine aw_iconst (v := 0) dX9_takeLine_78 (by decide) ?_
      refine aw_istore_n dX9_takeLine_79 rfl (by decide) rfl ?_
      have hl := lp_X9_takeLine2 (l := l) (D := D) (tc := tc) I F hc hI5 36 0 (by omega)
      rw [zr_0, show st_F (kF F i) 7 (F 7) = kF F i from st_F0 (kF F i) 7] at hl
      exact hl
    · have hi6 : i < c := lp_lt (N := c) (by omega) (by rw [← hI5]; exact c_23)
      refine aw_aload_n dX9_takeLine_26 rfl rfl ?_
      refine aw_get fd_X9_19_9 dX9_takeLine_27 (by decide) rfl rfl ?_
      refine aw_iload_n dX9_takeLine_30 rfl rfl ?_
      refine aw_aload_n dX9_takeLine_31 rfl rfl ?_
      refine aw_get fd_X9_31_9 dX9_takeLine_32 (by decide) rfl rfl ?_
      refine aw_iconst (v := 3) dX9_takeLine_35 (by decide) ?_
      refine aw_iload_n dX9_takeLine_36 rfl rfl ?_
      refine aw_imul dX9_takeLine_37 ?_
      rw [ix3]
      refine aw_iald dX9_takeLine_38 (by decide) rfl (vp_in_nI (n := 3 * i) (by omega) (by decide)) ?_
      refine aw_iasti dX9_takeLine_39 (by decide) rfl (fun _ => rfl) (vp_in_nI (n := i) (by omega) (by decide)) ?_
      refine aw_aload_n dX9_takeLine_40 rfl rfl ?_
      refine aw_get fd_X9_22_9 dX9_takeLine_41 (by decide) rfl rfl ?_
      refine aw_iload_n dX9_takeLine_44 rfl rfl ?_
      refine aw_aload_n dX9_takeLine_45 rfl rfl ?_
      refine aw_get fd_X9_31_9 dX9_takeLine_46 (by decide) rfl rfl ?_
      refine aw_iconst (v := 3) dX9_takeLine_49 (by decide) ?_
      refine aw_iload_n dX9_takeLine_50 rfl rfl ?_
      refine aw_imul dX9_takeLine_51 ?_
      rw [ix3]
      refine aw_iconst (v := 1) dX9_takeLine_52 (by decide) ?_
      refine aw_iadd dX9_takeLine_53 ?_
      rw [nI_1]
      refine aw_iald dX9_takeLine_54 (by decide) rfl (vp_in_nI (n := 3 * i + 1) (by omega) (by decide)) ?_
      refine aw_iasti dX9_takeLine_55 (by decide) rfl (fun _ => rfl) (vp_in_nI (n := i) (by omega) (by decide)) ?_
      refine aw_aload_n dX9_takeLine_56 rfl rfl ?_
      refine aw_get fd_X9_25_9 dX9_takeLine_57 (by decide) rfl rfl ?_
      refine aw_iload_n dX9_takeLine_60 rfl rfl ?_
      refine aw_aload_n dX9_takeLine_61 rfl rfl ?_
      refine aw_get fd_X9_31_9 dX9_takeLine_62 (by decide) rfl rfl ?_
      refine aw_iconst (v := 3) dX9_takeLine_65 (by decide) ?_
      refine aw_iload_n dX9_takeLine_66 rfl rfl ?_
      refine aw_imul dX9_takeLine_67 ?_
      rw [ix3]
      refine aw_iconst (v := 2) dX9_takeLine_68 (by decide) ?_
      refine aw_iadd dX9_takeLine_69 ?_
      rw [show nI (3 * i) + 2 = nI (3 * i + 2) from nI_add (3 * i) 2]
      refine aw_iald dX9_takeLine_70 (by decide) rfl (vp_in_nI (n := 3 * i + 2) (by omega) (by decide)) ?_
      refine aw_iastI dX9_takeLine_71 (by decide) rfl (fun _ => rfl) (vp_in_nI (n := i) (by omega) (by decide)) (show _ = kF F (i + 1) from by rw [← kF_s, nI_clamp (n := i) (by omega), nI_clamp (n := 3 * i) (by omega), nI_clamp (n := 3 * i + 1) (by omega), nI_clamp (n := 3 * i + 2) (by omega)]; rfl) ?_
      refine aw_iinc (v := 1) dX9_takeLine_72 rfl (by decide) (by decide) rfl ?_
      refine aw_goto (tgt := 18) dX9_takeLine_75 (by decide) ?_
      rw [nI_1]
      exact ih (m - 1) (by omega) (i + 1) (by omega)
set_option maxRecDepth 100000 in
set_option maxHeartbeats 4000000 in
theorem c_X9_takeLine {l : Launch} {D : va_G} {tc : Nat → ClassId} (I F : Nat → Nat → Int32) {c : Nat} (hc : c ≤ 6) {g : Int32} (hI14 : I 0 14 = g) (hI15 : I 0 15 = nI c) : AM l D tc yX9_takeLine cX9_takeLine 2 none 0 0 0 0 [.ref 0] 15 (hM I F) (fun v n1 h1 => n1 = 15 ∧ (v = none ∧ h1 = hM (tkI I g c) (tkF F c))) := by
  refine am_of (L := [some (.ref 0), none]) (by decide +kernel) (Nat.le_of_ble_eq_true rfl) rfl ?_
  refine aw_aload_n dX9_takeLine_0 rfl rfl ?_
  refine aw_aload_n dX9_takeLine_1 rfl rfl ?_
  refine aw_get fd_X9_89_9 dX9_takeLine_2 (by decide) rfl rfl ?_
  refine aw_putI fp_X9_92_9 dX9_takeLine_5 (by decide) rfl rfl rfl (Nat.le_of_ble_eq_true rfl) rfl (show _ = st_I I 0 6 g from by rw [hI14]) ?_
  refine aw_aload_n dX9_takeLine_8 rfl rfl ?_
  refine aw_aload_n dX9_takeLine_9 rfl rfl ?_
  refine aw_get fd_X9_95_9 dX9_takeLine_10 (by decide) rfl rfl ?_
  refine aw_putI fp_X9_62_9 dX9_takeLine_13 (by decide) rfl rfl rfl (Nat.le_of_ble_eq_true rfl) rfl (show _ = st_I (st_I I 0 6 g) 0 5 (nI c) from by rw [show st_I I 0 6 g 0 15 = nI c from hI15]) ?_
  refine aw_iconst (v := 0) dX9_takeLine_16 (by decide) ?_
  refine aw_istore_n dX9_takeLine_17 rfl (by decide) rfl ?_
  have hl := lp_X9_takeLine1 (l := l) (D := D) (tc := tc) (st_I (st_I I 0 6 g) 0 5 (nI c)) F hc rfl c 0 (by omega)
  rw [kF_0] at hl
  exact hl
set_option maxRecDepth 100000 in
set_option maxHeartbeats 4000000 in
theorem c_X9_line_no {l : Launch} {D : va_G} {tc : Nat → ClassId} (I F : Nat → Nat → Int32) (J : Nat → Nat → Int32) (hJ : J = st_I I 0 0 0) {x : Int32} (hx : sP 4 x = false) (a : Int32) (i : Int32) (m : Int32) : AM l D tc yX9_line cX9_line 7 (some .int) 4 87 0 0 [.ref 0, .int x, .int a, .int i, .int m] 15 (hM I F) (fun v n1 h1 => n1 = 15 ∧ (v = some (.int (-1)) ∧ h1 = hM J F)) := by
  refine am_of (L := [some (.ref 0), some (.int x), some (.int a), some (.int i), some (.int m), none, none]) (by decide +kernel) (Nat.le_of_ble_eq_true rfl) rfl ?_
  refine aw_aload_n dX9_line_0 rfl rfl ?_
  refine aw_iconst (v := 0) dX9_line_1 (by decide) ?_
  refine aw_putI fp_X9_52_9 dX9_line_2 (by decide) rfl rfl rfl (Nat.le_of_ble_eq_true rfl) rfl hJ.symm ?_
  clear hJ
  refine aw_iload_n dX9_line_5 rfl rfl ?_
  refine aw_callS cw_X9_isSheet ml_X9_68 sm_X9_isSheet (c_X9_isSheet _ _ _) ⟨Nat.le_of_ble_eq_true rfl, Nat.le_of_ble_eq_true rfl⟩ ⟨Nat.zero_le _, Nat.zero_le _⟩ rfl rfl (Nat.le_of_ble_eq_true rfl) dX9_line_6 ?_
  rintro _ _ ⟨rfl, rfl⟩
  rw [show b2i (sW _ 0 3) = 0 from by rw [sP4, hx]; rfl]
  refine aw_if_ne (tgt := 14) dX9_line_9 (by decide) (fun c9 => absurd rfl c9) (fun _ => ?_)
  refine aw_iconst (v := (-1)) dX9_line_12 (by decide) ?_
  refine aw_iret dX9_line_13 (Nat.zero_le _) (Nat.zero_le _) ?_
  exact ⟨rfl, rfl, rfl⟩
set_option maxRecDepth 100000 in
set_option maxHeartbeats 4000000 in
theorem c_X9_line {l : Launch} {D : va_G} {tc : Nat → ClassId} (I F : Nat → Nat → Int32) (J : Nat → Nat → Int32) (hJ : J = st_I I 0 0 0) {k : Nat} (hk : k < 4) {z : Nat} (hz : z ≤ 60) (hz2 : F 2 k = nI z) (a i m : Int32) : AM l D tc yX9_line cX9_line 7 (some .int) 4 87 0 0 [.ref 0, .int (nI k), .int a, .int i, .int m] 15 (hM I F) (fun v n1 h1 => n1 = 15 ∧ ((if sW a 0 2 then (if (sAg (F 1 k) (F 2 k) a i m) = 0 then (if (ffN (fun j => F 3 (60 * k + i.toNatClampNeg + j)) (ffE m) 0 m.toNatClampNeg) = -9 then (∃ c : Nat, 2 ≤ c ∧ c ≤ 6 ∧ m = nI (2 + 4 * c) ∧ v = some (.int (nI c)) ∧ ∃ I1 F1, h1 = hM I1 F1 ∧ SM (tkI J (F 3 (60 * k + i.toNatClampNeg + 1) - 48) c) (tF F (60 * k + i.toNatClampNeg) c) I1 F1) else (v = some (.int (-100 - (ffN (fun j => F 3 (60 * k + i.toNatClampNeg + j)) (ffE m) 0 m.toNatClampNeg))) ∧ ∃ I1 F1, h1 = hM I1 F1 ∧ SM J F I1 F1)) else (v = some (.int (-10 - (sAg (F 1 k) (F 2 k) a i m))) ∧ h1 = hM (st_I J 0 0 (sAg (F 1 k) (F 2 k) a i m)) F)) else (v = some (.int (-2)) ∧ h1 = hM J F)))) := by
  refine am_of (L := [some (.ref 0), some (.int (nI k)), some (.int a), some (.int i), some (.int m), none, none]) (by decide +kernel) (Nat.le_of_ble_eq_true rfl) rfl ?_
  refine aw_aload_n dX9_line_0 rfl rfl ?_
  refine aw_iconst (v := 0) dX9_line_1 (by decide) ?_
  refine aw_putI fp_X9_52_9 dX9_line_2 (by decide) rfl rfl rfl (Nat.le_of_ble_eq_true rfl) rfl hJ.symm ?_
  clear hJ
  refine aw_iload_n dX9_line_5 rfl rfl ?_
  refine aw_callS cw_X9_isSheet ml_X9_68 sm_X9_isSheet (c_X9_isSheet _ _ _) ⟨Nat.le_of_ble_eq_true rfl, Nat.le_of_ble_eq_true rfl⟩ ⟨Nat.zero_le _, Nat.zero_le _⟩ rfl rfl (Nat.le_of_ble_eq_true rfl) dX9_line_6 ?_
  rintro _ _ ⟨rfl, rfl⟩
  rw [show b2i (sW (nI _) 0 3) = 1 from by rw [sP4, sP_nI (c := 4) (by omega) hk]; rfl]
  refine aw_if_ne (tgt := 14) dX9_line_9 (by decide) (fun _ => ?_) (fun c9 => absurd c9 (by decide))
  refine aw_iload_n dX9_line_14 rfl rfl ?_
  refine aw_callS cw_X9_isSort ml_X9_72 sm_X9_isSort (c_X9_isSort _ _ _) ⟨Nat.le_of_ble_eq_true rfl, Nat.le_of_ble_eq_true rfl⟩ ⟨Nat.zero_le _, Nat.zero_le _⟩ rfl rfl (Nat.le_of_ble_eq_true rfl) dX9_line_15 ?_
  rintro _ _ ⟨rfl, rfl⟩
  refine aw_ifB_ne (tgt := 24) dX9_line_18 (by decide) (fun c_18 => ?_) (fun c_18 => ?_)
  · refine aw_aload_n dX9_line_24 rfl rfl ?_
    refine aw_iload_n dX9_line_25 rfl rfl ?_
    refine aw_iload_n dX9_line_26 rfl rfl ?_
    refine aw_iload_n dX9_line_27 rfl rfl ?_
    refine aw_iload dX9_line_28 rfl ?_
    refine aw_callV cw_X9_against ml_X9_75 im_X9_against sl_X9_X9_against rfl (by decide) rfl (c_X9_against _ _ hk _ _ _) ⟨Nat.le_of_ble_eq_true rfl, Nat.le_of_ble_eq_true rfl⟩ ⟨Nat.zero_le _, Nat.zero_le _⟩ rfl rfl (Nat.le_of_ble_eq_true rfl) dX9_line_30 ?_
    rintro _ _ ⟨rfl, rfl⟩
    refine aw_istore dX9_line_33 (by decide) rfl ?_
    refine aw_iload dX9_line_35 rfl ?_
    refine aw_if_eq (tgt := 47) dX9_line_37 (by decide) (fun c_37 => ?_) (fun c_37 => ?_)
    · simp only [if_pos c_18, if_pos c_37]
      rw [hz2] at c_37
      obtain ⟨_, _, i9, m9, ei, em, hle⟩ := sAg_0 hz c_37
      subst ei
      subst em
      simp only [nI_clamp (show i9 < 2 ^ 31 by omega), nI_clamp (show m9 < 2 ^ 31 by omega)]
      refine aw_bipush (v := (60)) dX9_line_47 (by decide) ?_
      refine aw_iload_n dX9_line_49 rfl rfl ?_
      refine aw_imul dX9_line_50 ?_
      refine aw_iload_n dX9_line_51 rfl rfl ?_
      refine aw_iadd dX9_line_52 ?_
      rw [ix60]
      refine aw_istore dX9_line_53 (by decide) rfl ?_
      refine aw_aload_n dX9_line_55 rfl rfl ?_
      refine aw_iload dX9_line_56 rfl ?_
      refine aw_puti fp_X9_65_9 dX9_line_58 (by decide) rfl rfl rfl (Nat.le_of_ble_eq_true rfl) rfl ?_
      refine aw_aload_n dX9_line_61 rfl rfl ?_
      refine aw_iload dX9_line_62 rfl ?_
      refine aw_iload dX9_line_64 rfl ?_
      refine aw_iadd dX9_line_66 ?_
      rw [nI_add]
      have hst : st_I J 0 13 (nI (60 * k + i9)) = PM J (nI (60 * k + i9)) (J 0 14) (J 0 15) := by
        have e9 := PM_a J (J 0 13) (J 0 14) (J 0 15) (nI (60 * k + i9))
        rw [← PM_I] at e9
        exact e9
      have hrl := c_X9_readLine (l := l) (D := D) (tc := tc) J F (b := (60 * k + i9)) (n := m9) (by omega) (by omega) _ (J 0 14) (J 0 15) (F 8) rfl
      rw [show st_F F 8 (F 8) = F from st_F0 F 8, ← hst] at hrl
      refine aw_callV cw_X9_readLine ml_X9_83 im_X9_readLine sl_X9_X9_readLine rfl (by decide) rfl hrl ⟨Nat.le_of_ble_eq_true rfl, Nat.le_of_ble_eq_true rfl⟩ ⟨Nat.zero_le _, Nat.zero_le _⟩ rfl rfl (Nat.le_of_ble_eq_true rfl) dX9_line_67 ?_
      intro v9 h9 hq9
      generalize hff : ffN (fun j => F 3 ((60 * k + i9) + j)) (ffE (nI m9)) 0 m9 = R9 at hq9 ⊢
      rcases hq9 with ⟨eR, rfl, c, r9, en, hc2, hc, rfl, hrf⟩ | ⟨t9, g9, p9, r9, ht9, eR, rfl, rfl⟩
      · refine aw_if_ne (tgt := 84) dX9_line_70 (by decide) (fun _ => ?_) (fun c9 => absurd c9 (by decide))
        refine aw_aload_n dX9_line_84 rfl rfl ?_
        refine aw_callV cw_X9_takeLine ml_X9_86 im_X9_takeLine sl_X9_X9_takeLine rfl (by decide) rfl (c_X9_takeLine (PM J (nI ((60 * k + i9) + m9)) (F 3 ((60 * k + i9) + 1) - 48) (nI c)) (st_F F 8 r9) hc (g := F 3 ((60 * k + i9) + 1) - 48) rfl rfl) ⟨Nat.le_of_ble_eq_true rfl, Nat.le_of_ble_eq_true rfl⟩ ⟨Nat.zero_le _, Nat.zero_le _⟩ rfl rfl (Nat.le_of_ble_eq_true rfl) dX9_line_85 ?_
        rintro _ _ ⟨rfl, rfl⟩
        refine aw_aload_n dX9_line_88 rfl rfl ?_
        refine aw_get fd_X9_62_9 dX9_line_89 (by decide) rfl rfl ?_
        refine aw_iret dX9_line_92 (Nat.zero_le _) (Nat.zero_le _) ?_
        refine ⟨rfl, ?_⟩
        rw [if_pos eR]
        exact ⟨c, hc2, hc, by rw [en], rfl, _, _, rfl, SM_tk hrf⟩
      · refine aw_if_ne (tgt := 84) dX9_line_70 (by decide) (fun c9 => absurd rfl c9) (fun _ => ?_)
        refine aw_bipush (v := (-100)) dX9_line_73 (by decide) ?_
        refine aw_aload_n dX9_line_75 rfl rfl ?_
        refine aw_get fd_X9_65_9 dX9_line_76 (by decide) he_PM rfl ?_
        refine aw_iload dX9_line_79 rfl ?_
        refine aw_isub dX9_line_81 ?_
        rw [pk_sub (a := (60 * k + i9) + t9) (b := (60 * k + i9)) (by omega), show (60 * k + i9) + t9 - (60 * k + i9) = t9 by omega]
        refine aw_isub dX9_line_82 ?_
        refine aw_iret dX9_line_83 (Nat.zero_le _) (Nat.zero_le _) ?_
        refine ⟨rfl, ?_⟩
        rw [if_neg (by rw [eR]; exact nI_n9 (by omega)), eR]
        exact ⟨rfl, _, _, rfl, SM_PM J F _ _ _ _⟩
    · refine aw_aload_n dX9_line_40 rfl rfl ?_
      refine aw_iload dX9_line_41 rfl ?_
      refine aw_callV cw_X9_fails ml_X9_79 im_X9_fails sl_X9_X9_fails rfl (by decide) rfl (c_X9_fails _ _ _) ⟨Nat.le_of_ble_eq_true rfl, Nat.le_of_ble_eq_true rfl⟩ ⟨Nat.zero_le _, Nat.zero_le _⟩ rfl rfl (Nat.le_of_ble_eq_true rfl) dX9_line_43 ?_
      rintro _ _ ⟨rfl, rfl⟩
      refine aw_iret dX9_line_46 (Nat.zero_le _) (Nat.zero_le _) ?_
      refine ⟨rfl, ?_⟩
      rw [if_pos c_18, if_neg c_37]
      exact ⟨rfl, rfl⟩
  · refine aw_bipush (v := (-2)) dX9_line_21 (by decide) ?_
    refine aw_iret dX9_line_23 (Nat.zero_le _) (Nat.zero_le _) ?_
    refine ⟨rfl, ?_⟩
    rw [if_neg (by rw [c_18]; decide)]
    exact ⟨rfl, rfl⟩
