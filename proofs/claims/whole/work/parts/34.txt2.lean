theorem ffE_no : ∀ n : Fin 61, (n.1 < 10 ∨ (n.1 - 2) % 4 ≠ 0) → ffE (nI n.1) = nI n.1 := by decide +kernel
theorem ffE_yes : ∀ n : Fin 61, 10 ≤ n.1 → (n.1 - 2) % 4 = 0 → ffE (nI n.1) = -9 := by decide +kernel
theorem fit_m (x : Int32) : sFit x (nI 0) = decide (x = 109) := rfl
theorem fit_d (x : Int32) : sFit x (nI 1) = sDig x := rfl
theorem fit_26 (x : Int32) : sFit x (nI 26) = false := rfl
theorem fit_p : ∀ p : Fin 6, (nI (2 + 4 * p.1) < 26 ∧ 2 ≤ nI (2 + 4 * p.1) ∧ (nI (2 + 4 * p.1) - 2) - (nI (2 + 4 * p.1) - 2) / 4 * 4 = 0) ∧ (nI (3 + 4 * p.1) < 26 ∧ 2 ≤ nI (3 + 4 * p.1) ∧ ¬ (nI (3 + 4 * p.1) - 2) - (nI (3 + 4 * p.1) - 2) / 4 * 4 = 0 ∧ (nI (3 + 4 * p.1) - 2) - (nI (3 + 4 * p.1) - 2) / 4 * 4 = 1) ∧ (nI (4 + 4 * p.1) < 26 ∧ 2 ≤ nI (4 + 4 * p.1) ∧ ¬ (nI (4 + 4 * p.1) - 2) - (nI (4 + 4 * p.1) - 2) / 4 * 4 = 0 ∧ ¬ (nI (4 + 4 * p.1) - 2) - (nI (4 + 4 * p.1) - 2) / 4 * 4 = 1) ∧ (nI (5 + 4 * p.1) < 26 ∧ 2 ≤ nI (5 + 4 * p.1) ∧ ¬ (nI (5 + 4 * p.1) - 2) - (nI (5 + 4 * p.1) - 2) / 4 * 4 = 0 ∧ ¬ (nI (5 + 4 * p.1) - 2) - (nI (5 + 4 * p.1) - 2) / 4 * 4 = 1) := by decide +kernel
theorem fit_0 {p : Nat} (hp : p < 6) (x : Int32) : sFit x (nI (2 + 4 * p)) = decide (x = 59) := by
  have h := (fit_p ⟨p, hp⟩).1
  unfold sFit
  rw [if_pos h.1, if_pos h.2.1, if_pos h.2.2]
theorem fit_1 {p : Nat} (hp : p < 6) (x : Int32) : sFit x (nI (3 + 4 * p)) = !decide (ltK x = -9) := by
  have h := (fit_p ⟨p, hp⟩).2.1
  unfold sFit ltK
  rw [if_pos h.1, if_pos h.2.1, if_neg h.2.2.1, if_pos h.2.2.2]
  by_cases e1 : x = 112
  · subst e1; rfl
  · by_cases e2 : x = 117
    · subst e2; rfl
    · by_cases e3 : x = 108
      · subst e3; rfl
      · simp [e1, e2, e3]
theorem fit_2 {p : Nat} (hp : p < 6) (x : Int32) : sFit x (nI (4 + 4 * p)) = sDig x := by
  have h := (fit_p ⟨p, hp⟩).2.2.1
  unfold sFit
  rw [if_pos h.1, if_pos h.2.1, if_neg h.2.2.1, if_neg h.2.2.2]
theorem fit_3 {p : Nat} (hp : p < 6) (x : Int32) : sFit x (nI (5 + 4 * p)) = sDig x := by
  have h := (fit_p ⟨p, hp⟩).2.2.2
  unfold sFit
  rw [if_pos h.1, if_pos h.2.1, if_neg h.2.2.1, if_neg h.2.2.2]
/-- where reading stops, and where it goes on -/
theorem ff_stop {rd : Nat → Int32} {n t : Nat} (hn : n ≤ 60) (ht : t ≤ n) (h : (decide (t < n) && sFit (rd t) (nI t)) = false) (he : t = n → (n < 10 ∨ (n - 2) % 4 ≠ 0)) : ffN rd (ffE (nI n)) t (n - t) = nI t := by
  by_cases q : t = n
  · subst q
    rw [Nat.sub_self, ffN]
    exact ffE_no ⟨t, by omega⟩ (he rfl)
  · obtain ⟨m, hm⟩ : ∃ m, n - t = m + 1 := ⟨n - t - 1, by omega⟩
    rw [hm, ffN]
    rw [decide_eq_true (show t < n by omega), Bool.true_and] at h
    rw [if_neg (by rw [h]; decide)]
theorem ff_go {rd : Nat → Int32} {n t : Nat} {e : Int32} (h : (decide (t < n) && sFit (rd t) (nI t)) = true) : t < n ∧ ffN rd e t (n - t) = ffN rd e (t + 1) (n - (t + 1)) := by
  simp only [Bool.and_eq_true, decide_eq_true_eq] at h
  obtain ⟨m, hm⟩ : ∃ m, n - t = m + 1 := ⟨n - t - 1, by omega⟩
  refine ⟨h.1, ?_⟩
  rw [hm, ffN, if_pos h.2, show n - (t + 1) = m by omega]
theorem rp_4 {A B C D : Prop} {x y z : Bool} (h : if x then (if y then (if z then A else B) else C) else D) : (x = true ∧ y = true ∧ z = true ∧ A) ∨ (x = true ∧ y = true ∧ z = false ∧ B) ∨ (x = true ∧ y = false ∧ C) ∨ (x = false ∧ D) := by
  cases x <;> cases y <;> cases z <;> simp_all
theorem ok_S {F : Nat → Nat → Int32} {b n t : Nat} {x : Int32} : okS F (b + n) (b + t) x = (decide (t < n) && decide (F 3 (b + t) = x)) := by
  unfold okS
  simp
theorem ok_D {F : Nat → Nat → Int32} {b n t : Nat} : okD F (b + n) (b + t) = (decide (t < n) && sDig (F 3 (b + t))) := by
  unfold okD
  simp
theorem ok_K {F : Nat → Nat → Int32} {b n t : Nat} : okK F (b + n) (b + t) = (decide (t < n) && !decide (ltK (F 3 (b + t)) = -9)) := by
  unfold okK
  simp
def RF (F : Nat → Nat → Int32) (b : Nat) (r : Nat → Int32) (p : Nat) : Prop := ∀ q, q < p → r (3 * q) = ltK (F 3 (b + (4 * q + 3))) ∧ r (3 * q + 1) = F 3 (b + (4 * q + 4)) - 48 ∧ r (3 * q + 2) = F 3 (b + (4 * q + 5)) - 48
theorem RF_s {F : Nat → Nat → Int32} {b p : Nat} {r : Nat → Int32} (h : RF F b r p) : RF F b (r3 r (F 3) p (b + (3 + 4 * p))) (p + 1) := by
  intro q hq
  unfold r3 upd
  by_cases e : q = p
  · subst e
    refine ⟨?_, ?_, ?_⟩
    · rw [if_neg (by omega), if_neg (by omega), if_pos rfl, show 3 + 4 * q = 4 * q + 3 by omega]
    · rw [if_neg (by omega), if_pos rfl, show b + (3 + 4 * q) + 1 = b + (4 * q + 4) by omega]
    · rw [if_pos rfl, show b + (3 + 4 * q) + 2 = b + (4 * q + 5) by omega]
  · obtain ⟨h1, h2, h3⟩ := h q (by omega)
    refine ⟨?_, ?_, ?_⟩
    · rw [if_neg (by omega), if_neg (by omega), if_neg (by omega), h1]
    · rw [if_neg (by omega), if_neg (by omega), if_neg (by omega), h2]
    · rw [if_neg (by omega), if_neg (by omega), if_neg (by omega), h3]

set_option maxRecDepth 100000 in
set_option maxHeartbeats 4000000 in
theorem lp_X9_readLine {l : Launch} {D : va_G} {tc : Nat → ClassId} (I F : Nat → Nat → Int32) {b n : Nat} (hb : b + n ≤ 240) (hn : n ≤ 60) (R : Int32) : ∀ (m p : Nat) (r : Nat → Int32), p + m = 6 → 2 + 4 * p ≤ n → RF F b r p → ffN (fun j => F 3 (b + j)) (ffE (nI n)) (2 + 4 * p) (n - (2 + 4 * p)) = R → AW l D tc yX9_readLine.cls cX9_readLine 2 (some .boolean) { frames := 3, cells := 0, slots := 0, locals := 66 } 15 0 0 (fun v n1 h1 => n1 = 15 ∧ ((R = -9 ∧ v = some (.int 1) ∧ ∃ c r9, n = 2 + 4 * c ∧ 2 ≤ c ∧ c ≤ 6 ∧ h1 = hM (PM I (nI (b + n)) (F 3 (b + 1) - 48) (nI c)) (st_F F 8 r9) ∧ RF F b r9 c) ∨ (∃ t g9 p9 r9, t ≤ 60 ∧ R = nI t ∧ v = some (.int 0) ∧ h1 = hM (PM I (nI (b + t)) g9 p9) (st_F F 8 r9)))) 37 [some (.ref 0), some (.int (nI (b + n)))] [] 15 (hM (PM I (nI (b + (2 + 4 * p))) (F 3 (b + 1) - 48) (nI p)) (st_F F 8 r)) 0 0 := by
  intro m
  induction m using Nat.strongRecOn with
  | _ m ih =>
    intro p r hi hle hr hq
    have B : p < 6 → (n = 2 + 4 * p → p < 2) → AW l D tc yX9_readLine.cls cX9_readLine 2 (some .boolean) { frames := 3, cells := 0, slots := 0, locals := 66 } 15 0 0 (fun v n1 h1 => n1 = 15 ∧ ((R = -9 ∧ v = some (.int 1) ∧ ∃ c r9, n = 2 + 4 * c ∧ 2 ≤ c ∧ c ≤ 6 ∧ h1 = hM (PM I (nI (b + n)) (F 3 (b + 1) - 48) (nI c)) (st_F F 8 r9) ∧ RF F b r9 c) ∨ (∃ t g9 p9 r9, t ≤ 60 ∧ R = nI t ∧ v = some (.int 0) ∧ h1 = hM (PM I (nI (b + t)) g9 p9) (st_F F 8 r9)))) 62 [some (.ref 0), some (.int (nI (b + n)))] [] 15 (hM (PM I (nI (b + (2 + 4 * p))) (F 3 (b + 1) - 48) (nI p)) (st_F F 8 r)) 0 0 := by
      intro h6 hend
      refine aw_aload_n dX9_readLine_62 rfl rfl ?_
      refine aw_iload_n dX9_readLine_63 rfl rfl ?_
      refine aw_bipush (v := (59)) dX9_readLine_64 (by decide) ?_
      refine aw_callV cw_X9_isSign ml_X9_107 im_X9_isSign sl_X9_X9_isSign rfl (by decide) he_PM (c_X9_isSign I (st_F F 8 r) hb (a := b + (2 + 4 * p)) (by omega) 59 (F 3 (b + 1) - 48) (nI p)) ⟨Nat.le_of_ble_eq_true rfl, Nat.le_of_ble_eq_true rfl⟩ ⟨Nat.zero_le _, Nat.zero_le _⟩ rfl rfl (Nat.le_of_ble_eq_true rfl) dX9_readLine_66 ?_
      rintro _ _ ⟨rfl, rfl⟩
      rw [show okS (st_F F 8 r) (b + n) (b + (2 + 4 * p)) 59 = okS F (b + n) (b + (2 + 4 * p)) 59 from rfl]
      refine aw_ifB_eq (tgt := 80) dX9_readLine_69 (by decide) (fun c_69 => ?_) (fun c_69 => ?_)
      · refine aw_iconst (v := 0) dX9_readLine_80 (by decide) ?_
        refine aw_zret dX9_readLine_81 (by first | rfl | exact aw_nb _) (Nat.zero_le _) (Nat.zero_le _) ?_
        have hs := ff_stop (rd := (fun j => F 3 (b + j))) hn (t := 2 + 4 * p) (by omega) (by rw [fit_0 h6, ← ok_S]; exact c_69) (by omega)
        rw [c_69]
        exact ⟨rfl, Or.inr ⟨2 + 4 * p, _, _, _, by omega, by rw [← hq, hs], rfl, rfl⟩⟩
      · refine aw_aload_n dX9_readLine_72 rfl rfl ?_
        refine aw_iload_n dX9_readLine_73 rfl rfl ?_
        obtain ⟨hlt0, hg0⟩ := ff_go (rd := (fun j => F 3 (b + j))) (n := n) (t := 2 + 4 * p) (e := ffE (nI n)) (by rw [fit_0 h6, ← ok_S]; exact c_69)
        simp only [c_69, ↓reduceIte]
        rw [show b + (2 + 4 * p) + 1 = b + (3 + 4 * p) by omega]
        refine aw_callV cw_X9_readPerson ml_X9_114 im_X9_readPerson sl_X9_X9_readPerson rfl (by decide) he_PM (c_X9_readPerson I F hb (a := b + (3 + 4 * p)) (by omega) h6 (F 3 (b + 1) - 48) r) ⟨Nat.le_of_ble_eq_true rfl, Nat.le_of_ble_eq_true rfl⟩ ⟨Nat.zero_le _, Nat.zero_le _⟩ rfl rfl (Nat.le_of_ble_eq_true rfl) dX9_readLine_74 ?_
        intro v9 h9 hq9
        rcases rp_4 hq9 with ⟨k1, k2, k3, rfl, rfl⟩ | ⟨k1, k2, k3, rfl, p9, r9, rfl⟩ | ⟨k1, k2, rfl, p9, r9, rfl⟩ | ⟨k1, rfl, p9, r9, rfl⟩
        · rw [show 2 + 4 * p + 1 = 3 + 4 * p by omega] at hg0
          rw [ok_K, ← fit_1 h6] at k1
          rw [show b + (3 + 4 * p) + 1 = b + (4 + 4 * p) by omega, ok_D, ← fit_2 h6] at k2
          rw [show b + (3 + 4 * p) + 2 = b + (5 + 4 * p) by omega, ok_D, ← fit_3 h6] at k3
          obtain ⟨hlt1, hg1⟩ := ff_go (rd := (fun j => F 3 (b + j))) (n := n) (t := 3 + 4 * p) (e := ffE (nI n)) k1
          rw [show 3 + 4 * p + 1 = 4 + 4 * p by omega] at hg1
          obtain ⟨hlt2, hg2⟩ := ff_go (rd := (fun j => F 3 (b + j))) (n := n) (t := 4 + 4 * p) (e := ffE (nI n)) k2
          rw [show 4 + 4 * p + 1 = 5 + 4 * p by omega] at hg2
          obtain ⟨hlt3, hg3⟩ := ff_go (rd := (fun j => F 3 (b + j))) (n := n) (t := 5 + 4 * p) (e := ffE (nI n)) k3
          refine aw_if_ne (tgt := 37) dX9_readLine_77 (by decide) (fun _ => ?_) (fun c9 => absurd c9 (by decide))
          rw [show b + (3 + 4 * p) + 3 = b + (2 + 4 * (p + 1)) by omega]
          exact ih (m - 1) (by omega) (p + 1) _ (by omega) (by omega) (RF_s hr) (by rw [← hq, hg0, hg1, hg2, hg3, show 5 + 4 * p + 1 = 2 + 4 * (p + 1) by omega])
        · rw [show 2 + 4 * p + 1 = 3 + 4 * p by omega] at hg0
          rw [ok_K, ← fit_1 h6] at k1
          rw [show b + (3 + 4 * p) + 1 = b + (4 + 4 * p) by omega, ok_D, ← fit_2 h6] at k2
          rw [show b + (3 + 4 * p) + 2 = b + (5 + 4 * p) by omega, ok_D, ← fit_3 h6] at k3
          obtain ⟨hlt1, hg1⟩ := ff_go (rd := (fun j => F 3 (b + j))) (n := n) (t := 3 + 4 * p) (e := ffE (nI n)) k1
          rw [show 3 + 4 * p + 1 = 4 + 4 * p by omega] at hg1
          obtain ⟨hlt2, hg2⟩ := ff_go (rd := (fun j => F 3 (b + j))) (n := n) (t := 4 + 4 * p) (e := ffE (nI n)) k2
          rw [show 4 + 4 * p + 1 = 5 + 4 * p by omega] at hg2
          have hs := ff_stop (rd := (fun j => F 3 (b + j))) hn (t := 5 + 4 * p) (by omega) k3 (by omega)
          rw [show b + (3 + 4 * p) + 2 = b + (5 + 4 * p) by omega]
          refine aw_if_ne (tgt := 37) dX9_readLine_77 (by decide) (fun c9 => absurd rfl c9) (fun _ => ?_)
          refine aw_iconst (v := 0) dX9_readLine_80 (by decide) ?_
          refine aw_zret dX9_readLine_81 (by first | rfl | exact aw_nb _) (Nat.zero_le _) (Nat.zero_le _) ?_
          exact ⟨rfl, Or.inr ⟨5 + 4 * p, _, _, _, by omega, by rw [← hq, hg0, hg1, hg2, hs], rfl, rfl⟩⟩
        · rw [show 2 + 4 * p + 1 = 3 + 4 * p by omega] at hg0
          rw [ok_K, ← fit_1 h6] at k1
          rw [show b + (3 + 4 * p) + 1 = b + (4 + 4 * p) by omega, ok_D, ← fit_2 h6] at k2
          obtain ⟨hlt1, hg1⟩ := ff_go (rd := (fun j => F 3 (b + j))) (n := n) (t := 3 + 4 * p) (e := ffE (nI n)) k1
          rw [show 3 + 4 * p + 1 = 4 + 4 * p by omega] at hg1
          have hs := ff_stop (rd := (fun j => F 3 (b + j))) hn (t := 4 + 4 * p) (by omega) k2 (by omega)
          rw [show b + (3 + 4 * p) + 1 = b + (4 + 4 * p) by omega]
          refine aw_if_ne (tgt := 37) dX9_readLine_77 (by decide) (fun c9 => absurd rfl c9) (fun _ => ?_)
          refine aw_iconst (v := 0) dX9_readLine_80 (by decide) ?_
          refine aw_zret dX9_readLine_81 (by first | rfl | exact aw_nb _) (Nat.zero_le _) (Nat.zero_le _) ?_
          exact ⟨rfl, Or.inr ⟨4 + 4 * p, _, _, _, by omega, by rw [← hq, hg0, hg1, hs], rfl, rfl⟩⟩
        · rw [show 2 + 4 * p + 1 = 3 + 4 * p by omega] at hg0
          rw [ok_K, ← fit_1 h6] at k1
          have hs := ff_stop (rd := (fun j => F 3 (b + j))) hn (t := 3 + 4 * p) (by omega) k1 (by omega)
          refine aw_if_ne (tgt := 37) dX9_readLine_77 (by decide) (fun c9 => absurd rfl c9) (fun _ => ?_)
          refine aw_iconst (v := 0) dX9_readLine_80 (by decide) ?_
          refine aw_zret dX9_readLine_81 (by first | rfl | exact aw_nb _) (Nat.zero_le _) (Nat.zero_le _) ?_
          exact ⟨rfl, Or.inr ⟨3 + 4 * p, _, _, _, by omega, by rw [← hq, hg0, hs], rfl, rfl⟩⟩
    skip
    refine aw_aload_n dX9_readLine_37 rfl rfl ?_
    refine aw_get fd_X9_95_9 dX9_readLine_38 (by decide) he_PM rfl ?_
    refine aw_iconst (v := 2) dX9_readLine_41 (by decide) ?_
    refine aw_icmp_lt (tgt := 62) dX9_readLine_42 (by decide) (fun c_42 => ?_) (fun c_42 => ?_)
    · first
        | exact B (by
            have := lp_9 (b := 2) (by omega) (by decide) c_42
            omega) (fun _ => lp_9 (b := 2) (by omega) (by decide) c_42)
        | exact B (Classical.byContradiction fun q9 => c_51 (nI_le (a := 6) (by omega) (by omega))) (fun e9 => absurd (show nI (b + n) ≤ nI (b + (2 + 4 * p)) from by rw [e9]; exact Int32.le_refl _) c_59)
    · refine aw_aload_n dX9_readLine_45 rfl rfl ?_
      refine aw_get fd_X9_95_9 dX9_readLine_46 (by decide) he_PM rfl ?_
      refine aw_bipush (v := (6)) dX9_readLine_49 (by decide) ?_
      refine aw_icmp_ge (tgt := 82) dX9_readLine_51 (by decide) (fun c_51 => ?_) (fun c_51 => ?_)
      · have hp6 : p = 6 := by
          have : 6 ≤ p := (nI_leI (a := 6) (by decide) (by omega)).mp c_51
          omega
        subst hp6
        refine aw_aload_n dX9_readLine_82 rfl rfl ?_
        refine aw_get fd_X9_65_9 dX9_readLine_83 (by decide) he_PM rfl ?_
        refine aw_iload_n dX9_readLine_86 rfl rfl ?_
        refine aw_icmp_ne (tgt := 94) dX9_readLine_87 (by decide) (fun c_87 => ?_) (fun c_87 => ?_)
        · refine aw_iconst (v := 0) dX9_readLine_94 (by decide) ?_
          refine aw_zret dX9_readLine_95 (by first | rfl | exact aw_nb _) (Nat.zero_le _) (Nat.zero_le _) ?_
          have hn26 : n ≠ 26 := fun e => c_87 (by rw [e])
          have hs := ff_stop (rd := (fun j => F 3 (b + j))) hn (t := 26) (by omega) (by rw [fit_26, Bool.and_false]) (by omega)
          exact ⟨rfl, Or.inr ⟨26, _, _, _, by omega, by rw [← hq]; exact hs, rfl, rfl⟩⟩
        · refine aw_iconst (v := 1) dX9_readLine_90 (by decide) ?_
          refine aw_goto (tgt := 95) dX9_readLine_91 (by decide) ?_
          refine aw_zret dX9_readLine_95 (by first | rfl | exact aw_nb _) (Nat.zero_le _) (Nat.zero_le _) ?_
          have hn26 : n = 26 := by
            have := (nI_eq (by omega) (by omega)).mp c_87
            omega
          subst hn26
          exact ⟨rfl, Or.inl ⟨by rw [← hq]; rfl, rfl, 6, r, rfl, by omega, by omega, rfl, hr⟩⟩
      · refine aw_aload_n dX9_readLine_54 rfl rfl ?_
        refine aw_get fd_X9_65_9 dX9_readLine_55 (by decide) he_PM rfl ?_
        refine aw_iload_n dX9_readLine_58 rfl rfl ?_
        refine aw_icmp_ge (tgt := 82) dX9_readLine_59 (by decide) (fun c_59 => ?_) (fun c_59 => ?_)
        · have hnp : n = 2 + 4 * p := by
            have := (nI_leI (a := b + n) (by omega) (by omega)).mp c_59
            omega
          have hp2 : 2 ≤ p := Classical.byContradiction fun q9 => c_42 (nI_lt (b := 2) (by omega) (by decide))
          refine aw_aload_n dX9_readLine_82 rfl rfl ?_
          refine aw_get fd_X9_65_9 dX9_readLine_83 (by decide) he_PM rfl ?_
          refine aw_iload_n dX9_readLine_86 rfl rfl ?_
          refine aw_icmp_ne (tgt := 94) dX9_readLine_87 (by decide) (fun c_87 => ?_) (fun c_87 => ?_)
          · refine aw_iconst (v := 0) dX9_readLine_94 (by decide) ?_
            refine aw_zret dX9_readLine_95 (by first | rfl | exact aw_nb _) (Nat.zero_le _) (Nat.zero_le _) ?_
            exact absurd (by rw [hnp]) c_87
          · refine aw_iconst (v := 1) dX9_readLine_90 (by decide) ?_
            refine aw_goto (tgt := 95) dX9_readLine_91 (by decide) ?_
            refine aw_zret dX9_readLine_95 (by first | rfl | exact aw_nb _) (Nat.zero_le _) (Nat.zero_le _) ?_
            refine ⟨rfl, Or.inl ⟨?_, rfl, p, r, hnp, hp2, by omega, by rw [hnp], hr⟩⟩
            rw [← hq, ← hnp, Nat.sub_self, ffN]
            exact ffE_yes ⟨n, by omega⟩ (by simp only; omega) (by simp only; omega)
        · first
            | exact B (by
                have := lp_9 (b := 2) (by omega) (by decide) c_42
                omega) (fun _ => lp_9 (b := 2) (by omega) (by decide) c_42)
            | exact B (Classical.byContradiction fun q9 => c_51 (nI_le (a := 6) (by omega) (by omega))) (fun e9 => absurd (show nI (b + n) ≤ nI (b + (2 + 4 * p)) from by rw [e9]; exact Int32.le_refl _) c_59)
set_option maxRecDepth 100000 in
set_option maxHeartbeats 4000000 in
theorem c_X9_readLine {l : Launch} {D : va_G} {tc : Nat → ClassId} (I F : Nat → Nat → Int32) {b n : Nat} (hb : b + n ≤ 240) (hn : n ≤ 60) (R : Int32) (g p : Int32) (r : Nat → Int32) (hR : ffN (fun j => F 3 (b + j)) (ffE (nI n)) 0 n = R) : AM l D tc yX9_readLine cX9_readLine 2 (some .boolean) 3 66 0 0 [.ref 0, .int (nI (b + n))] 15 (hM (PM I (nI b) g p) (st_F F 8 r)) (fun v n1 h1 => n1 = 15 ∧ ((R = -9 ∧ v = some (.int 1) ∧ ∃ c r9, n = 2 + 4 * c ∧ 2 ≤ c ∧ c ≤ 6 ∧ h1 = hM (PM I (nI (b + n)) (F 3 (b + 1) - 48) (nI c)) (st_F F 8 r9) ∧ RF F b r9 c) ∨ (∃ t g9 p9 r9, t ≤ 60 ∧ R = nI t ∧ v = some (.int 0) ∧ h1 = hM (PM I (nI (b + t)) g9 p9) (st_F F 8 r9)))) := by
  refine am_of (L := [some (.ref 0), some (.int (nI (b + n)))]) (by decide +kernel) (Nat.le_of_ble_eq_true rfl) rfl ?_
  refine aw_aload_n dX9_readLine_0 rfl rfl ?_
  refine aw_iconst (v := 0) dX9_readLine_1 (by decide) ?_
  refine aw_putI fp_X9_95_9 dX9_readLine_2 (by decide) he_PM rfl rfl (Nat.le_of_ble_eq_true rfl) rfl (PM_p _ _ _ _ _) ?_
  refine aw_aload_n dX9_readLine_5 rfl rfl ?_
  refine aw_iload_n dX9_readLine_6 rfl rfl ?_
  refine aw_bipush (v := (109)) dX9_readLine_7 (by decide) ?_
  refine aw_callV cw_X9_isSign ml_X9_107 im_X9_isSign sl_X9_X9_isSign rfl (by decide) he_PM (c_X9_isSign I (st_F F 8 r) hb (a := b) (by omega) 109 g 0) ⟨Nat.le_of_ble_eq_true rfl, Nat.le_of_ble_eq_true rfl⟩ ⟨Nat.zero_le _, Nat.zero_le _⟩ rfl rfl (Nat.le_of_ble_eq_true rfl) dX9_readLine_9 ?_
  rintro _ _ ⟨rfl, rfl⟩
  rw [show okS (st_F F 8 r) (b + n) (b) 109 = okS F (b + n) (b) 109 from rfl]
  refine aw_ifB_ne (tgt := 17) dX9_readLine_12 (by decide) (fun c_12 => ?_) (fun c_12 => ?_)
  · refine aw_aload_n dX9_readLine_17 rfl rfl ?_
    refine aw_aload_n dX9_readLine_18 rfl rfl ?_
    refine aw_iload_n dX9_readLine_19 rfl rfl ?_
    rw [c_12]
    rw [show (if true = true then b + 1 else b) = b + 1 from rfl]
    obtain ⟨hlt0, hg0⟩ := ff_go (rd := (fun j => F 3 (b + j))) (n := n) (t := 0) (e := ffE (nI n)) (by have := c_12; rw [show b = b + 0 from rfl, Nat.add_zero, show okS F (b + n) b 109 = okS F (b + n) (b + 0) 109 from rfl, ok_S] at this; exact this)
    refine aw_callV cw_X9_digit ml_X9_111 im_X9_digit sl_X9_X9_digit rfl (by decide) he_PM (c_X9_digit I (st_F F 8 r) hb (a := b + 1) (by omega) g 0) ⟨Nat.le_of_ble_eq_true rfl, Nat.le_of_ble_eq_true rfl⟩ ⟨Nat.zero_le _, Nat.zero_le _⟩ rfl rfl (Nat.le_of_ble_eq_true rfl) dX9_readLine_20 ?_
    rintro _ _ ⟨rfl, rfl⟩
    rw [show okD (st_F F 8 r) (b + n) (b + 1) = okD F (b + n) (b + 1) from rfl, show st_F F 8 r 3 (b + 1) = F 3 (b + 1) from rfl]
    refine aw_putI fp_X9_89_9 dX9_readLine_23 (by decide) he_PM rfl rfl (Nat.le_of_ble_eq_true rfl) rfl (PM_g _ _ _ _ _) ?_
    refine aw_aload_n dX9_readLine_26 rfl rfl ?_
    refine aw_get fd_X9_89_9 dX9_readLine_27 (by decide) he_PM rfl ?_
    refine aw_bipush (v := (-9)) dX9_readLine_30 (by decide) ?_
    refine aw_icmp_ne (tgt := 37) dX9_readLine_32 (by decide) (fun c_32 => ?_) (fun c_32 => ?_)
    · have hk : okD F (b + n) (b + 1) = true := by
        cases q9 : okD F (b + n) (b + 1)
        · rw [q9] at c_32
          exact absurd rfl c_32
        · rfl
      obtain ⟨hlt1, hg1⟩ := ff_go (rd := (fun j => F 3 (b + j))) (n := n) (t := 1) (e := ffE (nI n)) (by rw [fit_d, ← ok_D]; exact hk)
      simp only [hk, ↓reduceIte]
      exact lp_X9_readLine I F hb hn R 6 0 r (by omega) (by omega) (fun q h => absurd h (by omega)) (by rw [← hR]; exact (hg0.trans hg1).symm)
    · refine aw_iconst (v := 0) dX9_readLine_35 (by decide) ?_
      refine aw_zret dX9_readLine_36 (by first | rfl | exact aw_nb _) (Nat.zero_le _) (Nat.zero_le _) ?_
      have hk : okD F (b + n) (b + 1) = false := by
        cases q9 : okD F (b + n) (b + 1)
        · rfl
        · rw [q9] at c_32
          exact absurd c_32 (sDig_n9 (by
            unfold okD at q9
            simp only [Bool.and_eq_true] at q9
            exact q9.2))
      have hs := ff_stop (rd := (fun j => F 3 (b + j))) hn (t := 1) (by omega) (by rw [fit_d, ← ok_D]; exact hk) (by omega)
      rw [hk]
      exact ⟨rfl, Or.inr ⟨1, _, _, _, by omega, by rw [← hR]; exact hg0.trans hs, rfl, rfl⟩⟩
  · refine aw_iconst (v := 0) dX9_readLine_15 (by decide) ?_
    refine aw_zret dX9_readLine_16 (by first | rfl | exact aw_nb _) (Nat.zero_le _) (Nat.zero_le _) ?_
    have hs := ff_stop (rd := (fun j => F 3 (b + j))) hn (t := 0) (by omega) (by rw [fit_m, ← ok_S]; exact c_12) (by omega)
    rw [c_12]
    exact ⟨rfl, Or.inr ⟨0, _, _, _, by omega, by rw [← hR]; exact hs, rfl, rfl⟩⟩
