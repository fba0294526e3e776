/-! readings, and the lift -/
def rdSo (my wh fa on : Nat → Int32) (k : Nat) : Bool := decide (b2i (decide (¬ my (wh k).toNatClampNeg ≤ fa k)) = on k)
def rdAll (my wh fa on : Nat → Int32) : Nat → Bool
  | 0 => true
  | n + 1 => rdAll my wh fa on n && rdSo my wh fa on n
theorem rdAll_no {my wh fa on : Nat → Int32} {k c : Nat} (hk : k < c) (h : rdSo my wh fa on k = false) : rdAll my wh fa on c = false := by
  induction c with
  | zero => omega
  | succ c ih =>
    rw [rdAll]
    by_cases e : k = c
    · subst e
      simp [h]
    · simp [ih (by omega)]
def L3 (I : Nat → Nat → Int32) (f h s : Int32) : Nat → Nat → Int32 := fun a k => if a = 4 then (if k = 2 then f else if k = 3 then h else if k = 4 then s else I a k) else I a k
theorem L3_f (I : Nat → Nat → Int32) (f h s x : Int32) : st_I (L3 I f h s) 4 2 x = L3 I x h s := by
  funext a k
  unfold st_I L3 upd
  by_cases e : a = 4
  · subst e
    by_cases e2 : k = 2 <;> simp [e2]
  · simp [e]
theorem L3_h (I : Nat → Nat → Int32) (f h s x : Int32) : st_I (L3 I f h s) 4 3 x = L3 I f x s := by
  funext a k
  unfold st_I L3 upd
  by_cases e : a = 4
  · subst e
    by_cases e2 : k = 3 <;> simp [e2]
  · simp [e]
theorem L3_s (I : Nat → Nat → Int32) (f h s x : Int32) : st_I (L3 I f h s) 4 4 x = L3 I f h x := by
  funext a k
  unfold st_I L3 upd
  by_cases e : a = 4
  · subst e
    by_cases e2 : k = 4 <;> simp [e2]
  · simp [e]
theorem L3_L3 (I : Nat → Nat → Int32) (f h s f' h' s' : Int32) : L3 (L3 I f h s) f' h' s' = L3 I f' h' s' := by
  funext a k
  unfold L3
  by_cases e : a = 4
  · subst e
    by_cases e2 : k = 2
    · simp [e2]
    · by_cases e3 : k = 3
      · simp [e3]
      · by_cases e4 : k = 4 <;> simp [e2, e3, e4]
  · simp [e]
theorem L3_I (I : Nat → Nat → Int32) : I = L3 I (I 4 2) (I 4 3) (I 4 4) := by
  funext a k
  unfold L3
  by_cases e : a = 4
  · subst e
    by_cases e2 : k = 2
    · simp [e2]
    · by_cases e3 : k = 3
      · simp [e3]
      · by_cases e4 : k = 4 <;> simp [e2, e3, e4]
  · simp [e]
theorem he_L3 {pk : Nat → Nat} {G : Nat → Option Nat} {I F : Nat → Nat → Int32} {f h s : Int32} : hC pk G (L3 I f h s) F 4 = .inr (2, [.ref 5, .ref 6, .int f, .int h, .int s]) := rfl
/-- one person's turn: far, head, second, whether anybody stepped -/
def stp (my : Nat → Int32) (set : Int32) (i : Nat) (q : Int32 × Int32 × Int32 × Int32) : Int32 × Int32 × Int32 × Int32 :=
  if nI i = q.2.1 then q else if sHas set (nI i) = false then q else if my i ≤ q.1 then q else (q.1 + 1, nI i, q.2.1, 1)
def rndN (my : Nat → Int32) (set : Int32) (q : Int32 × Int32 × Int32 × Int32) : Nat → Int32 × Int32 × Int32 × Int32
  | 0 => q
  | i + 1 => stp my set i (rndN my set q i)
/-- after some rounds; it stands once nobody stepped -/
def itN (my : Nat → Int32) (set : Int32) : Nat → Int32 × Int32 × Int32 × Int32
  | 0 => (0, -9, -9, 1)
  | r + 1 => if (itN my set r).2.2.2 = 0 then itN my set r else rndN my set ((itN my set r).1, (itN my set r).2.1, (itN my set r).2.2.1, 0) 6
theorem itN_stop {my : Nat → Int32} {set : Int32} {r : Nat} (h : (itN my set r).2.2.2 = 0) : ∀ k, itN my set (r + k) = itN my set r
  | 0 => rfl
  | k + 1 => by
    have ih := itN_stop h k
    show itN my set ((r + k) + 1) = _
    rw [itN, ih, if_pos h]
def sCall (my : Nat → Int32) (set : Int32) : Int32 × Int32 × Int32 × Int32 := itN my set 19
def lstN (set : Int32) : Nat → Nat → Int32
  | _, 0 => -9
  | i, m + 1 => if sHas set (nI i) then nI i else lstN set (i + 1) m
def sLst (set : Int32) : Int32 := lstN set 0 6
def sDown (my : Nat → Int32) (set : Int32) : Int32 := if (sCall my set).2.1 = -9 then sLst set else (sCall my set).2.1

set_option maxRecDepth 100000 in
set_option maxHeartbeats 4000000 in
theorem lp_X2_goesRound {l : Launch} {D : va_G} {tc : Nat → ClassId} (pk : Nat → Nat) (G : Nat → Option Nat) (I F : Nat → Nat → Int32) (n : Nat) (hn : 30 ≤ n) (x : Int32) (q0 : Int32 × Int32 × Int32 × Int32) (hnb0 : ∀ b : Int32, (rndN (F 3) x q0 6).2.2.2 = b → narrow .boolean (.int b) = .int b) : ∀ (m i : Nat) (f h s b : Int32), i + m = 6 → rndN (F 3) x q0 i = (f, h, s, b) → AW l D tc yX2_goesRound.cls cX2_goesRound 5 (some .boolean) { frames := 2, cells := 0, slots := 0, locals := 41 } n 0 0 (fun v n1 h1 => n1 = n ∧ (v = some (.int (rndN (F 3) x q0 6).2.2.2) ∧ h1 = hC pk G (L3 I (rndN (F 3) x q0 6).1 (rndN (F 3) x q0 6).2.1 (rndN (F 3) x q0 6).2.2.1) F)) 5 [some (.ref 4), some (.ref 3), some (.int x), some (.int b), some (.int (nI i))] [] n (hC pk G (L3 I f h s) F) 0 0 := by
  intro m
  induction m using Nat.strongRecOn with
  | _ m ih =>
    intro i f h s b hi hq
    refine aw_iload dX2_goesRound_5 rfl ?_
    refine aw_aload_n dX2_goesRound_7 rfl rfl ?_
    refine aw_alen (v := 6) dX2_goesRound_8 (by omega) rfl (by decide) ?_
    refine aw_icmp_ge (tgt := 73) dX2_goesRound_9 (by decide) (fun c_9 => ?_) (fun c_9 => ?_)
    · have hi6 := lp_ge (N := 6) (by decide) (by omega) c_9
      subst hi6
      refine aw_iload_n dX2_goesRound_73 rfl rfl ?_
      refine aw_zret dX2_goesRound_74 (hnb0 b (by rw [hq])) (Nat.zero_le _) (Nat.zero_le _) ?_
      rw [hq]
      exact ⟨rfl, rfl, rfl⟩
    · have hi6 := lp_lt (N := 6) (by omega) c_9
      refine aw_iload dX2_goesRound_12 rfl ?_
      refine aw_aload_n dX2_goesRound_14 rfl rfl ?_
      refine aw_get fd_X2_22_2 dX2_goesRound_15 (by omega) he_L3 rfl ?_
      refine aw_icmp_eq (tgt := 67) dX2_goesRound_18 (by decide) (fun c_18 => ?_) (fun c_18 => ?_)
      · refine aw_iinc (v := 1) dX2_goesRound_67 rfl (by decide) (by decide) rfl ?_
        refine aw_goto (tgt := 5) dX2_goesRound_70 (by decide) ?_
        rw [nI_1]
        exact ih (m - 1) (by omega) (i + 1) _ _ _ _ (by omega) (by rw [rndN, hq]; (try simp only [b2i_eq0, b2i_ne0] at *); simp [stp, *])
      · refine aw_iload_n dX2_goesRound_21 rfl rfl ?_
        refine aw_iload dX2_goesRound_22 rfl ?_
        refine aw_callSN (host := RX8) cw_X8_has (by decide +kernel) sm_X8_has (c_X8_has _ _ _ _) ⟨Nat.le_of_ble_eq_true rfl, Nat.le_of_ble_eq_true rfl⟩ ⟨Nat.zero_le _, Nat.zero_le _⟩ rfl rfl (Nat.le_of_ble_eq_true rfl) dX2_goesRound_24 ?_
        rintro _ _ ⟨rfl, rfl⟩
        refine aw_if_eq (tgt := 67) dX2_goesRound_27 (by decide) (fun c_27 => ?_) (fun c_27 => ?_)
        · refine aw_iinc (v := 1) dX2_goesRound_67 rfl (by decide) (by decide) rfl ?_
          refine aw_goto (tgt := 5) dX2_goesRound_70 (by decide) ?_
          rw [nI_1]
          exact ih (m - 1) (by omega) (i + 1) _ _ _ _ (by omega) (by rw [rndN, hq]; (try simp only [b2i_eq0, b2i_ne0] at *); simp [stp, *])
        · refine aw_aload_n dX2_goesRound_30 rfl rfl ?_
          refine aw_iload dX2_goesRound_31 rfl ?_
          refine aw_iald dX2_goesRound_33 (by omega) rfl (vp_in_nI hi6 (by decide)) ?_
          rw [nI_clamp (show i < 2 ^ 31 by omega)]
          refine aw_aload_n dX2_goesRound_34 rfl rfl ?_
          refine aw_get fd_X2_18_2 dX2_goesRound_35 (by omega) he_L3 rfl ?_
          refine aw_icmp_le (tgt := 67) dX2_goesRound_38 (by decide) (fun c_38 => ?_) (fun c_38 => ?_)
          · refine aw_iinc (v := 1) dX2_goesRound_67 rfl (by decide) (by decide) rfl ?_
            refine aw_goto (tgt := 5) dX2_goesRound_70 (by decide) ?_
            rw [nI_1]
            exact ih (m - 1) (by omega) (i + 1) _ _ _ _ (by omega) (by rw [rndN, hq]; (try simp only [b2i_eq0, b2i_ne0] at *); simp [stp, *])
          · refine aw_aload_n dX2_goesRound_41 rfl rfl ?_
            refine aw_dup dX2_goesRound_42 rfl ?_
            refine aw_get fd_X2_18_2 dX2_goesRound_43 (by omega) he_L3 rfl ?_
            refine aw_iconst (v := 1) dX2_goesRound_46 (by decide) ?_
            refine aw_iadd dX2_goesRound_47 ?_
            refine aw_putI fp_X2_18_2 dX2_goesRound_48 (by omega) he_L3 rfl rfl (Nat.le_of_ble_eq_true rfl) rfl (L3_f _ _ _ _ _) ?_
            refine aw_aload_n dX2_goesRound_51 rfl rfl ?_
            refine aw_aload_n dX2_goesRound_52 rfl rfl ?_
            refine aw_get fd_X2_22_2 dX2_goesRound_53 (by omega) he_L3 rfl ?_
            refine aw_putI fp_X2_25_2 dX2_goesRound_56 (by omega) he_L3 rfl rfl (Nat.le_of_ble_eq_true rfl) rfl (L3_s _ _ _ _ _) ?_
            refine aw_aload_n dX2_goesRound_59 rfl rfl ?_
            refine aw_iload dX2_goesRound_60 rfl ?_
            refine aw_putI fp_X2_22_2 dX2_goesRound_62 (by omega) he_L3 rfl rfl (Nat.le_of_ble_eq_true rfl) rfl (L3_h _ _ _ _ _) ?_
            refine aw_iconst (v := 1) dX2_goesRound_65 (by decide) ?_
            refine aw_istore_n dX2_goesRound_66 rfl (by decide) rfl ?_
            refine aw_iinc (v := 1) dX2_goesRound_67 rfl (by decide) (by decide) rfl ?_
            refine aw_goto (tgt := 5) dX2_goesRound_70 (by decide) ?_
            rw [nI_1]
            exact ih (m - 1) (by omega) (i + 1) _ _ _ _ (by omega) (by rw [rndN, hq]; (try simp only [b2i_eq0, b2i_ne0] at *); simp [stp, *])
theorem stp_b {my : Nat → Int32} {set : Int32} {i : Nat} {q : Int32 × Int32 × Int32 × Int32} (h : q.2.2.2 = 0 ∨ q.2.2.2 = 1) : (stp my set i q).2.2.2 = 0 ∨ (stp my set i q).2.2.2 = 1 := by
  unfold stp
  split
  · exact h
  · split
    · exact h
    · split
      · exact h
      · exact Or.inr rfl
theorem rndN_b {my : Nat → Int32} {set : Int32} {q : Int32 × Int32 × Int32 × Int32} (h : q.2.2.2 = 0 ∨ q.2.2.2 = 1) : ∀ i, (rndN my set q i).2.2.2 = 0 ∨ (rndN my set q i).2.2.2 = 1
  | 0 => h
  | i + 1 => stp_b (rndN_b h i)
theorem nb01 {b : Int32} (h : b = 0 ∨ b = 1) : narrow .boolean (.int b) = .int b := by rcases h with rfl | rfl <;> rfl
set_option maxRecDepth 100000 in
set_option maxHeartbeats 4000000 in
theorem c_X2_goesRound {l : Launch} {D : va_G} {tc : Nat → ClassId} (pk : Nat → Nat) (G : Nat → Option Nat) (I F : Nat → Nat → Int32) (n : Nat) (hn : 30 ≤ n) (x f h s : Int32) : AM l D tc yX2_goesRound cX2_goesRound 5 (some .boolean) 2 41 0 0 [.ref 4, .ref 3, .int x] n (hC pk G (L3 I f h s) F) (fun v n1 h1 => n1 = n ∧ (v = some (.int (rndN (F 3) x (f, h, s, 0) 6).2.2.2) ∧ h1 = hC pk G (L3 I (rndN (F 3) x (f, h, s, 0) 6).1 (rndN (F 3) x (f, h, s, 0) 6).2.1 (rndN (F 3) x (f, h, s, 0) 6).2.2.1) F)) := by
  refine am_of (L := [some (.ref 4), some (.ref 3), some (.int x), none, none]) (by decide +kernel) (Nat.le_of_ble_eq_true rfl) rfl ?_
  refine aw_iconst (v := 0) dX2_goesRound_0 (by decide) ?_
  refine aw_istore_n dX2_goesRound_1 rfl (by decide) rfl ?_
  refine aw_iconst (v := 0) dX2_goesRound_2 (by decide) ?_
  refine aw_istore dX2_goesRound_3 (by decide) rfl ?_
  exact lp_X2_goesRound pk G I F n hn x (f, h, s, 0) (fun b hb => nb01 (hb ▸ rndN_b (Or.inl rfl) 6)) 6 0 f h s 0 (by omega) rfl
set_option maxRecDepth 100000 in
set_option maxHeartbeats 4000000 in
theorem lp_X2_leastOf {l : Launch} {D : va_G} {tc : Nat → ClassId} (x r : Int32) (n : Nat) (h : aw_H) : ∀ (m i : Nat), i + m = 6 → lstN x i m = r → AW l D tc yX2_leastOf.cls cX2_leastOf 2 (some .int) { frames := 2, cells := 0, slots := 0, locals := 41 } n 0 0 (fun v n1 h1 => n1 = n ∧ (v = some (.int r) ∧ h1 = h)) 2 [some (.int x), some (.int (nI i))] [] n h 0 0 := by
  intro m
  induction m using Nat.strongRecOn with
  | _ m ih =>
    intro i hi hq
    refine aw_iload_n dX2_leastOf_2 rfl rfl ?_
    refine aw_bipush (v := (6)) dX2_leastOf_3 (by decide) ?_
    refine aw_icmp_ge (tgt := 24) dX2_leastOf_5 (by decide) (fun c_5 => ?_) (fun c_5 => ?_)
    · have hi6 := lp_ge (N := 6) (by decide) (by omega) c_5
      have hm : m = 0 := by omega
      subst hm
      refine aw_bipush (v := (-9)) dX2_leastOf_24 (by decide) ?_
      refine aw_iret dX2_leastOf_26 (Nat.zero_le _) (Nat.zero_le _) ?_
      refine ⟨rfl, ?_, rfl⟩
      rw [← hq]
      rfl
    · have hi6 := lp_lt (N := 6) (by omega) c_5
      refine aw_iload_n dX2_leastOf_8 rfl rfl ?_
      refine aw_iload_n dX2_leastOf_9 rfl rfl ?_
      refine aw_callSN (host := RX8) cw_X8_has (by decide +kernel) sm_X8_has (c_X8_has _ _ _ _) ⟨Nat.le_of_ble_eq_true rfl, Nat.le_of_ble_eq_true rfl⟩ ⟨Nat.zero_le _, Nat.zero_le _⟩ rfl rfl (Nat.le_of_ble_eq_true rfl) dX2_leastOf_10 ?_
      rintro _ _ ⟨rfl, rfl⟩
      refine aw_if_eq (tgt := 18) dX2_leastOf_13 (by decide) (fun c_13 => ?_) (fun c_13 => ?_)
      · refine aw_iinc (v := 1) dX2_leastOf_18 rfl (by decide) (by decide) rfl ?_
        refine aw_goto (tgt := 2) dX2_leastOf_21 (by decide) ?_
        rw [nI_1]
        exact ih (m - 1) (by omega) (i + 1) (by omega) (by
          obtain ⟨m2, rfl⟩ : ∃ m2, m = m2 + 1 := ⟨m - 1, by omega⟩
          rw [← hq, lstN, if_neg (by rw [(b2i_eq0 _).mp c_13]; decide)]
          rfl)
      · refine aw_iload_n dX2_leastOf_16 rfl rfl ?_
        refine aw_iret dX2_leastOf_17 (Nat.zero_le _) (Nat.zero_le _) ?_
        obtain ⟨m2, rfl⟩ : ∃ m2, m = m2 + 1 := ⟨m - 1, by omega⟩
        refine ⟨rfl, ?_, rfl⟩
        rw [← hq, lstN, if_pos ((b2i_ne0 _).mp c_13)]
set_option maxRecDepth 100000 in
set_option maxHeartbeats 4000000 in
theorem c_X2_leastOf {l : Launch} {D : va_G} {tc : Nat → ClassId} (x : Int32) (n : Nat) (h : aw_H) : AM l D tc yX2_leastOf cX2_leastOf 2 (some .int) 2 41 0 0 [.int x] n h (fun v n1 h1 => n1 = n ∧ (v = some (.int (sLst x)) ∧ h1 = h)) := by
  refine am_of (L := [some (.int x), none]) (by decide +kernel) (Nat.le_of_ble_eq_true rfl) rfl ?_
  refine aw_iconst (v := 0) dX2_leastOf_0 (by decide) ?_
  refine aw_istore_n dX2_leastOf_1 rfl (by decide) rfl ?_
  exact lp_X2_leastOf x (sLst x) n h 6 0 (by omega) rfl
set_option maxRecDepth 100000 in
set_option maxHeartbeats 4000000 in
theorem lp_X2_letDown {l : Launch} {D : va_G} {tc : Nat → ClassId} (pk : Nat → Nat) (G : Nat → Option Nat) (I F : Nat → Nat → Int32) (n : Nat) (hn : 30 ≤ n) (x : Int32) : ∀ (m i : Nat) (f h s b : Int32), i + m = 19 → itN (F 3) x i = (f, h, s, b) → AW l D tc yX2_letDown.cls cX2_letDown 5 (some .int) { frames := 3, cells := 0, slots := 0, locals := 65 } n 0 0 (fun v n1 h1 => n1 = n ∧ (v = some (.int (sDown (F 3) x)) ∧ h1 = hC pk G (L3 I (sCall (F 3) x).1 (sCall (F 3) x).2.1 (sCall (F 3) x).2.2.1) F)) 22 [some (.ref 4), some (.ref 3), some (.int x), some (.int b), some (.int (nI i))] [] n (hC pk G (L3 I f h s) F) 0 0 := by
  intro m
  induction m using Nat.strongRecOn with
  | _ m ih =>
    intro i f h s b hi hq
    refine aw_iload dX2_letDown_22 rfl ?_
    refine aw_bipush (v := (18)) dX2_letDown_24 (by decide) ?_
    refine aw_icmp_gt (tgt := 46) dX2_letDown_26 (by decide) (fun c_26 => ?_) (fun c_26 => ?_)
    · have hi6 : i = 19 := by
        rcases Nat.lt_or_ge 18 i with q | q
        · omega
        · exact absurd c_26 (nI_nlt (b := i) (a := 18) q (by omega))
      have hc : sCall (F 3) x = (f, h, s, b) := by rw [sCall, ← hq, hi6]
      refine aw_aload_n dX2_letDown_46 rfl rfl ?_
      refine aw_get fd_X2_22_2 dX2_letDown_47 (by omega) he_L3 rfl ?_
      refine aw_bipush (v := (-9)) dX2_letDown_50 (by decide) ?_
      refine aw_icmp_ne (tgt := 62) dX2_letDown_52 (by decide) (fun c_52 => ?_) (fun c_52 => ?_)
      · refine aw_aload_n dX2_letDown_62 rfl rfl ?_
        refine aw_get fd_X2_22_2 dX2_letDown_63 (by omega) he_L3 rfl ?_
        refine aw_iret dX2_letDown_66 (Nat.zero_le _) (Nat.zero_le _) ?_
        rw [sDown, hc]
        refine ⟨rfl, ?_, rfl⟩
        simp [*]
      · refine aw_iload_n dX2_letDown_55 rfl rfl ?_
        refine aw_callS cw_X2_leastOf ml_X2_32 sm_X2_leastOf (c_X2_leastOf _ _ _) ⟨Nat.le_of_ble_eq_true rfl, Nat.le_of_ble_eq_true rfl⟩ ⟨Nat.zero_le _, Nat.zero_le _⟩ rfl rfl (Nat.le_of_ble_eq_true rfl) dX2_letDown_56 ?_
        rintro _ _ ⟨rfl, rfl⟩
        refine aw_goto (tgt := 66) dX2_letDown_59 (by decide) ?_
        refine aw_iret dX2_letDown_66 (Nat.zero_le _) (Nat.zero_le _) ?_
        rw [sDown, hc]
        refine ⟨rfl, ?_, rfl⟩
        simp [*]
    · have hi6 : i < 19 := by
        rcases Nat.lt_or_ge i 19 with q | q
        · exact q
        · exact absurd (nI_lt (a := 18) (by omega) (by omega)) c_26
      refine aw_iload_n dX2_letDown_29 rfl rfl ?_
      refine aw_if_eq (tgt := 46) dX2_letDown_30 (by decide) (fun c_30 => ?_) (fun c_30 => ?_)
      · have hc : sCall (F 3) x = (f, h, s, b) := by
          rw [sCall, ← hq, show 19 = i + m by omega]
          exact itN_stop (by rw [hq]; exact c_30) m
        refine aw_aload_n dX2_letDown_46 rfl rfl ?_
        refine aw_get fd_X2_22_2 dX2_letDown_47 (by omega) he_L3 rfl ?_
        refine aw_bipush (v := (-9)) dX2_letDown_50 (by decide) ?_
        refine aw_icmp_ne (tgt := 62) dX2_letDown_52 (by decide) (fun c_52 => ?_) (fun c_52 => ?_)
        · refine aw_aload_n dX2_letDown_62 rfl rfl ?_
          refine aw_get fd_X2_22_2 dX2_letDown_63 (by omega) he_L3 rfl ?_
          refine aw_iret dX2_letDown_66 (Nat.zero_le _) (Nat.zero_le _) ?_
          rw [sDown, hc]
          refine ⟨rfl, ?_, rfl⟩
          simp [*]
        · refine aw_iload_n dX2_letDown_55 rfl rfl ?_
          refine aw_callS cw_X2_leastOf ml_X2_32 sm_X2_leastOf (c_X2_leastOf _ _ _) ⟨Nat.le_of_ble_eq_true rfl, Nat.le_of_ble_eq_true rfl⟩ ⟨Nat.zero_le _, Nat.zero_le _⟩ rfl rfl (Nat.le_of_ble_eq_true rfl) dX2_letDown_56 ?_
          rintro _ _ ⟨rfl, rfl⟩
          refine aw_goto (tgt := 66) dX2_letDown_59 (by decide) ?_
          refine aw_iret dX2_letDown_66 (Nat.zero_le _) (Nat.zero_le _) ?_
          rw [sDown, hc]
          refine ⟨rfl, ?_, rfl⟩
          simp [*]
      · refine aw_aload_n dX2_letDown_33 rfl rfl ?_
        refine aw_aload_n dX2_letDown_34 rfl rfl ?_
        refine aw_iload_n dX2_letDown_35 rfl rfl ?_
        refine aw_callV cw_X2_goesRound ml_X2_28 im_X2_goesRound sl_X2_X2_goesRound rfl (by omega) he_L3 (c_X2_goesRound pk G _ _ n hn _ _ _ _) ⟨Nat.le_of_ble_eq_true rfl, Nat.le_of_ble_eq_true rfl⟩ ⟨Nat.zero_le _, Nat.zero_le _⟩ rfl rfl (Nat.le_of_ble_eq_true rfl) dX2_letDown_36 ?_
        rintro _ _ ⟨rfl, rfl⟩
        refine aw_istore_n dX2_letDown_39 rfl (by decide) rfl ?_
        refine aw_iinc (v := 1) dX2_letDown_40 rfl (by decide) (by decide) rfl ?_
        refine aw_goto (tgt := 22) dX2_letDown_43 (by decide) ?_
        rw [nI_1]
        have e9 : itN (F 3) x (i + 1) = rndN (F 3) x (f, h, s, 0) 6 := by simp only [itN, hq, c_30, if_false]
        generalize rndN (F 3) x (f, h, s, 0) 6 = q at e9 ⊢
        obtain ⟨f2, h2, s2, b2⟩ := q
        exact ih (m - 1) (by omega) (i + 1) _ _ _ _ (by omega) e9
set_option maxRecDepth 100000 in
set_option maxHeartbeats 4000000 in
theorem c_X2_letDown3 {l : Launch} {D : va_G} {tc : Nat → ClassId} (pk : Nat → Nat) (G : Nat → Option Nat) (I F : Nat → Nat → Int32) (n : Nat) (hn : 30 ≤ n) (x f h s : Int32) : AM l D tc yX2_letDown cX2_letDown 5 (some .int) 3 65 0 0 [.ref 4, .ref 3, .int x] n (hC pk G (L3 I f h s) F) (fun v n1 h1 => n1 = n ∧ (v = some (.int (sDown (F 3) x)) ∧ h1 = hC pk G (L3 I (sCall (F 3) x).1 (sCall (F 3) x).2.1 (sCall (F 3) x).2.2.1) F)) := by
  refine am_of (L := [some (.ref 4), some (.ref 3), some (.int x), none, none]) (by decide +kernel) (Nat.le_of_ble_eq_true rfl) rfl ?_
  refine aw_aload_n dX2_letDown_0 rfl rfl ?_
  refine aw_iconst (v := 0) dX2_letDown_1 (by decide) ?_
  refine aw_putI fp_X2_18_2 dX2_letDown_2 (by omega) he_L3 rfl rfl (Nat.le_of_ble_eq_true rfl) rfl (L3_f _ _ _ _ _) ?_
  refine aw_aload_n dX2_letDown_5 rfl rfl ?_
  refine aw_bipush (v := (-9)) dX2_letDown_6 (by decide) ?_
  refine aw_putI fp_X2_22_2 dX2_letDown_8 (by omega) he_L3 rfl rfl (Nat.le_of_ble_eq_true rfl) rfl (L3_h _ _ _ _ _) ?_
  refine aw_aload_n dX2_letDown_11 rfl rfl ?_
  refine aw_bipush (v := (-9)) dX2_letDown_12 (by decide) ?_
  refine aw_putI fp_X2_25_2 dX2_letDown_14 (by omega) he_L3 rfl rfl (Nat.le_of_ble_eq_true rfl) rfl (L3_s _ _ _ _ _) ?_
  refine aw_iconst (v := 1) dX2_letDown_17 (by decide) ?_
  refine aw_istore_n dX2_letDown_18 rfl (by decide) rfl ?_
  refine aw_iconst (v := 0) dX2_letDown_19 (by decide) ?_
  refine aw_istore dX2_letDown_20 (by decide) rfl ?_
  exact lp_X2_letDown pk G I F n hn x 19 0 0 (-9) (-9) 1 (by omega) rfl
theorem c_X2_letDown {l : Launch} {D : va_G} {tc : Nat → ClassId} (pk : Nat → Nat) (G : Nat → Option Nat) (I F : Nat → Nat → Int32) (n : Nat) (hn : 30 ≤ n) (x : Int32) : AM l D tc yX2_letDown cX2_letDown 5 (some .int) 3 65 0 0 [.ref 4, .ref 3, .int x] n (hC pk G I F) (fun v n1 h1 => n1 = n ∧ (v = some (.int (sDown (F 3) x)) ∧ h1 = hC pk G (L3 I (sCall (F 3) x).1 (sCall (F 3) x).2.1 (sCall (F 3) x).2.2.1) F)) := by
  have h := c_X2_letDown3 (l := l) (D := D) (tc := tc) pk G I F n hn x (I 4 2) (I 4 3) (I 4 4)
  rw [← L3_I] at h
  exact h
