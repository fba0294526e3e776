/-! the class's own helpers -/
/-- c people stand in the row, p at place g p + 30 -/
def WP (pk : Nat → Nat) (G : Nat → Option Nat) (n c : Nat) (g : Nat → Nat) : Prop := c ≤ 6 ∧ ∀ p, p < c → G p = some (g p + 30) ∧ g p + 30 < n ∧ pKind (pk (g p))
def sP (c : Nat) (x : Int32) : Bool := !decide (x < 0) && !decide (nI c ≤ x)
theorem perC {c : Nat} (hc : c ≤ 6) (x : Int32) : sP c x = false ∨ ∃ p : Nat, p < c ∧ x = nI p := by
  cases h : sP c x
  · exact Or.inl rfl
  · right
    unfold sP at h
    simp only [Bool.and_eq_true, Bool.not_eq_true', decide_eq_false_iff_not] at h
    obtain ⟨a, ha, rfl⟩ := nI_of h.1
    exact ⟨a, lp_lt ha h.2, rfl⟩
theorem sP_nI {c p : Nat} (hc : c ≤ 6) (hp : p < c) : sP c (nI p) = true := by
  unfold sP
  simp only [Bool.and_eq_true, Bool.not_eq_true', decide_eq_false_iff_not]
  exact ⟨nI_pos (by omega), nI_ge hp (by omega)⟩
theorem shtC (x : Int32) : sP 4 x = false ∨ ∃ k : Nat, k < 4 ∧ x = nI k := perC (by omega) x
def sMay (k h r gr : Int32) : Int32 := if r + gr < sWould k h then r + gr else sWould k h
def myC (pk : Nat → Nat) (g : Nat → Nat) (I : Nat → Nat → Int32) (c : Nat) : Nat → Int32 := fun p => if p < c then sMay (kd (pk (g p))) (I (g p + 30) 1) (I (g p + 30) 2) (I 0 8) else 0
def mnF (F : Nat → Nat → Int32) (my : Nat → Int32) : Nat → Nat → Int32 := st_F F 3 (pf my (F 3) 6)
def sFt (t ln z lane i m : Int32) : Int32 := if t = 0 then 1 else if ln = lane then (if 0 ≤ m then (if sHasC z i m then 0 else 3) else 4) else 2
def sOne (c : Nat) (kind : Int32) : Int32 := if kind = 0 then 1 else if kind = 1 then (if c = 3 then 0 else 1) else (if c = 1 then 1 else 0)
def sFit (c x : Int32) : Bool := if x < 26 then (if 2 ≤ x then (if (x - 2) - (x - 2) / 4 * 4 = 0 then decide (c = 59) else if (x - 2) - (x - 2) / 4 * 4 = 1 then decide (c = 112) || decide (c = 117) || decide (c = 108) else sDig c) else (if x = 0 then decide (c = 109) else sDig c)) else false
def ffE (m : Int32) : Int32 := if m < 10 then m else if (m - 2) - (m - 2) / 4 * 4 = 0 then -9 else m
def ffN (rd : Nat → Int32) (e : Int32) : Nat → Nat → Int32
  | _, 0 => e
  | j, m + 1 => if sFit (rd j) (nI j) then ffN rd e (j + 1) m else nI j
def sHst (g : Nat → Nat) (I : Nat → Nat → Int32) (c p : Nat) : Int32 := if p < c then I (g p + 30) 1 else 0
theorem tw_no1 {c : Nat} {x y : Int32} (h : sP c x = false) : some (Value.int 0) = some (.int (b2i (sP c x && sP c y && !decide (x = y)))) := by rw [h]; rfl
theorem tw_no2 {c : Nat} {x y : Int32} (h : sP c y = false) : some (Value.int 0) = some (.int (b2i (sP c x && sP c y && !decide (x = y)))) := by rw [h]; simp [b2i]
theorem tw_eq {c : Nat} {x y : Int32} (h : x = y) : some (Value.int 0) = some (.int (b2i (sP c x && sP c y && !decide (x = y)))) := by simp [b2i, h]
theorem tw_ok {c : Nat} {x y : Int32} (h1 : sP c x = true) (h2 : sP c y = true) (h : ¬ x = y) : some (Value.int 1) = some (.int (b2i (sP c x && sP c y && !decide (x = y)))) := by simp [b2i, h1, h2, h]
theorem hs_no {c p : Nat} {g : Nat → Nat} {I : Nat → Nat → Int32} (hc : c ≤ 6) (h : sP c (nI p) = false) : some (Value.int 0) = some (.int (sHst g I c p)) := by
  rw [sHst, if_neg (fun q => by rw [sP_nI hc q] at h; cases h)]
theorem hs_yes {c p q : Nat} {g : Nat → Nat} {I : Nat → Nat → Int32} (hp : p < 2 ^ 31) (hc : c ≤ 6) (h : q < c) (e : nI p = nI q) : some (Value.int (I (g q + 30) 1)) = some (.int (sHst g I c p)) := by
  have e9 : p = q := (nI_eq hp (by omega)).mp e
  subst e9
  rw [sHst, if_pos h]

set_option maxRecDepth 100000 in
set_option maxHeartbeats 4000000 in
theorem c_X8_everybody {l : Launch} {D : va_G} {tc : Nat → ClassId} (pk : Nat → Nat) (G : Nat → Option Nat) (I F : Nat → Nat → Int32) (n : Nat) (hn : 30 ≤ n) : AM l D tc yX8_everybody cX8_everybody 1 (some .int) 1 20 0 0 [.ref 0] n (hC pk G I F) (fun v n1 h1 => n1 = n ∧ (v = some (.int (sBit (I 0 7) - 1)) ∧ h1 = (hC pk G I F))) := by
  refine am_of (L := [some (.ref 0)]) (by decide +kernel) (Nat.le_of_ble_eq_true rfl) rfl ?_
  refine aw_aload_n dX8_everybody_0 rfl rfl ?_
  refine aw_get fd_X8_84_8 dX8_everybody_1 (by omega) rfl rfl ?_
  refine aw_callS cw_X8_bit ml_X8_137 sm_X8_bit (c_X8_bit _ _ _) ⟨Nat.le_of_ble_eq_true rfl, Nat.le_of_ble_eq_true rfl⟩ ⟨Nat.zero_le _, Nat.zero_le _⟩ rfl rfl (Nat.le_of_ble_eq_true rfl) dX8_everybody_4 ?_
  rintro _ _ ⟨rfl, rfl⟩
  refine aw_iconst (v := 1) dX8_everybody_7 (by decide) ?_
  refine aw_isub dX8_everybody_8 ?_
  refine aw_iret dX8_everybody_9 (Nat.zero_le _) (Nat.zero_le _) ?_
  exact ⟨rfl, rfl, rfl⟩
set_option maxRecDepth 100000 in
set_option maxHeartbeats 4000000 in
theorem c_X8_sheetAt_no {l : Launch} {D : va_G} {tc : Nat → ClassId} (pk : Nat → Nat) (G : Nat → Option Nat) (I F : Nat → Nat → Int32) (n : Nat) (hn : 30 ≤ n) {x : Int32} (hx : sP 4 x = false) : AM l D tc yX8_sheetAt cX8_sheetAt 2 (some (.object "StepBack$Row")) 0 0 0 0 [.ref 0, .int x] n (hC pk G I F) (fun v n1 h1 => n1 = n ∧ (v = some .null ∧ h1 = (hC pk G I F))) := by
  refine am_of (L := [some (.ref 0), some (.int x)]) (by decide +kernel) (Nat.le_of_ble_eq_true rfl) rfl ?_
  refine aw_iload_n dX8_sheetAt_0 rfl rfl ?_
  refine aw_if_lt (tgt := 18) dX8_sheetAt_1 (by decide) (fun c_1 => ?_) (fun c_1 => ?_)
  · refine aw_null dX8_sheetAt_18 ?_
    refine aw_aret dX8_sheetAt_19 (Or.inl ⟨_, rfl⟩) (Or.inl rfl) (Nat.zero_le _) (Nat.zero_le _) ?_
    exact ⟨rfl, rfl, rfl⟩
  · refine aw_iload_n dX8_sheetAt_4 rfl rfl ?_
    refine aw_iconst (v := 4) dX8_sheetAt_5 (by decide) ?_
    refine aw_icmp_ge (tgt := 18) dX8_sheetAt_6 (by decide) (fun c_6 => ?_) (fun c_6 => ?_)
    · refine aw_null dX8_sheetAt_18 ?_
      refine aw_aret dX8_sheetAt_19 (Or.inl ⟨_, rfl⟩) (Or.inl rfl) (Nat.zero_le _) (Nat.zero_le _) ?_
      exact ⟨rfl, rfl, rfl⟩
    · exfalso
      simp only [sP, Bool.and_eq_false_iff, Bool.not_eq_false', decide_eq_true_eq] at hx
      rcases hx with q | q
      · exact c_1 q
      · exact c_6 q
set_option maxRecDepth 100000 in
set_option maxHeartbeats 4000000 in
theorem c_X8_sheetAt {l : Launch} {D : va_G} {tc : Nat → ClassId} (pk : Nat → Nat) (G : Nat → Option Nat) (I F : Nat → Nat → Int32) (n : Nat) (hn : 30 ≤ n) {k : Nat} (hk : k < 4) : AM l D tc yX8_sheetAt cX8_sheetAt 2 (some (.object "StepBack$Row")) 0 0 0 0 [.ref 0, .int (nI k)] n (hC pk G I F) (fun v n1 h1 => n1 = n ∧ (v = some (.ref (22 + k)) ∧ h1 = (hC pk G I F))) := by
  refine am_of (L := [some (.ref 0), some (.int (nI k))]) (by decide +kernel) (Nat.le_of_ble_eq_true rfl) rfl ?_
  refine aw_iload_n dX8_sheetAt_0 rfl rfl ?_
  refine aw_if_lt (tgt := 18) dX8_sheetAt_1 (by decide) (fun c_1 => ?_) (fun c_1 => ?_)
  · exfalso
    first | exact nI_pos (by omega) c_1 | exact nI_ge hk (by omega) c_6
  · refine aw_iload_n dX8_sheetAt_4 rfl rfl ?_
    refine aw_iconst (v := 4) dX8_sheetAt_5 (by decide) ?_
    refine aw_icmp_ge (tgt := 18) dX8_sheetAt_6 (by decide) (fun c_6 => ?_) (fun c_6 => ?_)
    · exfalso
      first | exact nI_pos (by omega) c_1 | exact nI_ge hk (by omega) c_6
    · refine aw_aload_n dX8_sheetAt_9 rfl rfl ?_
      refine aw_get fd_X8_13_8 dX8_sheetAt_10 (by omega) rfl rfl ?_
      refine aw_iload_n dX8_sheetAt_13 rfl rfl ?_
      refine aw_aaldR2 dX8_sheetAt_14 (by omega) rfl (vp_in_nI hk (by decide)) (by show (if (nI k).toNatClampNeg < 4 then some (22 + (nI k).toNatClampNeg) else none) = _; rw [nI_clamp (by omega)]; exact if_pos hk) ?_
      refine aw_goto (tgt := 19) dX8_sheetAt_15 (by decide) ?_
      refine aw_aret dX8_sheetAt_19 (Or.inl ⟨_, rfl⟩) (Or.inr ⟨_, rfl⟩) (Nat.zero_le _) (Nat.zero_le _) ?_
      exact ⟨rfl, rfl, rfl⟩
set_option maxRecDepth 100000 in
set_option maxHeartbeats 4000000 in
theorem c_X8_personAt_no {l : Launch} {D : va_G} {tc : Nat → ClassId} (pk : Nat → Nat) (G : Nat → Option Nat) (I F : Nat → Nat → Int32) (n : Nat) (hn : 30 ≤ n) {c : Nat} (hI0 : I 0 7 = nI c) {x : Int32} (hx : sP c x = false) : AM l D tc yX8_personAt cX8_personAt 2 (some (.object "StepBack$Plain")) 0 0 0 0 [.ref 0, .int x] n (hC pk G I F) (fun v n1 h1 => n1 = n ∧ (v = some .null ∧ h1 = (hC pk G I F))) := by
  refine am_of (L := [some (.ref 0), some (.int x)]) (by decide +kernel) (Nat.le_of_ble_eq_true rfl) rfl ?_
  refine aw_iload_n dX8_personAt_0 rfl rfl ?_
  refine aw_if_lt (tgt := 21) dX8_personAt_1 (by decide) (fun c_1 => ?_) (fun c_1 => ?_)
  · refine aw_null dX8_personAt_21 ?_
    refine aw_aret dX8_personAt_22 (Or.inl ⟨_, rfl⟩) (Or.inl rfl) (Nat.zero_le _) (Nat.zero_le _) ?_
    exact ⟨rfl, rfl, rfl⟩
  · refine aw_iload_n dX8_personAt_4 rfl rfl ?_
    refine aw_aload_n dX8_personAt_5 rfl rfl ?_
    refine aw_get fd_X8_84_8 dX8_personAt_6 (by omega) rfl rfl ?_
    refine aw_icmp_ge (tgt := 21) dX8_personAt_9 (by decide) (fun c_9 => ?_) (fun c_9 => ?_)
    · refine aw_null dX8_personAt_21 ?_
      refine aw_aret dX8_personAt_22 (Or.inl ⟨_, rfl⟩) (Or.inl rfl) (Nat.zero_le _) (Nat.zero_le _) ?_
      exact ⟨rfl, rfl, rfl⟩
    · exfalso
      simp only [sP, Bool.and_eq_false_iff, Bool.not_eq_false', decide_eq_true_eq] at hx
      rcases hx with q | q
      · exact c_1 q
      · exact c_9 (by rw [hI0]; exact q)
set_option maxRecDepth 100000 in
set_option maxHeartbeats 4000000 in
theorem c_X8_personAt {l : Launch} {D : va_G} {tc : Nat → ClassId} (pk : Nat → Nat) (G : Nat → Option Nat) (I F : Nat → Nat → Int32) (n : Nat) (hn : 30 ≤ n) {c : Nat} {g : Nat → Nat} (hW : WP pk G n c g) (hI0 : I 0 7 = nI c) {x : Int32} {p : Nat} (hp : p < c) (ex : x = nI p) : AM l D tc yX8_personAt cX8_personAt 2 (some (.object "StepBack$Plain")) 0 0 0 0 [.ref 0, .int x] n (hC pk G I F) (fun v n1 h1 => n1 = n ∧ (v = some (.ref (g p + 30)) ∧ h1 = (hC pk G I F))) := by
  refine am_of (L := [some (.ref 0), some (.int x)]) (by decide +kernel) (Nat.le_of_ble_eq_true rfl) rfl ?_
  refine aw_iload_n dX8_personAt_0 rfl rfl ?_
  refine aw_if_lt (tgt := 21) dX8_personAt_1 (by decide) (fun c_1 => ?_) (fun c_1 => ?_)
  · exfalso
    have := hW.1
    first | exact nI_pos (n := p) (by omega) (ex ▸ c_1) | exact nI_ge hp (by omega) (by rw [← ex, ← hI0]; exact c_9)
  · refine aw_iload_n dX8_personAt_4 rfl rfl ?_
    refine aw_aload_n dX8_personAt_5 rfl rfl ?_
    refine aw_get fd_X8_84_8 dX8_personAt_6 (by omega) rfl rfl ?_
    refine aw_icmp_ge (tgt := 21) dX8_personAt_9 (by decide) (fun c_9 => ?_) (fun c_9 => ?_)
    · exfalso
      have := hW.1
      first | exact nI_pos (n := p) (by omega) (ex ▸ c_1) | exact nI_ge hp (by omega) (by rw [← ex, ← hI0]; exact c_9)
    · refine aw_aload_n dX8_personAt_12 rfl rfl ?_
      refine aw_get fd_X8_19_8 dX8_personAt_13 (by omega) rfl rfl ?_
      refine aw_iload_n dX8_personAt_16 rfl rfl ?_
      refine aw_aaldR3 dX8_personAt_17 (by omega) rfl (by rw [ex]; exact vp_in_nI (by have := hW.1; omega) (by decide)) (by rw [ex, nI_clamp (by have := hW.1; omega)]; exact (hW.2 p hp).1) ?_
      refine aw_goto (tgt := 22) dX8_personAt_18 (by decide) ?_
      refine aw_aret dX8_personAt_22 (Or.inl ⟨_, rfl⟩) (Or.inr ⟨_, rfl⟩) (Nat.zero_le _) (Nat.zero_le _) ?_
      exact ⟨rfl, rfl, rfl⟩
set_option maxRecDepth 100000 in
set_option maxHeartbeats 4000000 in
theorem c_X8_areTwo {l : Launch} {D : va_G} {tc : Nat → ClassId} (pk : Nat → Nat) (G : Nat → Option Nat) (I F : Nat → Nat → Int32) (n : Nat) (hn : 30 ≤ n) {c : Nat} {g : Nat → Nat} (hW : WP pk G n c g) (hI0 : I 0 7 = nI c) (x y : Int32) : AM l D tc yX8_areTwo cX8_areTwo 3 (some .boolean) 1 21 0 0 [.ref 0, .int x, .int y] n (hC pk G I F) (fun v n1 h1 => n1 = n ∧ (v = some (.int (b2i (sP c x && sP c y && !decide (x = y)))) ∧ h1 = (hC pk G I F))) := by
  refine am_of (L := [some (.ref 0), some (.int x), some (.int y)]) (by decide +kernel) (Nat.le_of_ble_eq_true rfl) rfl ?_
  refine aw_aload_n dX8_areTwo_0 rfl rfl ?_
  refine aw_iload_n dX8_areTwo_1 rfl rfl ?_
  rcases perC hW.1 (x) with hx_2 | ⟨p_2, hp_2, ex_2⟩
  · refine aw_callV cw_X8_personAt ml_X8_87 im_X8_personAt sl_X8_X8_personAt rfl (by omega) rfl (c_X8_personAt_no pk G _ _ n hn hI0 hx_2) ⟨Nat.le_of_ble_eq_true rfl, Nat.le_of_ble_eq_true rfl⟩ ⟨Nat.zero_le _, Nat.zero_le _⟩ rfl rfl (Nat.le_of_ble_eq_true rfl) dX8_areTwo_2 ?_
    rintro _ _ ⟨rfl, rfl⟩
    refine aw_ifnullN (tgt := 25) dX8_areTwo_5 (by decide) ?_
    refine aw_iconst (v := 0) dX8_areTwo_25 (by decide) ?_
    refine aw_zret dX8_areTwo_26 (by first | rfl | exact aw_nb _) (Nat.zero_le _) (Nat.zero_le _) ?_
    refine ⟨rfl, ?_, rfl⟩
    first | exact tw_no1 hx_2 | exact tw_no2 hx_10 | exact tw_eq c_18 | exact tw_ok (ex_2 ▸ sP_nI hW.1 hp_2) (ex_10 ▸ sP_nI hW.1 hp_10) c_18
  · refine aw_callV cw_X8_personAt ml_X8_87 im_X8_personAt sl_X8_X8_personAt rfl (by omega) rfl (c_X8_personAt pk G _ _ n hn hW hI0 hp_2 ex_2) ⟨Nat.le_of_ble_eq_true rfl, Nat.le_of_ble_eq_true rfl⟩ ⟨Nat.zero_le _, Nat.zero_le _⟩ rfl rfl (Nat.le_of_ble_eq_true rfl) dX8_areTwo_2 ?_
    rintro _ _ ⟨rfl, rfl⟩
    refine aw_ifnull dX8_areTwo_5 ?_
    refine aw_aload_n dX8_areTwo_8 rfl rfl ?_
    refine aw_iload_n dX8_areTwo_9 rfl rfl ?_
    rcases perC hW.1 (y) with hx_10 | ⟨p_10, hp_10, ex_10⟩
    · refine aw_callV cw_X8_personAt ml_X8_87 im_X8_personAt sl_X8_X8_personAt rfl (by omega) rfl (c_X8_personAt_no pk G _ _ n hn hI0 hx_10) ⟨Nat.le_of_ble_eq_true rfl, Nat.le_of_ble_eq_true rfl⟩ ⟨Nat.zero_le _, Nat.zero_le _⟩ rfl rfl (Nat.le_of_ble_eq_true rfl) dX8_areTwo_10 ?_
      rintro _ _ ⟨rfl, rfl⟩
      refine aw_ifnullN (tgt := 25) dX8_areTwo_13 (by decide) ?_
      refine aw_iconst (v := 0) dX8_areTwo_25 (by decide) ?_
      refine aw_zret dX8_areTwo_26 (by first | rfl | exact aw_nb _) (Nat.zero_le _) (Nat.zero_le _) ?_
      refine ⟨rfl, ?_, rfl⟩
      first | exact tw_no1 hx_2 | exact tw_no2 hx_10 | exact tw_eq c_18 | exact tw_ok (ex_2 ▸ sP_nI hW.1 hp_2) (ex_10 ▸ sP_nI hW.1 hp_10) c_18
    · refine aw_callV cw_X8_personAt ml_X8_87 im_X8_personAt sl_X8_X8_personAt rfl (by omega) rfl (c_X8_personAt pk G _ _ n hn hW hI0 hp_10 ex_10) ⟨Nat.le_of_ble_eq_true rfl, Nat.le_of_ble_eq_true rfl⟩ ⟨Nat.zero_le _, Nat.zero_le _⟩ rfl rfl (Nat.le_of_ble_eq_true rfl) dX8_areTwo_10 ?_
      rintro _ _ ⟨rfl, rfl⟩
      refine aw_ifnull dX8_areTwo_13 ?_
      refine aw_iload_n dX8_areTwo_16 rfl rfl ?_
      refine aw_iload_n dX8_areTwo_17 rfl rfl ?_
      refine aw_icmp_eq (tgt := 25) dX8_areTwo_18 (by decide) (fun c_18 => ?_) (fun c_18 => ?_)
      · refine aw_iconst (v := 0) dX8_areTwo_25 (by decide) ?_
        refine aw_zret dX8_areTwo_26 (by first | rfl | exact aw_nb _) (Nat.zero_le _) (Nat.zero_le _) ?_
        refine ⟨rfl, ?_, rfl⟩
        first | exact tw_no1 hx_2 | exact tw_no2 hx_10 | exact tw_eq c_18 | exact tw_ok (ex_2 ▸ sP_nI hW.1 hp_2) (ex_10 ▸ sP_nI hW.1 hp_10) c_18
      · refine aw_iconst (v := 1) dX8_areTwo_21 (by decide) ?_
        refine aw_goto (tgt := 26) dX8_areTwo_22 (by decide) ?_
        refine aw_zret dX8_areTwo_26 (by first | rfl | exact aw_nb _) (Nat.zero_le _) (Nat.zero_le _) ?_
        refine ⟨rfl, ?_, rfl⟩
        first | exact tw_no1 hx_2 | exact tw_no2 hx_10 | exact tw_eq c_18 | exact tw_ok (ex_2 ▸ sP_nI hW.1 hp_2) (ex_10 ▸ sP_nI hW.1 hp_10) c_18
set_option maxRecDepth 100000 in
set_option maxHeartbeats 4000000 in
theorem c_X8_faulted {l : Launch} {D : va_G} {tc : Nat → ClassId} (pk : Nat → Nat) (G : Nat → Option Nat) (I F : Nat → Nat → Int32) (n : Nat) (hn : 30 ≤ n) (x : Int32) : AM l D tc yX8_faulted cX8_faulted 2 (some .int) 0 0 0 0 [.ref 0, .int x] n (hC pk G I F) (fun v n1 h1 => n1 = n ∧ (v = some (.int ((-10) - x)) ∧ h1 = hC pk G (st_I I 0 11 x) F)) := by
  refine am_of (L := [some (.ref 0), some (.int x)]) (by decide +kernel) (Nat.le_of_ble_eq_true rfl) rfl ?_
  refine aw_aload_n dX8_faulted_0 rfl rfl ?_
  refine aw_iload_n dX8_faulted_1 rfl rfl ?_
  refine aw_puti fp_X8_56_8 dX8_faulted_2 (by omega) rfl rfl rfl (Nat.le_of_ble_eq_true rfl) rfl ?_
  refine aw_bipush (v := (-10)) dX8_faulted_5 (by decide) ?_
  refine aw_iload_n dX8_faulted_7 rfl rfl ?_
  refine aw_isub dX8_faulted_8 ?_
  refine aw_iret dX8_faulted_9 (Nat.zero_le _) (Nat.zero_le _) ?_
  exact ⟨rfl, rfl, rfl⟩
set_option maxRecDepth 100000 in
set_option maxHeartbeats 4000000 in
theorem c_X8_faultOfTaking {l : Launch} {D : va_G} {tc : Nat → ClassId} (pk : Nat → Nat) (G : Nat → Option Nat) (I F : Nat → Nat → Int32) (n : Nat) (hn : 30 ≤ n) {k : Nat} (hk : k < 4) (a i m : Int32) : AM l D tc yX8_faultOfTaking cX8_faultOfTaking 4 (some .int) 1 22 0 0 [.ref (22 + k), .int a, .int i, .int m] n (hC pk G I F) (fun v n1 h1 => n1 = n ∧ (v = some (.int (sFt (I (22 + k) 1) (I (22 + k) 2) (I (22 + k) 3) a i m)) ∧ h1 = (hC pk G I F))) := by
  refine am_of (L := [some (.ref (22 + k)), some (.int a), some (.int i), some (.int m)]) (by decide +kernel) (Nat.le_of_ble_eq_true rfl) rfl ?_
  refine aw_aload_n dX8_faultOfTaking_0 rfl rfl ?_
  refine aw_get fd_X8_216_6 dX8_faultOfTaking_1 (by omega) (entC_row _ _ hk _ _) rfl ?_
  refine aw_if_ne (tgt := 9) dX8_faultOfTaking_4 (by decide) (fun c_4 => ?_) (fun c_4 => ?_)
  · refine aw_aload_n dX8_faultOfTaking_9 rfl rfl ?_
    refine aw_get fd_X8_220_6 dX8_faultOfTaking_10 (by omega) (entC_row _ _ hk _ _) rfl ?_
    refine aw_iload_n dX8_faultOfTaking_13 rfl rfl ?_
    refine aw_icmp_eq (tgt := 19) dX8_faultOfTaking_14 (by decide) (fun c_14 => ?_) (fun c_14 => ?_)
    · refine aw_iload_n dX8_faultOfTaking_19 rfl rfl ?_
      refine aw_if_ge (tgt := 25) dX8_faultOfTaking_20 (by decide) (fun c_20 => ?_) (fun c_20 => ?_)
      · refine aw_aload_n dX8_faultOfTaking_25 rfl rfl ?_
        refine aw_iload_n dX8_faultOfTaking_26 rfl rfl ?_
        refine aw_iload_n dX8_faultOfTaking_27 rfl rfl ?_
        refine aw_callV cw_X6_hasCells ml_X8_229 im_X6_hasCells sl_X6_X6_hasCells rfl (by omega) (entC_row _ _ hk _ _) (c_X6_hasCells pk G _ _ n hn _ hk _ _) ⟨Nat.le_of_ble_eq_true rfl, Nat.le_of_ble_eq_true rfl⟩ ⟨Nat.zero_le _, Nat.zero_le _⟩ rfl rfl (Nat.le_of_ble_eq_true rfl) dX8_faultOfTaking_28 ?_
        rintro _ _ ⟨rfl, rfl⟩
        refine aw_if_eq (tgt := 38) dX8_faultOfTaking_31 (by decide) (fun c_31 => ?_) (fun c_31 => ?_)
        · refine aw_iconst (v := 3) dX8_faultOfTaking_38 (by decide) ?_
          refine aw_iret dX8_faultOfTaking_39 (Nat.zero_le _) (Nat.zero_le _) ?_
          refine ⟨rfl, ?_, rfl⟩
          (try simp only [b2i_eq0, b2i_ne0] at *)
          simp [sFt, *]
        · refine aw_iconst (v := 0) dX8_faultOfTaking_34 (by decide) ?_
          refine aw_goto (tgt := 39) dX8_faultOfTaking_35 (by decide) ?_
          refine aw_iret dX8_faultOfTaking_39 (Nat.zero_le _) (Nat.zero_le _) ?_
          refine ⟨rfl, ?_, rfl⟩
          (try simp only [b2i_eq0, b2i_ne0] at *)
          simp [sFt, *]
      · refine aw_iconst (v := 4) dX8_faultOfTaking_23 (by decide) ?_
        refine aw_iret dX8_faultOfTaking_24 (Nat.zero_le _) (Nat.zero_le _) ?_
        refine ⟨rfl, ?_, rfl⟩
        (try simp only [b2i_eq0, b2i_ne0] at *)
        simp [sFt, *]
    · refine aw_iconst (v := 2) dX8_faultOfTaking_17 (by decide) ?_
      refine aw_iret dX8_faultOfTaking_18 (Nat.zero_le _) (Nat.zero_le _) ?_
      refine ⟨rfl, ?_, rfl⟩
      (try simp only [b2i_eq0, b2i_ne0] at *)
      simp [sFt, *]
  · refine aw_iconst (v := 1) dX8_faultOfTaking_7 (by decide) ?_
    refine aw_iret dX8_faultOfTaking_8 (Nat.zero_le _) (Nat.zero_le _) ?_
    refine ⟨rfl, ?_, rfl⟩
    (try simp only [b2i_eq0, b2i_ne0] at *)
    simp [sFt, *]
set_option maxRecDepth 100000 in
set_option maxHeartbeats 4000000 in
theorem c_X8_isOneOf {l : Launch} {D : va_G} {tc : Nat → ClassId} (pk : Nat → Nat) (G : Nat → Option Nat) (I F : Nat → Nat → Int32) (n : Nat) (hn : 30 ≤ n) {j : Nat} (hp : pKind (pk j)) (hj : j + 30 < n) (x : Int32) : AM l D tc yX8_isOneOf cX8_isOneOf 2 (some .boolean) 0 0 0 0 [.ref (j + 30), .int x] n (hC pk G I F) (fun v n1 h1 => n1 = n ∧ (v = some (.int (sOne (pk j) x)) ∧ h1 = (hC pk G I F))) := by
  refine am_of (L := [some (.ref (j + 30)), some (.int x)]) (by decide +kernel) (Nat.le_of_ble_eq_true rfl) rfl ?_
  refine aw_iload_n dX8_isOneOf_0 rfl rfl ?_
  by_cases e_1_0 : x = 0
  · refine aw_lookupC (off := 27) (tgt := 28) e_1_0 dX8_isOneOf_1 (by decide) (by decide) (by decide) ?_
    refine aw_iconst (v := 1) dX8_isOneOf_28 (by decide) ?_
    refine aw_zret dX8_isOneOf_29 (by first | rfl | exact aw_nb _) (Nat.zero_le _) (Nat.zero_le _) ?_
    refine ⟨rfl, ?_, rfl⟩
    simp [sOne, *]
  by_cases e_1_1 : x = 1
  · refine aw_lookupC (off := 29) (tgt := 30) e_1_1 dX8_isOneOf_1 (by decide) (by decide) (by decide) ?_
    refine aw_aload_n dX8_isOneOf_30 rfl rfl ?_
    rcases hp with q | q | q
    · refine aw_instY cl_X8_255 (by decide +kernel) rfl dX8_isOneOf_31 hj (he_perc q) ?_
      refine aw_zret dX8_isOneOf_34 (by first | rfl | exact aw_nb _) (Nat.zero_le _) (Nat.zero_le _) ?_
      refine ⟨rfl, ?_, rfl⟩
      simp [sOne, *]
    · refine aw_instN cl_X8_255 (by decide +kernel) rfl dX8_isOneOf_31 hj (he_perc q) ?_
      refine aw_zret dX8_isOneOf_34 (by first | rfl | exact aw_nb _) (Nat.zero_le _) (Nat.zero_le _) ?_
      refine ⟨rfl, ?_, rfl⟩
      simp [sOne, *]
    · refine aw_instS cl_X8_255 rfl dX8_isOneOf_31 hj (he_perc q) ?_
      refine aw_zret dX8_isOneOf_34 (by first | rfl | exact aw_nb _) (Nat.zero_le _) (Nat.zero_le _) ?_
      refine ⟨rfl, ?_, rfl⟩
      simp [sOne, *]
  refine aw_lookup (off := 34) (tgt := 35) dX8_isOneOf_1 (by decide) (aw_lk2 (by decide) (by decide) e_1_0 e_1_1) (by decide) ?_
  refine aw_aload_n dX8_isOneOf_35 rfl rfl ?_
  rcases hp with q | q | q
  · refine aw_instS cl_X8_257 rfl dX8_isOneOf_36 hj (he_perc q) ?_
    refine aw_zret dX8_isOneOf_39 (by first | rfl | exact aw_nb _) (Nat.zero_le _) (Nat.zero_le _) ?_
    refine ⟨rfl, ?_, rfl⟩
    simp [sOne, *]
  · refine aw_instN cl_X8_257 (by decide +kernel) rfl dX8_isOneOf_36 hj (he_perc q) ?_
    refine aw_zret dX8_isOneOf_39 (by first | rfl | exact aw_nb _) (Nat.zero_le _) (Nat.zero_le _) ?_
    refine ⟨rfl, ?_, rfl⟩
    simp [sOne, *]
  · refine aw_instN cl_X8_257 (by decide +kernel) rfl dX8_isOneOf_36 hj (he_perc q) ?_
    refine aw_zret dX8_isOneOf_39 (by first | rfl | exact aw_nb _) (Nat.zero_le _) (Nat.zero_le _) ?_
    refine ⟨rfl, ?_, rfl⟩
    simp [sOne, *]
set_option maxRecDepth 100000 in
set_option maxHeartbeats 4000000 in
theorem c_X8_mayGo {l : Launch} {D : va_G} {tc : Nat → ClassId} (pk : Nat → Nat) (G : Nat → Option Nat) (I F : Nat → Nat → Int32) (n : Nat) (hn : 30 ≤ n) (x y z : Int32) : AM l D tc yX8_mayGo cX8_mayGo 4 (some .int) 1 21 0 0 [.ref 0, .int x, .int y, .int z] n (hC pk G I F) (fun v n1 h1 => n1 = n ∧ (v = some (.int (sMay x y z (I 0 8))) ∧ h1 = (hC pk G I F))) := by
  refine am_of (L := [some (.ref 0), some (.int x), some (.int y), some (.int z)]) (by decide +kernel) (Nat.le_of_ble_eq_true rfl) rfl ?_
  refine aw_iload_n dX8_mayGo_0 rfl rfl ?_
  refine aw_iload_n dX8_mayGo_1 rfl rfl ?_
  refine aw_callS cw_X8_wouldGo ml_X8_101 sm_X8_wouldGo (c_X8_wouldGo _ _ _ _) ⟨Nat.le_of_ble_eq_true rfl, Nat.le_of_ble_eq_true rfl⟩ ⟨Nat.zero_le _, Nat.zero_le _⟩ rfl rfl (Nat.le_of_ble_eq_true rfl) dX8_mayGo_2 ?_
  rintro _ _ ⟨rfl, rfl⟩
  refine aw_iload_n dX8_mayGo_5 rfl rfl ?_
  refine aw_aload_n dX8_mayGo_6 rfl rfl ?_
  refine aw_get fd_X8_126_8 dX8_mayGo_7 (by omega) rfl rfl ?_
  refine aw_iadd dX8_mayGo_10 ?_
  refine aw_min ml_X8_259 ⟨Nat.le_of_ble_eq_true rfl, Nat.le_of_ble_eq_true rfl⟩ ⟨Nat.zero_le _, Nat.zero_le _⟩ (Nat.le_of_ble_eq_true rfl) dX8_mayGo_11 ?_
  refine aw_iret dX8_mayGo_14 (Nat.zero_le _) (Nat.zero_le _) ?_
  exact ⟨rfl, rfl, rfl⟩
set_option maxRecDepth 100000 in
set_option maxHeartbeats 4000000 in
theorem c_X8_hasteOf {l : Launch} {D : va_G} {tc : Nat → ClassId} (pk : Nat → Nat) (G : Nat → Option Nat) (I F : Nat → Nat → Int32) (n : Nat) (hn : 30 ≤ n) {c : Nat} {g : Nat → Nat} (hW : WP pk G n c g) (hI0 : I 0 7 = nI c) {p : Nat} (hp6 : p < 2 ^ 31) : AM l D tc yX8_hasteOf cX8_hasteOf 3 (some .int) 1 21 0 0 [.ref 0, .int (nI p)] n (hC pk G I F) (fun v n1 h1 => n1 = n ∧ (v = some (.int (sHst g I c p)) ∧ h1 = (hC pk G I F))) := by
  refine am_of (L := [some (.ref 0), some (.int (nI p)), none]) (by decide +kernel) (Nat.le_of_ble_eq_true rfl) rfl ?_
  refine aw_aload_n dX8_hasteOf_0 rfl rfl ?_
  refine aw_iload_n dX8_hasteOf_1 rfl rfl ?_
  rcases perC hW.1 (nI p) with hx_2 | ⟨p_2, hp_2, ex_2⟩
  · refine aw_callV cw_X8_personAt ml_X8_87 im_X8_personAt sl_X8_X8_personAt rfl (by omega) rfl (c_X8_personAt_no pk G _ _ n hn hI0 hx_2) ⟨Nat.le_of_ble_eq_true rfl, Nat.le_of_ble_eq_true rfl⟩ ⟨Nat.zero_le _, Nat.zero_le _⟩ rfl rfl (Nat.le_of_ble_eq_true rfl) dX8_hasteOf_2 ?_
    rintro _ _ ⟨rfl, rfl⟩
    refine aw_astore_nN dX8_hasteOf_5 rfl (by decide) rfl ?_
    refine aw_aload_nN dX8_hasteOf_6 rfl rfl ?_
    refine aw_ifnonnullN dX8_hasteOf_7 ?_
    refine aw_iconst (v := 0) dX8_hasteOf_10 (by decide) ?_
    refine aw_goto (tgt := 18) dX8_hasteOf_11 (by decide) ?_
    refine aw_iret dX8_hasteOf_18 (Nat.zero_le _) (Nat.zero_le _) ?_
    refine ⟨rfl, ?_, rfl⟩
    first | exact hs_no hW.1 hx_2 | exact hs_yes hp6 hW.1 hp_2 ex_2
  · refine aw_callV cw_X8_personAt ml_X8_87 im_X8_personAt sl_X8_X8_personAt rfl (by omega) rfl (c_X8_personAt pk G _ _ n hn hW hI0 hp_2 ex_2) ⟨Nat.le_of_ble_eq_true rfl, Nat.le_of_ble_eq_true rfl⟩ ⟨Nat.zero_le _, Nat.zero_le _⟩ rfl rfl (Nat.le_of_ble_eq_true rfl) dX8_hasteOf_2 ?_
    rintro _ _ ⟨rfl, rfl⟩
    refine aw_astore_n dX8_hasteOf_5 rfl (by decide) rfl ?_
    refine aw_aload_n dX8_hasteOf_6 rfl rfl ?_
    refine aw_ifnonnull (tgt := 14) dX8_hasteOf_7 (by decide) ?_
    refine aw_aload_n dX8_hasteOf_14 rfl rfl ?_
    refine aw_getP fd_X8_95_1 fd_X8_95_3 fd_X8_95_4 (hW.2 _ hp_2).2.2 dX8_hasteOf_15 (hW.2 _ hp_2).2.1 (he_per _) rfl ?_
    refine aw_iret dX8_hasteOf_18 (Nat.zero_le _) (Nat.zero_le _) ?_
    refine ⟨rfl, ?_, rfl⟩
    first | exact hs_no hW.1 hx_2 | exact hs_yes hp6 hW.1 hp_2 ex_2
set_option maxRecDepth 100000 in
set_option maxHeartbeats 4000000 in
theorem lp_X8_maysNow {l : Launch} {D : va_G} {tc : Nat → ClassId} (pk : Nat → Nat) (G : Nat → Option Nat) (I F : Nat → Nat → Int32) (n : Nat) (hn : 30 ≤ n) {c : Nat} {g : Nat → Nat} (hW : WP pk G n c g) (hI0 : I 0 7 = nI c) : ∀ (m i : Nat) (w : Option Value), i + m = 6 → AW l D tc yX8_maysNow.cls cX8_maysNow 3 (some (.array .int)) { frames := 2, cells := 0, slots := 0, locals := 44 } n 0 0 (fun v n1 h1 => n1 = n ∧ (v = some (.ref 3) ∧ h1 = hC pk G I (mnF F (myC pk g I c)))) 2 [some (.ref 0), some (.int (nI i)), w] [] n (hC pk G I (st_F F 3 (pf (myC pk g I c) (F 3) i))) 0 0 := by
  intro m
  induction m using Nat.strongRecOn with
  | _ m ih =>
    intro i w hi
    refine aw_iload_n dX8_maysNow_2 rfl rfl ?_
    refine aw_bipush (v := (6)) dX8_maysNow_3 (by decide) ?_
    refine aw_icmp_ge (tgt := 50) dX8_maysNow_5 (by decide) (fun c_5 => ?_) (fun c_5 => ?_)
    · have hi6 := lp_ge (N := 6) (by decide) (by omega) c_5
      subst hi6
      refine aw_aload_n dX8_maysNow_50 rfl rfl ?_
      refine aw_get fd_X8_23_8 dX8_maysNow_51 (by omega) rfl rfl ?_
      refine aw_aret dX8_maysNow_54 (Or.inr ⟨_, rfl⟩) (Or.inr ⟨_, rfl⟩) (Nat.zero_le _) (Nat.zero_le _) ?_
      exact ⟨rfl, rfl, rfl⟩
    · have hi6 := lp_lt (N := 6) (by omega) c_5
      refine aw_aload_n dX8_maysNow_8 rfl rfl ?_
      refine aw_iload_n dX8_maysNow_9 rfl rfl ?_
      rcases perC hW.1 (nI i) with hx_10 | ⟨p_10, hp_10, ex_10⟩
      · refine aw_callV cw_X8_personAt ml_X8_87 im_X8_personAt sl_X8_X8_personAt rfl (by omega) rfl (c_X8_personAt_no pk G _ _ n hn hI0 hx_10) ⟨Nat.le_of_ble_eq_true rfl, Nat.le_of_ble_eq_true rfl⟩ ⟨Nat.zero_le _, Nat.zero_le _⟩ rfl rfl (Nat.le_of_ble_eq_true rfl) dX8_maysNow_10 ?_
        rintro _ _ ⟨rfl, rfl⟩
        refine aw_astore_nN dX8_maysNow_13 rfl (by decide) rfl ?_
        refine aw_aload_n dX8_maysNow_14 rfl rfl ?_
        refine aw_get fd_X8_23_8 dX8_maysNow_15 (by omega) rfl rfl ?_
        refine aw_iload_n dX8_maysNow_18 rfl rfl ?_
        refine aw_aload_nN dX8_maysNow_19 rfl rfl ?_
        refine aw_ifnonnullN dX8_maysNow_20 ?_
        have e8 : myC pk g I c i = 0 := by
          unfold myC
          rw [if_neg (fun q => by rw [sP_nI hW.1 q] at hx_10; cases hx_10)]
        refine aw_iconst (v := 0) dX8_maysNow_23 (by decide) ?_
        refine aw_goto (tgt := 43) dX8_maysNow_24 (by decide) ?_
        refine aw_iastI dX8_maysNow_43 (by omega) rfl (fun _ => rfl) (vp_in_nI hi6 (by decide)) (show _ = st_F F 3 (pf (myC pk g I c) (F 3) (i + 1)) from by rw [← pf_s, e8, nI_clamp (show i < 2 ^ 31 by omega)]; exact st_FF _ _ _ _) ?_
        refine aw_iinc (v := 1) dX8_maysNow_44 rfl (by decide) (by decide) rfl ?_
        refine aw_goto (tgt := 2) dX8_maysNow_47 (by decide) ?_
        rw [nI_1]
        exact ih (m - 1) (by omega) (i + 1) _ (by omega)
      · refine aw_callV cw_X8_personAt ml_X8_87 im_X8_personAt sl_X8_X8_personAt rfl (by omega) rfl (c_X8_personAt pk G _ _ n hn hW hI0 hp_10 ex_10) ⟨Nat.le_of_ble_eq_true rfl, Nat.le_of_ble_eq_true rfl⟩ ⟨Nat.zero_le _, Nat.zero_le _⟩ rfl rfl (Nat.le_of_ble_eq_true rfl) dX8_maysNow_10 ?_
        rintro _ _ ⟨rfl, rfl⟩
        refine aw_astore_n dX8_maysNow_13 rfl (by decide) rfl ?_
        refine aw_aload_n dX8_maysNow_14 rfl rfl ?_
        refine aw_get fd_X8_23_8 dX8_maysNow_15 (by omega) rfl rfl ?_
        refine aw_iload_n dX8_maysNow_18 rfl rfl ?_
        refine aw_aload_n dX8_maysNow_19 rfl rfl ?_
        refine aw_ifnonnull (tgt := 27) dX8_maysNow_20 (by decide) ?_
        have e7 : i = p_10 := (nI_eq (by omega) (by have := hW.1; omega)).mp ex_10
        subst e7
        have e8 : myC pk g I c i = sMay (kd (pk (g i))) (I (g i + 30) 1) (I (g i + 30) 2) (I 0 8) := by
          unfold myC
          rw [if_pos hp_10]
        refine aw_aload_n dX8_maysNow_27 rfl rfl ?_
        refine aw_aload_n dX8_maysNow_28 rfl rfl ?_
        refine aw_kindP (hW.2 _ hp_10).2.2 (hW.2 _ hp_10).2.1 ⟨Nat.le_of_ble_eq_true rfl, Nat.le_of_ble_eq_true rfl⟩ ⟨Nat.zero_le _, Nat.zero_le _⟩ (Nat.le_of_ble_eq_true rfl) dX8_maysNow_29 ?_
        refine aw_aload_n dX8_maysNow_32 rfl rfl ?_
        refine aw_getP fd_X8_95_1 fd_X8_95_3 fd_X8_95_4 (hW.2 _ hp_10).2.2 dX8_maysNow_33 (hW.2 _ hp_10).2.1 (he_per _) rfl ?_
        refine aw_aload_n dX8_maysNow_36 rfl rfl ?_
        refine aw_getP fd_X8_98_1 fd_X8_98_3 fd_X8_98_4 (hW.2 _ hp_10).2.2 dX8_maysNow_37 (hW.2 _ hp_10).2.1 (he_per _) rfl ?_
        refine aw_callV cw_X8_mayGo ml_X8_105 im_X8_mayGo sl_X8_X8_mayGo rfl (by omega) rfl (c_X8_mayGo pk G _ _ n hn _ _ _) ⟨Nat.le_of_ble_eq_true rfl, Nat.le_of_ble_eq_true rfl⟩ ⟨Nat.zero_le _, Nat.zero_le _⟩ rfl rfl (Nat.le_of_ble_eq_true rfl) dX8_maysNow_40 ?_
        rintro _ _ ⟨rfl, rfl⟩
        refine aw_iastI dX8_maysNow_43 (by omega) rfl (fun _ => rfl) (vp_in_nI hi6 (by decide)) (show _ = st_F F 3 (pf (myC pk g I c) (F 3) (i + 1)) from by rw [← pf_s, e8, nI_clamp (show i < 2 ^ 31 by omega)]; exact st_FF _ _ _ _) ?_
        refine aw_iinc (v := 1) dX8_maysNow_44 rfl (by decide) (by decide) rfl ?_
        refine aw_goto (tgt := 2) dX8_maysNow_47 (by decide) ?_
        rw [nI_1]
        exact ih (m - 1) (by omega) (i + 1) _ (by omega)
set_option maxRecDepth 100000 in
set_option maxHeartbeats 4000000 in
theorem c_X8_maysNow {l : Launch} {D : va_G} {tc : Nat → ClassId} (pk : Nat → Nat) (G : Nat → Option Nat) (I F : Nat → Nat → Int32) (n : Nat) (hn : 30 ≤ n) {c : Nat} {g : Nat → Nat} (hW : WP pk G n c g) (hI0 : I 0 7 = nI c) : AM l D tc yX8_maysNow cX8_maysNow 3 (some (.array .int)) 2 44 0 0 [.ref 0] n (hC pk G I F) (fun v n1 h1 => n1 = n ∧ (v = some (.ref 3) ∧ h1 = hC pk G I (mnF F (myC pk g I c)))) := by
  refine am_of (L := [some (.ref 0), none, none]) (by decide +kernel) (Nat.le_of_ble_eq_true rfl) rfl ?_
  refine aw_iconst (v := 0) dX8_maysNow_0 (by decide) ?_
  refine aw_istore_n dX8_maysNow_1 rfl (by decide) rfl ?_
  have hl := lp_X8_maysNow (l := l) (D := D) (tc := tc) pk G I F n hn hW hI0 6 0 none (by omega)
  rw [pf_0, st_F0] at hl
  exact hl
set_option maxRecDepth 100000 in
set_option maxHeartbeats 4000000 in
theorem c_X8_isFit {l : Launch} {D : va_G} {tc : Nat → ClassId} (a x : Int32) (n : Nat) (h : aw_H) : AM l D tc yX8_isFit cX8_isFit 2 (some .boolean) 2 42 0 0 [.int a, .int x] n h (fun v n1 h1 => n1 = n ∧ (v = some (.int (b2i (sFit a x))) ∧ h1 = h)) := by
  refine am_of (L := [some (.int a), some (.int x)]) (by decide +kernel) (Nat.le_of_ble_eq_true rfl) rfl ?_
  refine aw_iload_n dX8_isFit_0 rfl rfl ?_
  refine aw_bipush (v := (26)) dX8_isFit_1 (by decide) ?_
  refine aw_icmp_lt (tgt := 8) dX8_isFit_3 (by decide) (fun c_3 => ?_) (fun c_3 => ?_)
  · refine aw_iload_n dX8_isFit_8 rfl rfl ?_
    refine aw_iconst (v := 2) dX8_isFit_9 (by decide) ?_
    refine aw_icmp_ge (tgt := 36) dX8_isFit_10 (by decide) (fun c_10 => ?_) (fun c_10 => ?_)
    · refine aw_iload_n dX8_isFit_36 rfl rfl ?_
      refine aw_iconst (v := 2) dX8_isFit_37 (by decide) ?_
      refine aw_isub dX8_isFit_38 ?_
      refine aw_iconst (v := 4) dX8_isFit_39 (by decide) ?_
      refine aw_irem dX8_isFit_40 (by decide) ?_
      by_cases e_41_0 : (x - 2) - (x - 2) / 4 * 4 = 0
      · refine aw_lookupC (off := 27) (tgt := 68) e_41_0 dX8_isFit_41 (by decide) (by decide) (by decide) ?_
        refine aw_iload_n dX8_isFit_68 rfl rfl ?_
        refine aw_bipush (v := (59)) dX8_isFit_69 (by decide) ?_
        refine aw_icmp_ne (tgt := 78) dX8_isFit_71 (by decide) (fun c_71 => ?_) (fun c_71 => ?_)
        · refine aw_iconst (v := 0) dX8_isFit_78 (by decide) ?_
          refine aw_zret dX8_isFit_79 (by first | rfl | exact aw_nb _) (Nat.zero_le _) (Nat.zero_le _) ?_
          refine ⟨rfl, ?_, rfl⟩
          (try simp only [b2i_eq0, b2i_ne0] at *)
          simp [sFit, b2i, *]
        · refine aw_iconst (v := 1) dX8_isFit_74 (by decide) ?_
          refine aw_goto (tgt := 79) dX8_isFit_75 (by decide) ?_
          refine aw_zret dX8_isFit_79 (by first | rfl | exact aw_nb _) (Nat.zero_le _) (Nat.zero_le _) ?_
          refine ⟨rfl, ?_, rfl⟩
          (try simp only [b2i_eq0, b2i_ne0] at *)
          simp [sFit, b2i, *]
      by_cases e_41_1 : (x - 2) - (x - 2) / 4 * 4 = 1
      · refine aw_lookupC (off := 39) (tgt := 80) e_41_1 dX8_isFit_41 (by decide) (by decide) (by decide) ?_
        refine aw_iload_n dX8_isFit_80 rfl rfl ?_
        refine aw_bipush (v := (112)) dX8_isFit_81 (by decide) ?_
        refine aw_icmp_eq (tgt := 98) dX8_isFit_83 (by decide) (fun c_83 => ?_) (fun c_83 => ?_)
        · refine aw_iconst (v := 1) dX8_isFit_98 (by decide) ?_
          refine aw_goto (tgt := 103) dX8_isFit_99 (by decide) ?_
          refine aw_zret dX8_isFit_103 (by first | rfl | exact aw_nb _) (Nat.zero_le _) (Nat.zero_le _) ?_
          refine ⟨rfl, ?_, rfl⟩
          (try simp only [b2i_eq0, b2i_ne0] at *)
          simp [sFit, b2i, *]
        · refine aw_iload_n dX8_isFit_86 rfl rfl ?_
          refine aw_bipush (v := (117)) dX8_isFit_87 (by decide) ?_
          refine aw_icmp_eq (tgt := 98) dX8_isFit_89 (by decide) (fun c_89 => ?_) (fun c_89 => ?_)
          · refine aw_iconst (v := 1) dX8_isFit_98 (by decide) ?_
            refine aw_goto (tgt := 103) dX8_isFit_99 (by decide) ?_
            refine aw_zret dX8_isFit_103 (by first | rfl | exact aw_nb _) (Nat.zero_le _) (Nat.zero_le _) ?_
            refine ⟨rfl, ?_, rfl⟩
            (try simp only [b2i_eq0, b2i_ne0] at *)
            simp [sFit, b2i, *]
          · refine aw_iload_n dX8_isFit_92 rfl rfl ?_
            refine aw_bipush (v := (108)) dX8_isFit_93 (by decide) ?_
            refine aw_icmp_ne (tgt := 102) dX8_isFit_95 (by decide) (fun c_95 => ?_) (fun c_95 => ?_)
            · refine aw_iconst (v := 0) dX8_isFit_102 (by decide) ?_
              refine aw_zret dX8_isFit_103 (by first | rfl | exact aw_nb _) (Nat.zero_le _) (Nat.zero_le _) ?_
              refine ⟨rfl, ?_, rfl⟩
              (try simp only [b2i_eq0, b2i_ne0] at *)
              simp [sFit, b2i, *]
            · refine aw_iconst (v := 1) dX8_isFit_98 (by decide) ?_
              refine aw_goto (tgt := 103) dX8_isFit_99 (by decide) ?_
              refine aw_zret dX8_isFit_103 (by first | rfl | exact aw_nb _) (Nat.zero_le _) (Nat.zero_le _) ?_
              refine ⟨rfl, ?_, rfl⟩
              (try simp only [b2i_eq0, b2i_ne0] at *)
              simp [sFit, b2i, *]
      refine aw_lookup (off := 63) (tgt := 104) dX8_isFit_41 (by decide) (aw_lk2 (by decide) (by decide) e_41_0 e_41_1) (by decide) ?_
      refine aw_iload_n dX8_isFit_104 rfl rfl ?_
      refine aw_callS cw_X8_isDigit ml_X8_267 sm_X8_isDigit (c_X8_isDigit _ _ _) ⟨Nat.le_of_ble_eq_true rfl, Nat.le_of_ble_eq_true rfl⟩ ⟨Nat.zero_le _, Nat.zero_le _⟩ rfl rfl (Nat.le_of_ble_eq_true rfl) dX8_isFit_105 ?_
      rintro _ _ ⟨rfl, rfl⟩
      refine aw_zret dX8_isFit_108 (by first | rfl | exact aw_nb _) (Nat.zero_le _) (Nat.zero_le _) ?_
      refine ⟨rfl, ?_, rfl⟩
      (try simp only [b2i_eq0, b2i_ne0] at *)
      simp [sFit, b2i, *]
    · refine aw_iload_n dX8_isFit_13 rfl rfl ?_
      refine aw_if_ne (tgt := 31) dX8_isFit_14 (by decide) (fun c_14 => ?_) (fun c_14 => ?_)
      · refine aw_iload_n dX8_isFit_31 rfl rfl ?_
        refine aw_callS cw_X8_isDigit ml_X8_267 sm_X8_isDigit (c_X8_isDigit _ _ _) ⟨Nat.le_of_ble_eq_true rfl, Nat.le_of_ble_eq_true rfl⟩ ⟨Nat.zero_le _, Nat.zero_le _⟩ rfl rfl (Nat.le_of_ble_eq_true rfl) dX8_isFit_32 ?_
        rintro _ _ ⟨rfl, rfl⟩
        refine aw_zret dX8_isFit_35 (by first | rfl | exact aw_nb _) (Nat.zero_le _) (Nat.zero_le _) ?_
        refine ⟨rfl, ?_, rfl⟩
        (try simp only [b2i_eq0, b2i_ne0] at *)
        simp [sFit, b2i, *]
      · refine aw_iload_n dX8_isFit_17 rfl rfl ?_
        refine aw_bipush (v := (109)) dX8_isFit_18 (by decide) ?_
        refine aw_icmp_ne (tgt := 27) dX8_isFit_20 (by decide) (fun c_20 => ?_) (fun c_20 => ?_)
        · refine aw_iconst (v := 0) dX8_isFit_27 (by decide) ?_
          refine aw_goto (tgt := 35) dX8_isFit_28 (by decide) ?_
          refine aw_zret dX8_isFit_35 (by first | rfl | exact aw_nb _) (Nat.zero_le _) (Nat.zero_le _) ?_
          refine ⟨rfl, ?_, rfl⟩
          (try simp only [b2i_eq0, b2i_ne0] at *)
          simp [sFit, b2i, *]
        · refine aw_iconst (v := 1) dX8_isFit_23 (by decide) ?_
          refine aw_goto (tgt := 35) dX8_isFit_24 (by decide) ?_
          refine aw_zret dX8_isFit_35 (by first | rfl | exact aw_nb _) (Nat.zero_le _) (Nat.zero_le _) ?_
          refine ⟨rfl, ?_, rfl⟩
          (try simp only [b2i_eq0, b2i_ne0] at *)
          simp [sFit, b2i, *]
  · refine aw_iconst (v := 0) dX8_isFit_6 (by decide) ?_
    refine aw_zret dX8_isFit_7 (by first | rfl | exact aw_nb _) (Nat.zero_le _) (Nat.zero_le _) ?_
    refine ⟨rfl, ?_, rfl⟩
    (try simp only [b2i_eq0, b2i_ne0] at *)
    simp [sFit, b2i, *]
