/-! loops by number; what is owed -/
theorem lp_ge {i N : Nat} (hN : N < 2 ^ 31) (hi : i ≤ N) (c : nI N ≤ nI i) : i = N := by
  rcases Nat.lt_or_ge i N with q | q
  · exact absurd c (nI_ge q hN)
  · omega
theorem lp_lt {i N : Nat} (hi : i < 2 ^ 31) (c : ¬ nI N ≤ nI i) : i < N := by
  rcases Nat.lt_or_ge i N with q | q
  · exact q
  · exact absurd (nI_le q hi) c
theorem sW_ex {x : Int32} {m : Nat} (hm : m < 2 ^ 30) (h : sW x 0 (nI m) = true) : ∃ a : Nat, a ≤ m ∧ x = nI a := by
  unfold sW at h
  simp only [Bool.and_eq_true, Bool.not_eq_true', decide_eq_false_iff_not] at h
  obtain ⟨a, ha, rfl⟩ := nI_of h.1
  refine ⟨a, ?_, rfl⟩
  rcases Nat.lt_or_ge m a with q | q
  · exact absurd (nI_lt q ha) h.2
  · exact q
theorem sW_nI {a m : Nat} (hm : m < 2 ^ 30) (h : a ≤ m) : sW (nI a) 0 (nI m) = true := by
  unfold sW
  simp only [Bool.and_eq_true, Bool.not_eq_true', decide_eq_false_iff_not]
  exact ⟨nI_pos (by omega), nI_nlt h (by omega)⟩
def sumN (f : Nat → Int32) : Nat → Int32
  | 0 => 0
  | n + 1 => sumN f n + f n
def sNum (p q : Int32) : Bool := sW p 0 5 && sW q 0 5
theorem sNum_ex {p q : Int32} (h : sNum p q = true) : ∃ a b : Nat, a < 6 ∧ b < 6 ∧ p = nI a ∧ q = nI b := by
  unfold sNum at h
  rw [Bool.and_eq_true] at h
  obtain ⟨a, ha, rfl⟩ := sW_ex (m := 5) (by decide) h.1
  obtain ⟨b, hb, rfl⟩ := sW_ex (m := 5) (by decide) h.2
  exact ⟨a, b, by omega, by omega, rfl, rfl⟩
def sBtw (F : Nat → Nat → Int32) (p q : Int32) : Int32 := if sNum p q then F (9 + p.toNatClampNeg) q.toNatClampNeg else 0
def sBy (F : Nat → Nat → Int32) (p : Int32) : Int32 := sumN (fun q => sBtw F p (nI q)) 6
def sTo (F : Nat → Nat → Int32) (p : Int32) : Int32 := sumN (fun q => sBtw F (nI q) p) 6
def sBal (F : Nat → Nat → Int32) (p : Int32) : Int32 := sTo F p - sBy F p
def sSteps (F : Nat → Nat → Int32) : Int32 := sumN (fun p => if 0 < sBal F (nI p) then sBal F (nI p) else 0) 6
def adF (F : Nat → Nat → Int32) (p q s : Int32) : Nat → Nat → Int32 := if sNum p q then st_F F (9 + p.toNatClampNeg) (upd (F (9 + p.toNatClampNeg)) q.toNatClampNeg (F (9 + p.toNatClampNeg) q.toNatClampNeg + s)) else F
def fgF (F : Nat → Nat → Int32) (n : Nat) : Nat → Nat → Int32 := fun a => if 9 ≤ a ∧ a < 9 + n then zr (F a) 6 else F a
theorem fgF_0 (F : Nat → Nat → Int32) : fgF F 0 = F := by
  funext a
  unfold fgF
  rw [if_neg (by omega)]
theorem fgF_s (F : Nat → Nat → Int32) (n : Nat) : st_F (fgF F n) (9 + n) (zr (F (9 + n)) 6) = fgF F (n + 1) := by
  funext a
  unfold st_F fgF
  by_cases e : a = 9 + n
  · subst e
    rw [if_pos rfl, if_pos (by omega)]
  · rw [if_neg e]
    by_cases q : 9 ≤ a ∧ a < 9 + n
    · rw [if_pos q, if_pos (by omega)]
    · rw [if_neg q, if_neg (by omega)]
theorem and_in {m : Nat} (hm : m < 64) (y : Int32) : vp_in (nI m &&& y) 64 := by
  have e1 : nI m &&& 63 = nI m := by
    have := pk_andN (n := m) (by omega) (m := 63) 6 (by decide)
    rw [this, Nat.mod_eq_of_lt (by omega)]
  have e2 : nI m &&& y = (nI m &&& y) &&& 63 := by
    rw [Int32.and_assoc, Int32.and_comm y 63, ← Int32.and_assoc, e1]
  rw [e2]
  exact pk_andIn _ 6 (by decide) (by decide)
theorem clr_in (m : Nat) (hm : m < 64) (p : Nat) (_hp : p < 6) : vp_in (nI m &&& (sBit (nI p) ^^^ (-1))) 64 := and_in hm _
theorem vp_63 : vp_in ((64 : Int32) - 1) 64 := by
  unfold vp_in
  decide
theorem vp_0 {N : Nat} (h : 0 < N) (h2 : N < 2 ^ 31) : vp_in 0 N := vp_in_nI (n := 0) h h2
def sClr (set : Int32) (p : Int32) : Int32 := set &&& (sBit p ^^^ (-1))
def mgN (g b : Nat → Int32) (set : Int32) : Nat → Int32 × Int32
  | 0 => (0, 0)
  | p + 1 => if sHas set (nI p) then (if (mgN g b set p).1 < g (sClr set (nI p)).toNatClampNeg then g (sClr set (nI p)).toNatClampNeg else (mgN g b set p).1, (mgN g b set p).2 + b p) else mgN g b set p
def sMg (g b : Nat → Int32) (set : Int32) : Int32 := if (mgN g b set 6).2 = 0 then (mgN g b set 6).1 + 1 else (mgN g b set 6).1
def gpN (g b : Nat → Int32) : Nat → Nat → Int32
  | 0 => upd g 0 0
  | k + 1 => upd (gpN g b k) (k + 1) (sMg (gpN g b k) b (nI (k + 1)))
def blN (F : Nat → Nat → Int32) (f : Nat → Int32) (n : Nat) : Nat → Int32 := fun j => if j < n then sBal F (nI j) else f j
theorem blN_0 (F : Nat → Nat → Int32) (f : Nat → Int32) : blN F f 0 = f := by funext j; simp [blN]
theorem blN_s (F : Nat → Nat → Int32) (f : Nat → Int32) (i : Nat) : upd (blN F f i) i (sBal F (nI i)) = blN F f (i + 1) := by
  funext j
  unfold upd blN
  by_cases e : j = i
  · subst e; simp
  · by_cases q : j < i
    · simp [e, q, Nat.lt_succ_of_lt q]
    · simp [e, q, show ¬ j < i + 1 by omega]
section AAR
variable {l : Launch} {D : va_G} {tc : Nat → ClassId} {own : String} {cc : ByteArray} {nL : Nat} {ret : Option FieldType} {R : Room} {n0 mc ms : Nat} {Q : Option Value → Nat → aw_H → Prop} {pc : Nat} {L : List (Option Value)} {st rest : List Value} {n : Nat} {h : aw_H} {cells slots : Nat}
theorem aw_aaldR2 {o len r : Nat} {f : Nat → Option Nat} {i : Int32} (d : decode cc pc = .ok (.aaload, 1)) (ho : o < n) (he : h o = .inl (2, len, .inr (.inr (.inr (.inr f))))) (hin : vp_in i len) (hr : f i.toNatClampNeg = some r) (k : AW l D tc own cc nL ret R n0 mc ms Q (pc + 1) L (.ref r :: rest) n h cells slots) : AW l D tc own cc nL ret R n0 mc ms Q pc L (.int i :: .ref o :: rest) n h cells slots := aw_aald2 d ho he hin (by rw [hr]; exact k)
theorem aw_aaldR3 {o len r : Nat} {f : Nat → Option Nat} {i : Int32} (d : decode cc pc = .ok (.aaload, 1)) (ho : o < n) (he : h o = .inl (3, len, .inr (.inr (.inr (.inr f))))) (hin : vp_in i len) (hr : f i.toNatClampNeg = some r) (k : AW l D tc own cc nL ret R n0 mc ms Q (pc + 1) L (.ref r :: rest) n h cells slots) : AW l D tc own cc nL ret R n0 mc ms Q pc L (.int i :: .ref o :: rest) n h cells slots := aw_aald3 d ho he hin (by rw [hr]; exact k)
theorem aw_aaldR4 {o len r : Nat} {f : Nat → Option Nat} {i : Int32} (d : decode cc pc = .ok (.aaload, 1)) (ho : o < n) (he : h o = .inl (4, len, .inr (.inr (.inr (.inr f))))) (hin : vp_in i len) (hr : f i.toNatClampNeg = some r) (k : AW l D tc own cc nL ret R n0 mc ms Q (pc + 1) L (.ref r :: rest) n h cells slots) : AW l D tc own cc nL ret R n0 mc ms Q pc L (.int i :: .ref o :: rest) n h cells slots := aw_aald4 d ho he hin (by rw [hr]; exact k)
end AAR
theorem ow_at {a : Nat} (ha : a < 6) : (fun k => if k < 6 then some (9 + k) else none) (nI a).toNatClampNeg = some (9 + a) := by
  rw [nI_clamp (by omega)]
  exact if_pos ha

set_option maxRecDepth 100000 in
set_option maxHeartbeats 4000000 in
theorem c_X0_areNumbers {l : Launch} {D : va_G} {tc : Nat → ClassId} (x y : Int32) (n : Nat) (h : aw_H) : AM l D tc yX0_areNumbers cX0_areNumbers 2 (some .boolean) 1 22 0 0 [.int x, .int y] n h (fun v n1 h1 => n1 = n ∧ (v = some (.int (b2i (sNum x y))) ∧ h1 = h)) := by
  refine am_of (L := [some (.int x), some (.int y)]) (by decide +kernel) (Nat.le_of_ble_eq_true rfl) rfl ?_
  refine aw_iload_n dX0_areNumbers_0 rfl rfl ?_
  refine aw_iconst (v := 0) dX0_areNumbers_1 (by decide) ?_
  refine aw_iconst (v := 5) dX0_areNumbers_2 (by decide) ?_
  refine aw_callSN (host := RX8) cw_X8_isWithin (by decide +kernel) sm_X8_isWithin (c_X8_isWithin _ _ _ _ _) ⟨Nat.le_of_ble_eq_true rfl, Nat.le_of_ble_eq_true rfl⟩ ⟨Nat.zero_le _, Nat.zero_le _⟩ rfl rfl (Nat.le_of_ble_eq_true rfl) dX0_areNumbers_3 ?_
  rintro _ _ ⟨rfl, rfl⟩
  refine aw_if_eq (tgt := 22) dX0_areNumbers_6 (by decide) (fun c_6 => ?_) (fun c_6 => ?_)
  · refine aw_iconst (v := 0) dX0_areNumbers_22 (by decide) ?_
    refine aw_zret dX0_areNumbers_23 (by first | rfl | exact aw_nb _) (Nat.zero_le _) (Nat.zero_le _) ?_
    refine ⟨rfl, ?_, rfl⟩
    simp only [b2i_eq0, b2i_ne0] at *
    simp [b2i, sNum, *]
  · refine aw_iload_n dX0_areNumbers_9 rfl rfl ?_
    refine aw_iconst (v := 0) dX0_areNumbers_10 (by decide) ?_
    refine aw_iconst (v := 5) dX0_areNumbers_11 (by decide) ?_
    refine aw_callSN (host := RX8) cw_X8_isWithin (by decide +kernel) sm_X8_isWithin (c_X8_isWithin _ _ _ _ _) ⟨Nat.le_of_ble_eq_true rfl, Nat.le_of_ble_eq_true rfl⟩ ⟨Nat.zero_le _, Nat.zero_le _⟩ rfl rfl (Nat.le_of_ble_eq_true rfl) dX0_areNumbers_12 ?_
    rintro _ _ ⟨rfl, rfl⟩
    refine aw_if_eq (tgt := 22) dX0_areNumbers_15 (by decide) (fun c_15 => ?_) (fun c_15 => ?_)
    · refine aw_iconst (v := 0) dX0_areNumbers_22 (by decide) ?_
      refine aw_zret dX0_areNumbers_23 (by first | rfl | exact aw_nb _) (Nat.zero_le _) (Nat.zero_le _) ?_
      refine ⟨rfl, ?_, rfl⟩
      simp only [b2i_eq0, b2i_ne0] at *
      simp [b2i, sNum, *]
    · refine aw_iconst (v := 1) dX0_areNumbers_18 (by decide) ?_
      refine aw_goto (tgt := 23) dX0_areNumbers_19 (by decide) ?_
      refine aw_zret dX0_areNumbers_23 (by first | rfl | exact aw_nb _) (Nat.zero_le _) (Nat.zero_le _) ?_
      refine ⟨rfl, ?_, rfl⟩
      simp only [b2i_eq0, b2i_ne0] at *
      simp [b2i, sNum, *]
set_option maxRecDepth 100000 in
set_option maxHeartbeats 4000000 in
theorem c_X0_between {l : Launch} {D : va_G} {tc : Nat → ClassId} (pk : Nat → Nat) (G : Nat → Option Nat) (I F : Nat → Nat → Int32) (n : Nat) (hn : 30 ≤ n) (x y : Int32) : AM l D tc yX0_between cX0_between 3 (some .int) 2 43 0 0 [.ref 7, .int x, .int y] n (hC pk G I F) (fun v n1 h1 => n1 = n ∧ (v = some (.int (sBtw F x y)) ∧ h1 = (hC pk G I F))) := by
  refine am_of (L := [some (.ref 7), some (.int x), some (.int y)]) (by decide +kernel) (Nat.le_of_ble_eq_true rfl) rfl ?_
  refine aw_iload_n dX0_between_0 rfl rfl ?_
  refine aw_iload_n dX0_between_1 rfl rfl ?_
  refine aw_callS cw_X0_areNumbers ml_X0_27 sm_X0_areNumbers (c_X0_areNumbers _ _ _ _) ⟨Nat.le_of_ble_eq_true rfl, Nat.le_of_ble_eq_true rfl⟩ ⟨Nat.zero_le _, Nat.zero_le _⟩ rfl rfl (Nat.le_of_ble_eq_true rfl) dX0_between_2 ?_
  rintro _ _ ⟨rfl, rfl⟩
  refine aw_if_eq (tgt := 19) dX0_between_5 (by decide) (fun c_5 => ?_) (fun c_5 => ?_)
  · refine aw_iconst (v := 0) dX0_between_19 (by decide) ?_
    refine aw_iret dX0_between_20 (Nat.zero_le _) (Nat.zero_le _) ?_
    refine ⟨rfl, ?_, rfl⟩
    first | rw [sBtw, if_neg (by rw [(b2i_eq0 _).mp c_5]; decide)] | (rw [sBtw, if_pos hN, nI_clamp (n := a) (by omega)])
  · have hN := (b2i_ne0 _).mp c_5
    obtain ⟨a, b, ha, hb, rfl, rfl⟩ := sNum_ex hN
    refine aw_aload_n dX0_between_8 rfl rfl ?_
    refine aw_get fd_X0_11_0 dX0_between_9 (by omega) rfl rfl ?_
    refine aw_iload_n dX0_between_12 rfl rfl ?_
    refine aw_aaldR4 dX0_between_13 (by omega) rfl (vp_in_nI ha (by decide)) (ow_at ha) ?_
    refine aw_iload_n dX0_between_14 rfl rfl ?_
    refine aw_iald dX0_between_15 (by omega) (entC_owed _ _ ha _ _) (vp_in_nI hb (by decide)) ?_
    refine aw_goto (tgt := 20) dX0_between_16 (by decide) ?_
    refine aw_iret dX0_between_20 (Nat.zero_le _) (Nat.zero_le _) ?_
    refine ⟨rfl, ?_, rfl⟩
    first | rw [sBtw, if_neg (by rw [(b2i_eq0 _).mp c_5]; decide)] | (rw [sBtw, if_pos hN, nI_clamp (n := a) (by omega)])
set_option maxRecDepth 100000 in
set_option maxHeartbeats 4000000 in
theorem c_X0_add {l : Launch} {D : va_G} {tc : Nat → ClassId} (pk : Nat → Nat) (G : Nat → Option Nat) (I F : Nat → Nat → Int32) (n : Nat) (hn : 30 ≤ n) (x y s : Int32) : AM l D tc yX0_add cX0_add 4 none 2 43 0 0 [.ref 7, .int x, .int y, .int s] n (hC pk G I F) (fun v n1 h1 => n1 = n ∧ (v = none ∧ h1 = hC pk G I (adF F x y s))) := by
  refine am_of (L := [some (.ref 7), some (.int x), some (.int y), some (.int s)]) (by decide +kernel) (Nat.le_of_ble_eq_true rfl) rfl ?_
  refine aw_iload_n dX0_add_0 rfl rfl ?_
  refine aw_iload_n dX0_add_1 rfl rfl ?_
  refine aw_callS cw_X0_areNumbers ml_X0_27 sm_X0_areNumbers (c_X0_areNumbers _ _ _ _) ⟨Nat.le_of_ble_eq_true rfl, Nat.le_of_ble_eq_true rfl⟩ ⟨Nat.zero_le _, Nat.zero_le _⟩ rfl rfl (Nat.le_of_ble_eq_true rfl) dX0_add_2 ?_
  rintro _ _ ⟨rfl, rfl⟩
  refine aw_if_eq (tgt := 20) dX0_add_5 (by decide) (fun c_5 => ?_) (fun c_5 => ?_)
  · refine aw_vret dX0_add_20 (Nat.zero_le _) (Nat.zero_le _) ?_
    refine ⟨rfl, rfl, ?_⟩
    first | rw [adF, if_neg (by rw [(b2i_eq0 _).mp c_5]; decide)] | (rw [adF, if_pos hN, nI_clamp (n := a) (by omega)])
  · have hN := (b2i_ne0 _).mp c_5
    obtain ⟨a, b, ha, hb, rfl, rfl⟩ := sNum_ex hN
    refine aw_aload_n dX0_add_8 rfl rfl ?_
    refine aw_get fd_X0_11_0 dX0_add_9 (by omega) rfl rfl ?_
    refine aw_iload_n dX0_add_12 rfl rfl ?_
    refine aw_aaldR4 dX0_add_13 (by omega) rfl (vp_in_nI ha (by decide)) (ow_at ha) ?_
    refine aw_iload_n dX0_add_14 rfl rfl ?_
    refine aw_dup2 dX0_add_15 rfl rfl ?_
    refine aw_iald dX0_add_16 (by omega) (entC_owed _ _ ha _ _) (vp_in_nI hb (by decide)) ?_
    refine aw_iload_n dX0_add_17 rfl rfl ?_
    refine aw_iadd dX0_add_18 ?_
    refine aw_iasti dX0_add_19 (by omega) (entC_owed _ _ ha _ _) (fun _ => entC_owed _ _ ha _ _) (vp_in_nI hb (by decide)) ?_
    refine aw_vret dX0_add_20 (Nat.zero_le _) (Nat.zero_le _) ?_
    refine ⟨rfl, rfl, ?_⟩
    first | rw [adF, if_neg (by rw [(b2i_eq0 _).mp c_5]; decide)] | (rw [adF, if_pos hN, nI_clamp (n := a) (by omega)])
set_option maxRecDepth 100000 in
set_option maxHeartbeats 4000000 in
theorem lp_X0_owedBy {l : Launch} {D : va_G} {tc : Nat → ClassId} (pk : Nat → Nat) (G : Nat → Option Nat) (I F : Nat → Nat → Int32) (n : Nat) (hn : 30 ≤ n) (x : Int32) : ∀ (m i : Nat), i + m = 6 → AW l D tc yX0_owedBy.cls cX0_owedBy 4 (some .int) { frames := 3, cells := 0, slots := 0, locals := 65 } n 0 0 (fun v n1 h1 => n1 = n ∧ (v = some (.int (sBy F x)) ∧ h1 = (hC pk G I F))) 4 [some (.ref 7), some (.int x), some (.int (sumN (fun q => sBtw F x (nI q)) i)), some (.int (nI i))] [] n (hC pk G I F) 0 0 := by
  intro m
  induction m using Nat.strongRecOn with
  | _ m ih =>
    intro i hi
    refine aw_iload_n dX0_owedBy_4 rfl rfl ?_
    refine aw_bipush (v := (6)) dX0_owedBy_5 (by decide) ?_
    refine aw_icmp_ge (tgt := 25) dX0_owedBy_7 (by decide) (fun c_7 => ?_) (fun c_7 => ?_)
    · have hi6 := lp_ge (N := 6) (by decide) (by omega) c_7
      subst hi6
      refine aw_iload_n dX0_owedBy_25 rfl rfl ?_
      refine aw_iret dX0_owedBy_26 (Nat.zero_le _) (Nat.zero_le _) ?_
      exact ⟨rfl, rfl, rfl⟩
    · have hi6 := lp_lt (N := 6) (by omega) c_7
      refine aw_iload_n dX0_owedBy_10 rfl rfl ?_
      refine aw_aload_n dX0_owedBy_11 rfl rfl ?_
      refine aw_iload_n dX0_owedBy_12 rfl rfl ?_
      refine aw_iload_n dX0_owedBy_13 rfl rfl ?_
      refine aw_callV cw_X0_between ml_X0_31 im_X0_between sl_X0_X0_between rfl (by omega) rfl (c_X0_between pk G _ _ n hn _ _) ⟨Nat.le_of_ble_eq_true rfl, Nat.le_of_ble_eq_true rfl⟩ ⟨Nat.zero_le _, Nat.zero_le _⟩ rfl rfl (Nat.le_of_ble_eq_true rfl) dX0_owedBy_14 ?_
      rintro _ _ ⟨rfl, rfl⟩
      refine aw_iadd dX0_owedBy_17 ?_
      refine aw_istore_n dX0_owedBy_18 rfl (by decide) rfl ?_
      refine aw_iinc (v := 1) dX0_owedBy_19 rfl (by decide) (by decide) rfl ?_
      refine aw_goto (tgt := 4) dX0_owedBy_22 (by decide) ?_
      rw [nI_1]
      exact ih (m - 1) (by omega) (i + 1) (by omega)
set_option maxRecDepth 100000 in
set_option maxHeartbeats 4000000 in
theorem c_X0_owedBy {l : Launch} {D : va_G} {tc : Nat → ClassId} (pk : Nat → Nat) (G : Nat → Option Nat) (I F : Nat → Nat → Int32) (n : Nat) (hn : 30 ≤ n) (x : Int32) : AM l D tc yX0_owedBy cX0_owedBy 4 (some .int) 3 65 0 0 [.ref 7, .int x] n (hC pk G I F) (fun v n1 h1 => n1 = n ∧ (v = some (.int (sBy F x)) ∧ h1 = (hC pk G I F))) := by
  refine am_of (L := [some (.ref 7), some (.int x), none, none]) (by decide +kernel) (Nat.le_of_ble_eq_true rfl) rfl ?_
  refine aw_iconst (v := 0) dX0_owedBy_0 (by decide) ?_
  refine aw_istore_n dX0_owedBy_1 rfl (by decide) rfl ?_
  refine aw_iconst (v := 0) dX0_owedBy_2 (by decide) ?_
  refine aw_istore_n dX0_owedBy_3 rfl (by decide) rfl ?_
  exact lp_X0_owedBy pk G I F n hn x 6 0 (by omega)
set_option maxRecDepth 100000 in
set_option maxHeartbeats 4000000 in
theorem lp_X0_owedTo {l : Launch} {D : va_G} {tc : Nat → ClassId} (pk : Nat → Nat) (G : Nat → Option Nat) (I F : Nat → Nat → Int32) (n : Nat) (hn : 30 ≤ n) (x : Int32) : ∀ (m i : Nat), i + m = 6 → AW l D tc yX0_owedTo.cls cX0_owedTo 4 (some .int) { frames := 3, cells := 0, slots := 0, locals := 65 } n 0 0 (fun v n1 h1 => n1 = n ∧ (v = some (.int (sTo F x)) ∧ h1 = (hC pk G I F))) 4 [some (.ref 7), some (.int x), some (.int (sumN (fun q => sBtw F (nI q) x) i)), some (.int (nI i))] [] n (hC pk G I F) 0 0 := by
  intro m
  induction m using Nat.strongRecOn with
  | _ m ih =>
    intro i hi
    refine aw_iload_n dX0_owedTo_4 rfl rfl ?_
    refine aw_bipush (v := (6)) dX0_owedTo_5 (by decide) ?_
    refine aw_icmp_ge (tgt := 25) dX0_owedTo_7 (by decide) (fun c_7 => ?_) (fun c_7 => ?_)
    · have hi6 := lp_ge (N := 6) (by decide) (by omega) c_7
      subst hi6
      refine aw_iload_n dX0_owedTo_25 rfl rfl ?_
      refine aw_iret dX0_owedTo_26 (Nat.zero_le _) (Nat.zero_le _) ?_
      exact ⟨rfl, rfl, rfl⟩
    · have hi6 := lp_lt (N := 6) (by omega) c_7
      refine aw_iload_n dX0_owedTo_10 rfl rfl ?_
      refine aw_aload_n dX0_owedTo_11 rfl rfl ?_
      refine aw_iload_n dX0_owedTo_12 rfl rfl ?_
      refine aw_iload_n dX0_owedTo_13 rfl rfl ?_
      refine aw_callV cw_X0_between ml_X0_31 im_X0_between sl_X0_X0_between rfl (by omega) rfl (c_X0_between pk G _ _ n hn _ _) ⟨Nat.le_of_ble_eq_true rfl, Nat.le_of_ble_eq_true rfl⟩ ⟨Nat.zero_le _, Nat.zero_le _⟩ rfl rfl (Nat.le_of_ble_eq_true rfl) dX0_owedTo_14 ?_
      rintro _ _ ⟨rfl, rfl⟩
      refine aw_iadd dX0_owedTo_17 ?_
      refine aw_istore_n dX0_owedTo_18 rfl (by decide) rfl ?_
      refine aw_iinc (v := 1) dX0_owedTo_19 rfl (by decide) (by decide) rfl ?_
      refine aw_goto (tgt := 4) dX0_owedTo_22 (by decide) ?_
      rw [nI_1]
      exact ih (m - 1) (by omega) (i + 1) (by omega)
set_option maxRecDepth 100000 in
set_option maxHeartbeats 4000000 in
theorem c_X0_owedTo {l : Launch} {D : va_G} {tc : Nat → ClassId} (pk : Nat → Nat) (G : Nat → Option Nat) (I F : Nat → Nat → Int32) (n : Nat) (hn : 30 ≤ n) (x : Int32) : AM l D tc yX0_owedTo cX0_owedTo 4 (some .int) 3 65 0 0 [.ref 7, .int x] n (hC pk G I F) (fun v n1 h1 => n1 = n ∧ (v = some (.int (sTo F x)) ∧ h1 = (hC pk G I F))) := by
  refine am_of (L := [some (.ref 7), some (.int x), none, none]) (by decide +kernel) (Nat.le_of_ble_eq_true rfl) rfl ?_
  refine aw_iconst (v := 0) dX0_owedTo_0 (by decide) ?_
  refine aw_istore_n dX0_owedTo_1 rfl (by decide) rfl ?_
  refine aw_iconst (v := 0) dX0_owedTo_2 (by decide) ?_
  refine aw_istore_n dX0_owedTo_3 rfl (by decide) rfl ?_
  exact lp_X0_owedTo pk G I F n hn x 6 0 (by omega)
set_option maxRecDepth 100000 in
set_option maxHeartbeats 4000000 in
theorem c_X0_balanceOf {l : Launch} {D : va_G} {tc : Nat → ClassId} (pk : Nat → Nat) (G : Nat → Option Nat) (I F : Nat → Nat → Int32) (n : Nat) (hn : 30 ≤ n) (x : Int32) : AM l D tc yX0_balanceOf cX0_balanceOf 2 (some .int) 4 88 0 0 [.ref 7, .int x] n (hC pk G I F) (fun v n1 h1 => n1 = n ∧ (v = some (.int (sBal F x)) ∧ h1 = (hC pk G I F))) := by
  refine am_of (L := [some (.ref 7), some (.int x)]) (by decide +kernel) (Nat.le_of_ble_eq_true rfl) rfl ?_
  refine aw_aload_n dX0_balanceOf_0 rfl rfl ?_
  refine aw_iload_n dX0_balanceOf_1 rfl rfl ?_
  refine aw_callV cw_X0_owedTo ml_X0_35 im_X0_owedTo sl_X0_X0_owedTo rfl (by omega) rfl (c_X0_owedTo pk G _ _ n hn _) ⟨Nat.le_of_ble_eq_true rfl, Nat.le_of_ble_eq_true rfl⟩ ⟨Nat.zero_le _, Nat.zero_le _⟩ rfl rfl (Nat.le_of_ble_eq_true rfl) dX0_balanceOf_2 ?_
  rintro _ _ ⟨rfl, rfl⟩
  refine aw_aload_n dX0_balanceOf_5 rfl rfl ?_
  refine aw_iload_n dX0_balanceOf_6 rfl rfl ?_
  refine aw_callV cw_X0_owedBy ml_X0_39 im_X0_owedBy sl_X0_X0_owedBy rfl (by omega) rfl (c_X0_owedBy pk G _ _ n hn _) ⟨Nat.le_of_ble_eq_true rfl, Nat.le_of_ble_eq_true rfl⟩ ⟨Nat.zero_le _, Nat.zero_le _⟩ rfl rfl (Nat.le_of_ble_eq_true rfl) dX0_balanceOf_7 ?_
  rintro _ _ ⟨rfl, rfl⟩
  refine aw_isub dX0_balanceOf_10 ?_
  refine aw_iret dX0_balanceOf_11 (Nat.zero_le _) (Nat.zero_le _) ?_
  exact ⟨rfl, rfl, rfl⟩
set_option maxRecDepth 100000 in
set_option maxHeartbeats 4000000 in
theorem lp_X0_leastSteps {l : Launch} {D : va_G} {tc : Nat → ClassId} (pk : Nat → Nat) (G : Nat → Option Nat) (I F : Nat → Nat → Int32) (n : Nat) (hn : 30 ≤ n) : ∀ (m i : Nat), i + m = 6 → AW l D tc yX0_leastSteps.cls cX0_leastSteps 3 (some .int) { frames := 5, cells := 0, slots := 0, locals := 109 } n 0 0 (fun v n1 h1 => n1 = n ∧ (v = some (.int (sSteps F)) ∧ h1 = (hC pk G I F))) 4 [some (.ref 7), some (.int (sumN (fun p => if 0 < sBal F (nI p) then sBal F (nI p) else 0) i)), some (.int (nI i))] [] n (hC pk G I F) 0 0 := by
  intro m
  induction m using Nat.strongRecOn with
  | _ m ih =>
    intro i hi
    refine aw_iload_n dX0_leastSteps_4 rfl rfl ?_
    refine aw_bipush (v := (6)) dX0_leastSteps_5 (by decide) ?_
    refine aw_icmp_ge (tgt := 28) dX0_leastSteps_7 (by decide) (fun c_7 => ?_) (fun c_7 => ?_)
    · have hi6 := lp_ge (N := 6) (by decide) (by omega) c_7
      subst hi6
      refine aw_iload_n dX0_leastSteps_28 rfl rfl ?_
      refine aw_iret dX0_leastSteps_29 (Nat.zero_le _) (Nat.zero_le _) ?_
      exact ⟨rfl, rfl, rfl⟩
    · have hi6 := lp_lt (N := 6) (by omega) c_7
      refine aw_iload_n dX0_leastSteps_10 rfl rfl ?_
      refine aw_iconst (v := 0) dX0_leastSteps_11 (by decide) ?_
      refine aw_aload_n dX0_leastSteps_12 rfl rfl ?_
      refine aw_iload_n dX0_leastSteps_13 rfl rfl ?_
      refine aw_callV cw_X0_balanceOf ml_X0_42 im_X0_balanceOf sl_X0_X0_balanceOf rfl (by omega) rfl (c_X0_balanceOf pk G _ _ n hn _) ⟨Nat.le_of_ble_eq_true rfl, Nat.le_of_ble_eq_true rfl⟩ ⟨Nat.zero_le _, Nat.zero_le _⟩ rfl rfl (Nat.le_of_ble_eq_true rfl) dX0_leastSteps_14 ?_
      rintro _ _ ⟨rfl, rfl⟩
      refine aw_max ml_X0_45 ⟨Nat.le_of_ble_eq_true rfl, Nat.le_of_ble_eq_true rfl⟩ ⟨Nat.zero_le _, Nat.zero_le _⟩ (Nat.le_of_ble_eq_true rfl) dX0_leastSteps_17 ?_
      refine aw_iadd dX0_leastSteps_20 ?_
      refine aw_istore_n dX0_leastSteps_21 rfl (by decide) rfl ?_
      refine aw_iinc (v := 1) dX0_leastSteps_22 rfl (by decide) (by decide) rfl ?_
      refine aw_goto (tgt := 4) dX0_leastSteps_25 (by decide) ?_
      rw [nI_1]
      exact ih (m - 1) (by omega) (i + 1) (by omega)
set_option maxRecDepth 100000 in
set_option maxHeartbeats 4000000 in
theorem c_X0_leastSteps {l : Launch} {D : va_G} {tc : Nat → ClassId} (pk : Nat → Nat) (G : Nat → Option Nat) (I F : Nat → Nat → Int32) (n : Nat) (hn : 30 ≤ n) : AM l D tc yX0_leastSteps cX0_leastSteps 3 (some .int) 5 109 0 0 [.ref 7] n (hC pk G I F) (fun v n1 h1 => n1 = n ∧ (v = some (.int (sSteps F)) ∧ h1 = (hC pk G I F))) := by
  refine am_of (L := [some (.ref 7), none, none]) (by decide +kernel) (Nat.le_of_ble_eq_true rfl) rfl ?_
  refine aw_iconst (v := 0) dX0_leastSteps_0 (by decide) ?_
  refine aw_istore_n dX0_leastSteps_1 rfl (by decide) rfl ?_
  refine aw_iconst (v := 0) dX0_leastSteps_2 (by decide) ?_
  refine aw_istore_n dX0_leastSteps_3 rfl (by decide) rfl ?_
  exact lp_X0_leastSteps pk G I F n hn 6 0 (by omega)
set_option maxRecDepth 100000 in
set_option maxHeartbeats 4000000 in
theorem lp_X0_forget2 {l : Launch} {D : va_G} {tc : Nat → ClassId} (pk : Nat → Nat) (G : Nat → Option Nat) (I F : Nat → Nat → Int32) (n : Nat) (hn : 30 ≤ n) (Q : Option Value → Nat → aw_H → Prop) (f0 : Nat → Int32) {a : Nat} (ha : a < 6) (hk9 : AW l D tc yX0_forget.cls cX0_forget 3 none { frames := 0, cells := 0, slots := 0, locals := 0 } n 0 0 Q 31 [some (.ref 7), some (.int (nI a)), some (.int (nI 6))] [] n (hC pk G I (st_F F (9 + a) (zr f0 6))) 0 0) : ∀ (m i : Nat), i + m = 6 → AW l D tc yX0_forget.cls cX0_forget 3 none { frames := 0, cells := 0, slots := 0, locals := 0 } n 0 0 Q 10 [some (.ref 7), some (.int (nI a)), some (.int (nI i))] [] n (hC pk G I (st_F F (9 + a) (zr f0 i))) 0 0 := by
  intro m
  induction m using Nat.strongRecOn with
  | _ m ih =>
    intro i hi
    refine aw_iload_n dX0_forget_10 rfl rfl ?_
    refine aw_bipush (v := (6)) dX0_forget_11 (by decide) ?_
    refine aw_icmp_ge (tgt := 31) dX0_forget_13 (by decide) (fun c_13 => ?_) (fun c_13 => ?_)
    · have hi6 := lp_ge (N := 6) (by decide) (by omega) c_13
      subst hi6
      exact hk9
    · have hi6 := lp_lt (N := 6) (by omega) c_13
      refine aw_aload_n dX0_forget_16 rfl rfl ?_
      refine aw_get fd_X0_11_0 dX0_forget_17 (by omega) rfl rfl ?_
      refine aw_iload_n dX0_forget_20 rfl rfl ?_
      refine aw_aaldR4 dX0_forget_21 (by omega) rfl (vp_in_nI ha (by decide)) (ow_at ha) ?_
      refine aw_iload_n dX0_forget_22 rfl rfl ?_
      refine aw_iconst (v := 0) dX0_forget_23 (by decide) ?_
      refine aw_iastI dX0_forget_24 (by omega) (entC_owed _ _ ha _ _) (fun _ => entC_owed _ _ ha _ _) (vp_in_nI hi6 (by decide)) (by show st_F (st_F F (9 + a) (zr f0 i)) (9 + a) (upd (st_F F (9 + a) (zr f0 i) (9 + a)) _ 0) = _; rw [st_Fs, st_FF, nI_clamp (by omega), zr_s]) ?_
      refine aw_iinc (v := 1) dX0_forget_25 rfl (by decide) (by decide) rfl ?_
      refine aw_goto (tgt := 10) dX0_forget_28 (by decide) ?_
      rw [nI_1]
      exact ih (m - 1) (by omega) (i + 1) (by omega)
set_option maxRecDepth 100000 in
set_option maxHeartbeats 4000000 in
theorem lp_X0_forget {l : Launch} {D : va_G} {tc : Nat → ClassId} (pk : Nat → Nat) (G : Nat → Option Nat) (I F : Nat → Nat → Int32) (n : Nat) (hn : 30 ≤ n) : ∀ (m i : Nat), i + m = 6 → ∀ w : Option Value,  AW l D tc yX0_forget.cls cX0_forget 3 none { frames := 0, cells := 0, slots := 0, locals := 0 } n 0 0 (fun v n1 h1 => n1 = n ∧ (v = none ∧ h1 = hC pk G I (fgF F 6))) 2 [some (.ref 7), some (.int (nI i)), w] [] n (hC pk G I (fgF F i)) 0 0 := by
  intro m
  induction m using Nat.strongRecOn with
  | _ m ih =>
    intro i hi w
    refine aw_iload_n dX0_forget_2 rfl rfl ?_
    refine aw_bipush (v := (6)) dX0_forget_3 (by decide) ?_
    refine aw_icmp_ge (tgt := 37) dX0_forget_5 (by decide) (fun c_5 => ?_) (fun c_5 => ?_)
    · have hi6 := lp_ge (N := 6) (by decide) (by omega) c_5
      subst hi6
      refine aw_vret dX0_forget_37 (Nat.zero_le _) (Nat.zero_le _) ?_
      exact ⟨rfl, rfl, rfl⟩
    · have hi6 := lp_lt (N := 6) (by omega) c_5
      refine aw_iconst (v := 0) dX0_forget_8 (by decide) ?_
      refine aw_istore_n dX0_forget_9 rfl (by decide) rfl ?_
      have e9 : fgF F i = st_F (fgF F i) (9 + i) (zr (F (9 + i)) 0) := by
        rw [zr_0]
        have : fgF F i (9 + i) = F (9 + i) := by unfold fgF; rw [if_neg (by omega)]
        rw [← this, st_F0]
      rw [e9]
      refine lp_X0_forget2 pk G I (fgF F i) n hn _ (F (9 + i)) hi6 ?_ 6 0 (by omega)
      rw [fgF_s]
      refine aw_iinc (v := 1) dX0_forget_31 rfl (by decide) (by decide) rfl ?_
      refine aw_goto (tgt := 2) dX0_forget_34 (by decide) ?_
      rw [nI_1]
      exact ih (m - 1) (by omega) (i + 1) (by omega) _
set_option maxRecDepth 100000 in
set_option maxHeartbeats 4000000 in
theorem c_X0_forget {l : Launch} {D : va_G} {tc : Nat → ClassId} (pk : Nat → Nat) (G : Nat → Option Nat) (I F : Nat → Nat → Int32) (n : Nat) (hn : 30 ≤ n) : AM l D tc yX0_forget cX0_forget 3 none 0 0 0 0 [.ref 7] n (hC pk G I F) (fun v n1 h1 => n1 = n ∧ (v = none ∧ h1 = hC pk G I (fgF F 6))) := by
  refine am_of (L := [some (.ref 7), none, none]) (by decide +kernel) (Nat.le_of_ble_eq_true rfl) rfl ?_
  refine aw_iconst (v := 0) dX0_forget_0 (by decide) ?_
  refine aw_istore_n dX0_forget_1 rfl (by decide) rfl ?_
  have hl := lp_X0_forget (l := l) (D := D) (tc := tc) pk G I F n hn 6 0 (by omega) none
  rw [fgF_0] at hl
  exact hl
set_option maxRecDepth 100000 in
set_option maxHeartbeats 4000000 in
theorem lp_X0_mostGroups {l : Launch} {D : va_G} {tc : Nat → ClassId} (pk : Nat → Nat) (G : Nat → Option Nat) (I F : Nat → Nat → Int32) (n : Nat) (hn : 30 ≤ n) {z : Nat} (hz : z < 64) : ∀ (m i : Nat) (x y : Int32), i + m = 6 → mgN (F 16) (F 15) (nI z) i = (x, y) → AW l D tc yX0_mostGroups.cls cX0_mostGroups 5 (some .int) { frames := 2, cells := 0, slots := 0, locals := 41 } n 0 0 (fun v n1 h1 => n1 = n ∧ (v = some (.int (sMg (F 16) (F 15) (nI z))) ∧ h1 = (hC pk G I F))) 7 [some (.ref 7), some (.int (nI z)), some (.int x), some (.int y), some (.int (nI i))] [] n (hC pk G I F) 0 0 := by
  intro m
  induction m using Nat.strongRecOn with
  | _ m ih =>
    intro i x y hi hq
    refine aw_iload dX0_mostGroups_7 rfl ?_
    refine aw_bipush (v := (6)) dX0_mostGroups_9 (by decide) ?_
    refine aw_icmp_ge (tgt := 58) dX0_mostGroups_11 (by decide) (fun c_11 => ?_) (fun c_11 => ?_)
    · have hi6 := lp_ge (N := 6) (by decide) (by omega) c_11
      subst hi6
      refine aw_iload_n dX0_mostGroups_58 rfl rfl ?_
      refine aw_if_ne (tgt := 68) dX0_mostGroups_59 (by decide) (fun c_59 => ?_) (fun c_59 => ?_)
      · refine aw_iload_n dX0_mostGroups_68 rfl rfl ?_
        refine aw_iret dX0_mostGroups_69 (Nat.zero_le _) (Nat.zero_le _) ?_
        refine ⟨rfl, ?_, rfl⟩
        rw [sMg, hq]
        simp [*]
      · refine aw_iload_n dX0_mostGroups_62 rfl rfl ?_
        refine aw_iconst (v := 1) dX0_mostGroups_63 (by decide) ?_
        refine aw_iadd dX0_mostGroups_64 ?_
        refine aw_goto (tgt := 69) dX0_mostGroups_65 (by decide) ?_
        refine aw_iret dX0_mostGroups_69 (Nat.zero_le _) (Nat.zero_le _) ?_
        refine ⟨rfl, ?_, rfl⟩
        rw [sMg, hq]
        simp [*]
    · have hi6 := lp_lt (N := 6) (by omega) c_11
      refine aw_iload_n dX0_mostGroups_14 rfl rfl ?_
      refine aw_iload dX0_mostGroups_15 rfl ?_
      refine aw_callSN (host := RX8) cw_X8_has (by decide +kernel) sm_X8_has (c_X8_has _ _ _ _) ⟨Nat.le_of_ble_eq_true rfl, Nat.le_of_ble_eq_true rfl⟩ ⟨Nat.zero_le _, Nat.zero_le _⟩ rfl rfl (Nat.le_of_ble_eq_true rfl) dX0_mostGroups_17 ?_
      rintro _ _ ⟨rfl, rfl⟩
      refine aw_if_eq (tgt := 52) dX0_mostGroups_20 (by decide) (fun c_20 => ?_) (fun c_20 => ?_)
      · refine aw_iinc (v := 1) dX0_mostGroups_52 rfl (by decide) (by decide) rfl ?_
        refine aw_goto (tgt := 7) dX0_mostGroups_55 (by decide) ?_
        rw [nI_1]
        exact ih (m - 1) (by omega) (i + 1) _ _ (by omega) (by rw [mgN, hq]; simp only [b2i_eq0, b2i_ne0] at *; simp [sClr, nI_clamp (show i < 2 ^ 31 by omega), *])
      · refine aw_iload_n dX0_mostGroups_23 rfl rfl ?_
        refine aw_aload_n dX0_mostGroups_24 rfl rfl ?_
        refine aw_get fd_X0_20_0 dX0_mostGroups_25 (by omega) rfl rfl ?_
        refine aw_iload_n dX0_mostGroups_28 rfl rfl ?_
        refine aw_iload dX0_mostGroups_29 rfl ?_
        refine aw_callSN (host := RX8) cw_X8_bit (by decide +kernel) sm_X8_bit (c_X8_bit _ _ _) ⟨Nat.le_of_ble_eq_true rfl, Nat.le_of_ble_eq_true rfl⟩ ⟨Nat.zero_le _, Nat.zero_le _⟩ rfl rfl (Nat.le_of_ble_eq_true rfl) dX0_mostGroups_31 ?_
        rintro _ _ ⟨rfl, rfl⟩
        refine aw_iconst (v := (-1)) dX0_mostGroups_34 (by decide) ?_
        refine aw_ixor dX0_mostGroups_35 ?_
        refine aw_iand dX0_mostGroups_36 ?_
        refine aw_iald dX0_mostGroups_37 (by omega) rfl (clr_in _ hz _ hi6) ?_
        refine aw_max ml_X0_45 ⟨Nat.le_of_ble_eq_true rfl, Nat.le_of_ble_eq_true rfl⟩ ⟨Nat.zero_le _, Nat.zero_le _⟩ (Nat.le_of_ble_eq_true rfl) dX0_mostGroups_38 ?_
        refine aw_istore_n dX0_mostGroups_41 rfl (by decide) rfl ?_
        refine aw_iload_n dX0_mostGroups_42 rfl rfl ?_
        refine aw_aload_n dX0_mostGroups_43 rfl rfl ?_
        refine aw_get fd_X0_16_0 dX0_mostGroups_44 (by omega) rfl rfl ?_
        refine aw_iload dX0_mostGroups_47 rfl ?_
        refine aw_iald dX0_mostGroups_49 (by omega) rfl (by first | assumption | exact vp_in_nI (by omega) (by decide) | decide) ?_
        refine aw_iadd dX0_mostGroups_50 ?_
        refine aw_istore_n dX0_mostGroups_51 rfl (by decide) rfl ?_
        refine aw_iinc (v := 1) dX0_mostGroups_52 rfl (by decide) (by decide) rfl ?_
        refine aw_goto (tgt := 7) dX0_mostGroups_55 (by decide) ?_
        rw [nI_1]
        exact ih (m - 1) (by omega) (i + 1) _ _ (by omega) (by rw [mgN, hq]; simp only [b2i_eq0, b2i_ne0] at *; simp [sClr, nI_clamp (show i < 2 ^ 31 by omega), *])
set_option maxRecDepth 100000 in
set_option maxHeartbeats 4000000 in
theorem c_X0_mostGroups {l : Launch} {D : va_G} {tc : Nat → ClassId} (pk : Nat → Nat) (G : Nat → Option Nat) (I F : Nat → Nat → Int32) (n : Nat) (hn : 30 ≤ n) {z : Nat} (hz : z < 64) : AM l D tc yX0_mostGroups cX0_mostGroups 5 (some .int) 2 41 0 0 [.ref 7, .int (nI z)] n (hC pk G I F) (fun v n1 h1 => n1 = n ∧ (v = some (.int (sMg (F 16) (F 15) (nI z))) ∧ h1 = (hC pk G I F))) := by
  refine am_of (L := [some (.ref 7), some (.int (nI z)), none, none, none]) (by decide +kernel) (Nat.le_of_ble_eq_true rfl) rfl ?_
  refine aw_iconst (v := 0) dX0_mostGroups_0 (by decide) ?_
  refine aw_istore_n dX0_mostGroups_1 rfl (by decide) rfl ?_
  refine aw_iconst (v := 0) dX0_mostGroups_2 (by decide) ?_
  refine aw_istore_n dX0_mostGroups_3 rfl (by decide) rfl ?_
  refine aw_iconst (v := 0) dX0_mostGroups_4 (by decide) ?_
  refine aw_istore dX0_mostGroups_5 (by decide) rfl ?_
  exact lp_X0_mostGroups pk G I F n hn hz 6 0 0 0 (by omega) rfl
def lpF (F : Nat → Nat → Int32) (k : Nat) : Nat → Nat → Int32 := st_F (st_F F 15 (blN F (F 15) 6)) 16 (gpN (F 16) (blN F (F 15) 6) k)
theorem sBal_F (F : Nat → Nat → Int32) (g : Nat → Int32) (x : Int32) : sBal (st_F F 15 g) x = sBal F x := by
  have h : ∀ p q, sBtw (st_F F 15 g) p q = sBtw F p q := by
    intro p q
    unfold sBtw
    by_cases hN : sNum p q = true
    · obtain ⟨a, b, ha, hb, rfl, rfl⟩ := sNum_ex hN
      rw [if_pos hN, if_pos hN, nI_clamp (by omega), st_Fn (by omega)]
    · rw [if_neg hN, if_neg hN]
  unfold sBal sTo sBy
  simp only [h]

set_option maxRecDepth 100000 in
set_option maxHeartbeats 4000000 in
theorem lp_X0_leastPayments1 {l : Launch} {D : va_G} {tc : Nat → ClassId} (pk : Nat → Nat) (G : Nat → Option Nat) (I F : Nat → Nat → Int32) (n : Nat) (hn : 30 ≤ n) (Q : Option Value → Nat → aw_H → Prop) (hk9 : AW l D tc yX0_leastPayments.cls cX0_leastPayments 2 (some .int) { frames := 5, cells := 0, slots := 0, locals := 109 } n 0 0 Q 25 [some (.ref 7), some (.int (nI 6))] [] n (hC pk G I (st_F F 15 (blN F (F 15) 6))) 0 0) : ∀ (m i : Nat), i + m = 6 → AW l D tc yX0_leastPayments.cls cX0_leastPayments 2 (some .int) { frames := 5, cells := 0, slots := 0, locals := 109 } n 0 0 Q 2 [some (.ref 7), some (.int (nI i))] [] n (hC pk G I (st_F F 15 (blN F (F 15) i))) 0 0 := by
  intro m
  induction m using Nat.strongRecOn with
  | _ m ih =>
    intro i hi
    refine aw_iload_n dX0_leastPayments_2 rfl rfl ?_
    refine aw_bipush (v := (6)) dX0_leastPayments_3 (by decide) ?_
    refine aw_icmp_ge (tgt := 25) dX0_leastPayments_5 (by decide) (fun c_5 => ?_) (fun c_5 => ?_)
    · have hi6 := lp_ge (N := 6) (by decide) (by omega) c_5
      subst hi6
      exact hk9
    · have hi6 := lp_lt (N := 6) (by omega) c_5
      refine aw_aload_n dX0_leastPayments_8 rfl rfl ?_
      refine aw_get fd_X0_16_0 dX0_leastPayments_9 (by omega) rfl rfl ?_
      refine aw_iload_n dX0_leastPayments_12 rfl rfl ?_
      refine aw_aload_n dX0_leastPayments_13 rfl rfl ?_
      refine aw_iload_n dX0_leastPayments_14 rfl rfl ?_
      refine aw_callV cw_X0_balanceOf ml_X0_42 im_X0_balanceOf sl_X0_X0_balanceOf rfl (by omega) rfl (c_X0_balanceOf pk G _ _ n hn _) ⟨Nat.le_of_ble_eq_true rfl, Nat.le_of_ble_eq_true rfl⟩ ⟨Nat.zero_le _, Nat.zero_le _⟩ rfl rfl (Nat.le_of_ble_eq_true rfl) dX0_leastPayments_15 ?_
      rintro _ _ ⟨rfl, rfl⟩
      refine aw_iastI dX0_leastPayments_18 (by omega) rfl (fun _ => rfl) (vp_in_nI hi6 (by decide)) (by show st_F (st_F F 15 (blN F (F 15) i)) 15 (upd (st_F F 15 (blN F (F 15) i) 15) _ (sBal (st_F F 15 (blN F (F 15) i)) (nI i))) = _; rw [st_Fs, st_FF, nI_clamp (by omega), sBal_F, blN_s]) ?_
      refine aw_iinc (v := 1) dX0_leastPayments_19 rfl (by decide) (by decide) rfl ?_
      refine aw_goto (tgt := 2) dX0_leastPayments_22 (by decide) ?_
      rw [nI_1]
      exact ih (m - 1) (by omega) (i + 1) (by omega)
set_option maxRecDepth 100000 in
set_option maxHeartbeats 4000000 in
theorem lp_X0_leastPayments2 {l : Launch} {D : va_G} {tc : Nat → ClassId} (pk : Nat → Nat) (G : Nat → Option Nat) (I F : Nat → Nat → Int32) (n : Nat) (hn : 30 ≤ n) : ∀ (m i : Nat), i + m = 63 → AW l D tc yX0_leastPayments.cls cX0_leastPayments 2 (some .int) { frames := 5, cells := 0, slots := 0, locals := 109 } n 0 0 (fun v n1 h1 => n1 = n ∧ (v = some (.int (6 - gpN (F 16) (blN F (F 15) 6) 63 63)) ∧ h1 = hC pk G I (lpF F 63))) 34 [some (.ref 7), some (.int (nI (i + 1)))] [] n (hC pk G I (lpF F i)) 0 0 := by
  intro m
  induction m using Nat.strongRecOn with
  | _ m ih =>
    intro i hi
    refine aw_iload_n dX0_leastPayments_34 rfl rfl ?_
    refine aw_aload_n dX0_leastPayments_35 rfl rfl ?_
    refine aw_get fd_X0_20_0 dX0_leastPayments_36 (by omega) rfl rfl ?_
    refine aw_alen (v := 64) dX0_leastPayments_39 (by omega) rfl (by decide) ?_
    refine aw_icmp_ge (tgt := 60) dX0_leastPayments_40 (by decide) (fun c_40 => ?_) (fun c_40 => ?_)
    · have hi6 := lp_ge (i := i + 1) (N := 64) (by decide) (by omega) c_40
      have hi7 : i = 63 := by omega
      subst hi7
      refine aw_bipush (v := (6)) dX0_leastPayments_60 (by decide) ?_
      refine aw_aload_n dX0_leastPayments_62 rfl rfl ?_
      refine aw_get fd_X0_20_0 dX0_leastPayments_63 (by omega) rfl rfl ?_
      refine aw_aload_n dX0_leastPayments_66 rfl rfl ?_
      refine aw_get fd_X0_20_0 dX0_leastPayments_67 (by omega) rfl rfl ?_
      refine aw_alen (v := 64) dX0_leastPayments_70 (by omega) rfl (by decide) ?_
      refine aw_iconst (v := 1) dX0_leastPayments_71 (by decide) ?_
      refine aw_isub dX0_leastPayments_72 ?_
      refine aw_iald dX0_leastPayments_73 (by omega) rfl vp_63 ?_
      refine aw_isub dX0_leastPayments_74 ?_
      refine aw_iret dX0_leastPayments_75 (Nat.zero_le _) (Nat.zero_le _) ?_
      have e1 : lpF F 63 16 = gpN (F 16) (blN F (F 15) 6) 63 := st_Fs _ _ _
      refine ⟨rfl, ?_, rfl⟩
      rw [e1, show ((64 : Int32) - 1).toNatClampNeg = 63 by decide]
    · have hi6 := lp_lt (i := i + 1) (N := 64) (by omega) c_40
      refine aw_aload_n dX0_leastPayments_43 rfl rfl ?_
      refine aw_get fd_X0_20_0 dX0_leastPayments_44 (by omega) rfl rfl ?_
      refine aw_iload_n dX0_leastPayments_47 rfl rfl ?_
      refine aw_aload_n dX0_leastPayments_48 rfl rfl ?_
      refine aw_iload_n dX0_leastPayments_49 rfl rfl ?_
      refine aw_callV cw_X0_mostGroups ml_X0_50 im_X0_mostGroups sl_X0_X0_mostGroups rfl (by omega) rfl (c_X0_mostGroups pk G _ _ n hn (z := i + 1) (by omega)) ⟨Nat.le_of_ble_eq_true rfl, Nat.le_of_ble_eq_true rfl⟩ ⟨Nat.zero_le _, Nat.zero_le _⟩ rfl rfl (Nat.le_of_ble_eq_true rfl) dX0_leastPayments_50 ?_
      rintro _ _ ⟨rfl, rfl⟩
      refine aw_iastI dX0_leastPayments_53 (by omega) rfl (fun _ => rfl) (vp_in_nI hi6 (by decide)) (show _ = lpF F (i + 1) from by show st_F (lpF F i) 16 (upd (lpF F i 16) (nI (i + 1)).toNatClampNeg (sMg (lpF F i 16) (lpF F i 15) (nI (i + 1)))) = _; rw [nI_clamp (by omega)]; unfold lpF; rw [st_FF]; rfl) ?_
      refine aw_iinc (v := 1) dX0_leastPayments_54 rfl (by decide) (by decide) rfl ?_
      refine aw_goto (tgt := 34) dX0_leastPayments_57 (by decide) ?_
      rw [nI_1]
      exact ih (m - 1) (by omega) (i + 1) (by omega)
set_option maxRecDepth 100000 in
set_option maxHeartbeats 4000000 in
theorem c_X0_leastPayments {l : Launch} {D : va_G} {tc : Nat → ClassId} (pk : Nat → Nat) (G : Nat → Option Nat) (I F : Nat → Nat → Int32) (n : Nat) (hn : 30 ≤ n) : AM l D tc yX0_leastPayments cX0_leastPayments 2 (some .int) 5 109 0 0 [.ref 7] n (hC pk G I F) (fun v n1 h1 => n1 = n ∧ (v = some (.int (6 - gpN (F 16) (blN F (F 15) 6) 63 63)) ∧ h1 = hC pk G I (lpF F 63))) := by
  refine am_of (L := [some (.ref 7), none]) (by decide +kernel) (Nat.le_of_ble_eq_true rfl) rfl ?_
  refine aw_iconst (v := 0) dX0_leastPayments_0 (by decide) ?_
  refine aw_istore_n dX0_leastPayments_1 rfl (by decide) rfl ?_
  have e9 : F = st_F F 15 (blN F (F 15) 0) := by rw [blN_0, st_F0]
  have hl := lp_X0_leastPayments1 (l := l) (D := D) (tc := tc) pk G I F n hn (fun v n1 h1 => n1 = n ∧ (v = some (.int (6 - gpN (F 16) (blN F (F 15) 6) 63 63)) ∧ h1 = hC pk G I (lpF F 63))) ?_ 6 0 (by omega)
  · rw [← e9] at hl
    exact hl
  · refine aw_aload_n dX0_leastPayments_25 rfl rfl ?_
    refine aw_get fd_X0_20_0 dX0_leastPayments_26 (by omega) rfl rfl ?_
    refine aw_iconst (v := 0) dX0_leastPayments_29 (by decide) ?_
    refine aw_iconst (v := 0) dX0_leastPayments_30 (by decide) ?_
    refine aw_iastI dX0_leastPayments_31 (by omega) rfl (fun _ => rfl) (vp_0 (by decide) (by decide)) (show _ = lpF F 0 from rfl) ?_
    refine aw_iconst (v := 1) dX0_leastPayments_32 (by decide) ?_
    refine aw_istore_n dX0_leastPayments_33 rfl (by decide) rfl ?_
    exact lp_X0_leastPayments2 pk G I F n hn 63 0 (by omega)
