/-! the reference: copies -/
def cpM (t1 z1 t2 z2 i j m : Int32) : Int32 := if t1 = -9 then 1 else if t2 = -9 then 1 else if t1 = t2 then (if !decide (i < 0) && !decide (j < 0) && !decide (m < 0) && !decide (z1 < i) && !decide (z2 < j) && !decide (z1 - i < m) && decide (m ≤ z2 - j) then 0 else 3) else 2
def cpR (f : Nat → Int32) (D S lo hi : Nat) : Nat → Int32 := fun t => if D + lo ≤ t ∧ t < D + hi then f (S + (t - D)) else f t
def cpW (f : Nat → Int32) (D S n : Nat) (ah : Bool) (q : Nat) : Nat → Int32 := if ah then cpR f D S (n - q) n else cpR f D S 0 q
theorem cpR_e (f : Nat → Int32) (D S a : Nat) : cpR f D S a a = f := by
  funext t
  unfold cpR
  rw [if_neg (by omega)]
theorem cpW_0 (f : Nat → Int32) (D S n : Nat) (ah : Bool) : cpW f D S n ah 0 = f := by
  unfold cpW
  cases ah
  · exact cpR_e f D S 0
  · exact cpR_e f D S n
theorem cpW_n (f : Nat → Int32) (D S n : Nat) (ah : Bool) : cpW f D S n ah n = cpR f D S 0 n := by
  unfold cpW
  cases ah
  · rfl
  · rw [Nat.sub_self]; rfl
theorem cpW_s (f : Nat → Int32) (D S n q : Nat) (ah : Bool) (hq : q < n) : upd (cpW f D S n ah q) (D + (if ah then n - 1 - q else q)) (f (S + (if ah then n - 1 - q else q))) = cpW f D S n ah (q + 1) := by
  funext t
  unfold upd cpW cpR
  cases ah
  · simp only [Bool.false_eq_true, if_false]
    by_cases e : t = D + q
    · subst e
      rw [if_pos rfl, if_pos (by omega), show D + q - D = q by omega]
    · rw [if_neg e]
      by_cases r : D + 0 ≤ t ∧ t < D + q
      · rw [if_pos r, if_pos (by omega)]
      · rw [if_neg r, if_neg (by omega)]
  · simp only [if_true]
    by_cases e : t = D + (n - 1 - q)
    · subst e
      rw [if_pos rfl, if_pos (by omega), show D + (n - 1 - q) - D = n - 1 - q by omega]
    · rw [if_neg e]
      by_cases r : D + (n - q) ≤ t ∧ t < D + n
      · rw [if_pos r, if_pos (by omega)]
      · rw [if_neg r, if_neg (by omega)]
theorem cpW_r (f : Nat → Int32) {k k2 i j n q : Nat} (ah : Bool) (hi : i + n ≤ 60) (hj : j + n ≤ 60) (hq : q < n) (ha : ah = decide (i < j)) : cpW f (60 * k2 + j) (60 * k + i) n ah q (60 * k + i + (if ah then n - 1 - q else q)) = f (60 * k + i + (if ah then n - 1 - q else q)) := by
  unfold cpW cpR
  cases ah
  · simp only [Bool.false_eq_true, if_false]
    have : ¬ i < j := by simpa using ha.symm
    rw [if_neg (by omega)]
  · simp only [if_true]
    have : i < j := by simpa using ha.symm
    rw [if_neg (by omega)]

set_option maxRecDepth 100000 in
set_option maxHeartbeats 4000000 in
theorem c_X9_copy_no1 {l : Launch} {D : va_G} {tc : Nat → ClassId} (I F : Nat → Nat → Int32) (J : Nat → Nat → Int32) (hJ : J = st_I I 0 0 0) {x : Int32} (hx : sP 4 x = false) (i y j m : Int32) : AM l D tc yX9_copy cX9_copy 10 (some .int) 2 42 0 0 [.ref 0, .int x, .int i, .int y, .int j, .int m] 15 (hM I F) (fun v n1 h1 => n1 = 15 ∧ (v = some (.int (-1)) ∧ h1 = hM J F)) := by
  refine am_of (L := [some (.ref 0), some (.int x), some (.int i), some (.int y), some (.int j), some (.int m), none, none, none, none]) (by decide +kernel) (Nat.le_of_ble_eq_true rfl) rfl ?_
  refine aw_aload_n dX9_copy_0 rfl rfl ?_
  refine aw_iconst (v := 0) dX9_copy_1 (by decide) ?_
  refine aw_putI fp_X9_52_9 dX9_copy_2 (by decide) rfl rfl rfl (Nat.le_of_ble_eq_true rfl) rfl hJ.symm ?_
  clear hJ
  refine aw_iload_n dX9_copy_5 rfl rfl ?_
  refine aw_callS cw_X9_isSheet ml_X9_68 sm_X9_isSheet (c_X9_isSheet _ _ _) ⟨Nat.le_of_ble_eq_true rfl, Nat.le_of_ble_eq_true rfl⟩ ⟨Nat.zero_le _, Nat.zero_le _⟩ rfl rfl (Nat.le_of_ble_eq_true rfl) dX9_copy_6 ?_
  rintro _ _ ⟨rfl, rfl⟩
  rw [show b2i (sW _ 0 3) = 0 from by rw [sP4, hx]; rfl]
  refine aw_if_eq (tgt := 19) dX9_copy_9 (by decide) (fun _ => ?_) (fun c9 => absurd rfl c9)
  refine aw_iconst (v := (-1)) dX9_copy_19 (by decide) ?_
  refine aw_iret dX9_copy_20 (Nat.zero_le _) (Nat.zero_le _) ?_
  exact ⟨rfl, rfl, rfl⟩
set_option maxRecDepth 100000 in
set_option maxHeartbeats 4000000 in
theorem c_X9_copy_no2 {l : Launch} {D : va_G} {tc : Nat → ClassId} (I F : Nat → Nat → Int32) (J : Nat → Nat → Int32) (hJ : J = st_I I 0 0 0) {k : Nat} (hk : k < 4) {y : Int32} (hx : sP 4 y = false) (i j m : Int32) : AM l D tc yX9_copy cX9_copy 10 (some .int) 2 42 0 0 [.ref 0, .int (nI k), .int i, .int y, .int j, .int m] 15 (hM I F) (fun v n1 h1 => n1 = 15 ∧ (v = some (.int (-1)) ∧ h1 = hM J F)) := by
  refine am_of (L := [some (.ref 0), some (.int (nI k)), some (.int i), some (.int y), some (.int j), some (.int m), none, none, none, none]) (by decide +kernel) (Nat.le_of_ble_eq_true rfl) rfl ?_
  refine aw_aload_n dX9_copy_0 rfl rfl ?_
  refine aw_iconst (v := 0) dX9_copy_1 (by decide) ?_
  refine aw_putI fp_X9_52_9 dX9_copy_2 (by decide) rfl rfl rfl (Nat.le_of_ble_eq_true rfl) rfl hJ.symm ?_
  clear hJ
  refine aw_iload_n dX9_copy_5 rfl rfl ?_
  refine aw_callS cw_X9_isSheet ml_X9_68 sm_X9_isSheet (c_X9_isSheet _ _ _) ⟨Nat.le_of_ble_eq_true rfl, Nat.le_of_ble_eq_true rfl⟩ ⟨Nat.zero_le _, Nat.zero_le _⟩ rfl rfl (Nat.le_of_ble_eq_true rfl) dX9_copy_6 ?_
  rintro _ _ ⟨rfl, rfl⟩
  rw [show b2i (sW (nI _) 0 3) = 1 from by rw [sP4, sP_nI (c := 4) (by omega) hk]; rfl]
  refine aw_if_eq (tgt := 19) dX9_copy_9 (by decide) (fun c9 => absurd c9 (by decide)) (fun _ => ?_)
  refine aw_iload_n dX9_copy_12 rfl rfl ?_
  refine aw_callS cw_X9_isSheet ml_X9_68 sm_X9_isSheet (c_X9_isSheet _ _ _) ⟨Nat.le_of_ble_eq_true rfl, Nat.le_of_ble_eq_true rfl⟩ ⟨Nat.zero_le _, Nat.zero_le _⟩ rfl rfl (Nat.le_of_ble_eq_true rfl) dX9_copy_13 ?_
  rintro _ _ ⟨rfl, rfl⟩
  rw [show b2i (sW _ 0 3) = 0 from by rw [sP4, hx]; rfl]
  refine aw_if_ne (tgt := 21) dX9_copy_16 (by decide) (fun c9 => absurd rfl c9) (fun _ => ?_)
  refine aw_iconst (v := (-1)) dX9_copy_19 (by decide) ?_
  refine aw_iret dX9_copy_20 (Nat.zero_le _) (Nat.zero_le _) ?_
  exact ⟨rfl, rfl, rfl⟩
set_option maxRecDepth 100000 in
set_option maxHeartbeats 4000000 in
theorem lp_X9_copy {l : Launch} {D : va_G} {tc : Nat → ClassId} (J F : Nat → Nat → Int32) {k k2 i j n : Nat} (hk : k < 4) (hk2 : k2 < 4) (hin : i + n ≤ 60) (hjn : j + n ≤ 60) (ah : Bool) (ha : ah = decide (i < j)) (a6 : Int32) : ∀ (r q : Nat) (w9 : Option Value), q + r = n → AW l D tc yX9_copy.cls cX9_copy 10 (some .int) { frames := 2, cells := 0, slots := 0, locals := 42 } 15 0 0 (fun v n1 h1 => n1 = 15 ∧ (v = some (.int (nI n)) ∧ h1 = hM J (st_F F 3 (cpR (F 3) (60 * k2 + j) (60 * k + i) 0 n)))) 166 [some (.ref 0), some (.int (nI k)), some (.int (nI i)), some (.int (nI k2)), some (.int (nI j)), some (.int (nI n)), some (.int a6), some (.int (b2i ah)), some (.int (nI q)), w9] [] 15 (hM J (st_F F 3 (cpW (F 3) (60 * k2 + j) (60 * k + i) n ah q))) 0 0 := by
  intro r
  induction r using Nat.strongRecOn with
  | _ r ih =>
    intro q w9 hi
    refine aw_iload dX9_copy_166 rfl ?_
    refine aw_iload dX9_copy_168 rfl ?_
    refine aw_icmp_ge (tgt := 227) dX9_copy_170 (by decide) (fun c_170 => ?_) (fun c_170 => ?_)
    · have hq9 : q = n := lp_ge (by omega) (by omega) c_170
      subst hq9
      refine aw_iload dX9_copy_227 rfl ?_
      refine aw_iret dX9_copy_229 (Nat.zero_le _) (Nat.zero_le _) ?_
      rw [cpW_n]
      exact ⟨rfl, rfl, rfl⟩
    · have hq9 : q < n := lp_lt (N := n) (by omega) c_170
      have hc9 : (if ah then n - 1 - q else q) < n := by split <;> omega
      refine aw_iload dX9_copy_173 rfl ?_
      refine aw_ifB_eq (tgt := 188) dX9_copy_175 (by decide) (fun c_175 => ?_) (fun c_175 => ?_)
      · refine aw_iload dX9_copy_188 rfl ?_
        have hcq : (if ah then n - 1 - q else q) = q := by rw [c_175]; rfl
        have r9 := cpW_r (F 3) (k := k) (k2 := k2) ah hin hjn hq9 ha
        have s9 := cpW_s (F 3) (60 * k2 + j) (60 * k + i) n q ah hq9
        rw [hcq] at r9 s9
        refine aw_istore dX9_copy_190 (by decide) rfl ?_
        refine aw_aload_n dX9_copy_192 rfl rfl ?_
        refine aw_get fd_X9_16_9 dX9_copy_193 (by decide) rfl rfl ?_
        refine aw_bipush (v := (60)) dX9_copy_196 (by decide) ?_
        refine aw_iload_n dX9_copy_198 rfl rfl ?_
        refine aw_imul dX9_copy_199 ?_
        refine aw_iload dX9_copy_200 rfl ?_
        refine aw_iadd dX9_copy_202 ?_
        rw [ix60]
        refine aw_iload dX9_copy_203 rfl ?_
        refine aw_iadd dX9_copy_205 ?_
        rw [nI_add]
        refine aw_aload_n dX9_copy_206 rfl rfl ?_
        refine aw_get fd_X9_16_9 dX9_copy_207 (by decide) rfl rfl ?_
        refine aw_bipush (v := (60)) dX9_copy_210 (by decide) ?_
        refine aw_iload_n dX9_copy_212 rfl rfl ?_
        refine aw_imul dX9_copy_213 ?_
        refine aw_iload_n dX9_copy_214 rfl rfl ?_
        refine aw_iadd dX9_copy_215 ?_
        rw [ix60]
        refine aw_iload dX9_copy_216 rfl ?_
        refine aw_iadd dX9_copy_218 ?_
        rw [nI_add]
        refine aw_iald dX9_copy_219 (by decide) rfl (vp_in_nI (n := 60 * k + i + q) (by omega) (by decide)) ?_
        rw [nI_clamp (n := 60 * k + i + q) (by omega), st_Fs, r9]
        refine aw_iastI dX9_copy_220 (by decide) rfl (fun _ => rfl) (vp_in_nI (n := 60 * k2 + j + q) (by omega) (by decide)) (show _ = st_F F 3 (cpW (F 3) (60 * k2 + j) (60 * k + i) n ah (q + 1)) from by rw [← s9, nI_clamp (n := 60 * k2 + j + q) (by omega), st_Fs, st_FF]) ?_
        refine aw_iinc (v := 1) dX9_copy_221 rfl (by decide) (by decide) rfl ?_
        refine aw_goto (tgt := 166) dX9_copy_224 (by decide) ?_
        rw [nI_1]
        exact ih (r - 1) (by omega) (q + 1) _ (by omega)
      · refine aw_iload dX9_copy_178 rfl ?_
        refine aw_iconst (v := 1) dX9_copy_180 (by decide) ?_
        refine aw_isub dX9_copy_181 ?_
        refine aw_iload dX9_copy_182 rfl ?_
        refine aw_isub dX9_copy_184 ?_
        refine aw_goto (tgt := 190) dX9_copy_185 (by decide) ?_
        have hcq : (if ah then n - 1 - q else q) = (n - 1 - q) := by rw [c_175]; rfl
        have r9 := cpW_r (F 3) (k := k) (k2 := k2) ah hin hjn hq9 ha
        have s9 := cpW_s (F 3) (60 * k2 + j) (60 * k + i) n q ah hq9
        rw [hcq] at r9 s9
        rw [show nI n - 1 - nI q = nI (n - 1 - q) from by rw [show (1 : Int32) = nI 1 from rfl, pk_sub (by omega), pk_sub (by omega)]]
        refine aw_istore dX9_copy_190 (by decide) rfl ?_
        refine aw_aload_n dX9_copy_192 rfl rfl ?_
        refine aw_get fd_X9_16_9 dX9_copy_193 (by decide) rfl rfl ?_
        refine aw_bipush (v := (60)) dX9_copy_196 (by decide) ?_
        refine aw_iload_n dX9_copy_198 rfl rfl ?_
        refine aw_imul dX9_copy_199 ?_
        refine aw_iload dX9_copy_200 rfl ?_
        refine aw_iadd dX9_copy_202 ?_
        rw [ix60]
        refine aw_iload dX9_copy_203 rfl ?_
        refine aw_iadd dX9_copy_205 ?_
        rw [nI_add]
        refine aw_aload_n dX9_copy_206 rfl rfl ?_
        refine aw_get fd_X9_16_9 dX9_copy_207 (by decide) rfl rfl ?_
        refine aw_bipush (v := (60)) dX9_copy_210 (by decide) ?_
        refine aw_iload_n dX9_copy_212 rfl rfl ?_
        refine aw_imul dX9_copy_213 ?_
        refine aw_iload_n dX9_copy_214 rfl rfl ?_
        refine aw_iadd dX9_copy_215 ?_
        rw [ix60]
        refine aw_iload dX9_copy_216 rfl ?_
        refine aw_iadd dX9_copy_218 ?_
        rw [nI_add]
        refine aw_iald dX9_copy_219 (by decide) rfl (vp_in_nI (n := 60 * k + i + (n - 1 - q)) (by omega) (by decide)) ?_
        rw [nI_clamp (n := 60 * k + i + (n - 1 - q)) (by omega), st_Fs, r9]
        refine aw_iastI dX9_copy_220 (by decide) rfl (fun _ => rfl) (vp_in_nI (n := 60 * k2 + j + (n - 1 - q)) (by omega) (by decide)) (show _ = st_F F 3 (cpW (F 3) (60 * k2 + j) (60 * k + i) n ah (q + 1)) from by rw [← s9, nI_clamp (n := 60 * k2 + j + (n - 1 - q)) (by omega), st_Fs, st_FF]) ?_
        refine aw_iinc (v := 1) dX9_copy_221 rfl (by decide) (by decide) rfl ?_
        refine aw_goto (tgt := 166) dX9_copy_224 (by decide) ?_
        rw [nI_1]
        exact ih (r - 1) (by omega) (q + 1) _ (by omega)
set_option maxRecDepth 100000 in
set_option maxHeartbeats 4000000 in
theorem c_X9_copy {l : Launch} {D : va_G} {tc : Nat → ClassId} (I F : Nat → Nat → Int32) (J : Nat → Nat → Int32) (hJ : J = st_I I 0 0 0) {k : Nat} (hk : k < 4) {k2 : Nat} (hk2 : k2 < 4) {z : Nat} (hz : z ≤ 60) (hz2 : F 2 k = nI z) {zz : Nat} (hzz : zz ≤ 60) (hzz2 : F 2 k2 = nI zz) (i j m : Int32) : AM l D tc yX9_copy cX9_copy 10 (some .int) 2 42 0 0 [.ref 0, .int (nI k), .int i, .int (nI k2), .int j, .int m] 15 (hM I F) (fun v n1 h1 => n1 = 15 ∧ (v = some (.int (if (cpM (F 1 k) (F 2 k) (F 1 k2) (F 2 k2) i j m) = 0 then m else -10 - (cpM (F 1 k) (F 2 k) (F 1 k2) (F 2 k2) i j m))) ∧ h1 = hM (if (cpM (F 1 k) (F 2 k) (F 1 k2) (F 2 k2) i j m) = 0 then J else st_I J 0 0 (cpM (F 1 k) (F 2 k) (F 1 k2) (F 2 k2) i j m)) (if (cpM (F 1 k) (F 2 k) (F 1 k2) (F 2 k2) i j m) = 0 then st_F F 3 (cpR (F 3) (60 * k2 + j.toNatClampNeg) (60 * k + i.toNatClampNeg) 0 m.toNatClampNeg) else F))) := by
  refine am_of (L := [some (.ref 0), some (.int (nI k)), some (.int i), some (.int (nI k2)), some (.int j), some (.int m), none, none, none, none]) (by decide +kernel) (Nat.le_of_ble_eq_true rfl) rfl ?_
  refine aw_aload_n dX9_copy_0 rfl rfl ?_
  refine aw_iconst (v := 0) dX9_copy_1 (by decide) ?_
  refine aw_putI fp_X9_52_9 dX9_copy_2 (by decide) rfl rfl rfl (Nat.le_of_ble_eq_true rfl) rfl hJ.symm ?_
  clear hJ
  refine aw_iload_n dX9_copy_5 rfl rfl ?_
  refine aw_callS cw_X9_isSheet ml_X9_68 sm_X9_isSheet (c_X9_isSheet _ _ _) ⟨Nat.le_of_ble_eq_true rfl, Nat.le_of_ble_eq_true rfl⟩ ⟨Nat.zero_le _, Nat.zero_le _⟩ rfl rfl (Nat.le_of_ble_eq_true rfl) dX9_copy_6 ?_
  rintro _ _ ⟨rfl, rfl⟩
  rw [show b2i (sW (nI _) 0 3) = 1 from by rw [sP4, sP_nI (c := 4) (by omega) hk]; rfl]
  refine aw_if_eq (tgt := 19) dX9_copy_9 (by decide) (fun c9 => absurd c9 (by decide)) (fun _ => ?_)
  refine aw_iload_n dX9_copy_12 rfl rfl ?_
  refine aw_callS cw_X9_isSheet ml_X9_68 sm_X9_isSheet (c_X9_isSheet _ _ _) ⟨Nat.le_of_ble_eq_true rfl, Nat.le_of_ble_eq_true rfl⟩ ⟨Nat.zero_le _, Nat.zero_le _⟩ rfl rfl (Nat.le_of_ble_eq_true rfl) dX9_copy_13 ?_
  rintro _ _ ⟨rfl, rfl⟩
  rw [show b2i (sW (nI _) 0 3) = 1 from by rw [sP4, sP_nI (c := 4) (by omega) hk2]; rfl]
  refine aw_if_ne (tgt := 21) dX9_copy_16 (by decide) (fun _ => ?_) (fun c9 => absurd c9 (by decide))
  refine aw_aload_n dX9_copy_21 rfl rfl ?_
  refine aw_get fd_X9_9_9 dX9_copy_22 (by decide) rfl rfl ?_
  refine aw_iload_n dX9_copy_25 rfl rfl ?_
  refine aw_iald dX9_copy_26 (by decide) rfl (vp_in_nI hk (by decide)) ?_
  rw [nI_clamp (n := k) (by omega)]
  refine aw_bipush (v := (-9)) dX9_copy_27 (by decide) ?_
  refine aw_icmp_eq (tgt := 43) dX9_copy_29 (by decide) (fun c_29 => ?_) (fun c_29 => ?_)
  · refine aw_aload_n dX9_copy_43 rfl rfl ?_
    refine aw_iconst (v := 1) dX9_copy_44 (by decide) ?_
    refine aw_callV cw_X9_fails ml_X9_79 im_X9_fails sl_X9_X9_fails rfl (by decide) rfl (c_X9_fails _ _ _) ⟨Nat.le_of_ble_eq_true rfl, Nat.le_of_ble_eq_true rfl⟩ ⟨Nat.zero_le _, Nat.zero_le _⟩ rfl rfl (Nat.le_of_ble_eq_true rfl) dX9_copy_45 ?_
    rintro _ _ ⟨rfl, rfl⟩
    refine aw_iret dX9_copy_48 (Nat.zero_le _) (Nat.zero_le _) ?_
    have e9 : (cpM (F 1 k) (F 2 k) (F 1 k2) (F 2 k2) i j m) = 1 := by
      unfold cpM
      repeat' split
      all_goals first | rfl | contradiction | (rename_i h9; simp only [c_141, decide_false, Bool.and_false] at h9; cases h9; done) | (simp_all; done)
    rw [e9, if_neg (by decide), if_neg (by decide), if_neg (by decide)]
    exact ⟨rfl, rfl, rfl⟩
  · refine aw_aload_n dX9_copy_32 rfl rfl ?_
    refine aw_get fd_X9_9_9 dX9_copy_33 (by decide) rfl rfl ?_
    refine aw_iload_n dX9_copy_36 rfl rfl ?_
    refine aw_iald dX9_copy_37 (by decide) rfl (vp_in_nI hk2 (by decide)) ?_
    rw [nI_clamp (n := k2) (by omega)]
    refine aw_bipush (v := (-9)) dX9_copy_38 (by decide) ?_
    refine aw_icmp_ne (tgt := 49) dX9_copy_40 (by decide) (fun c_40 => ?_) (fun c_40 => ?_)
    · refine aw_aload_n dX9_copy_49 rfl rfl ?_
      refine aw_get fd_X9_9_9 dX9_copy_50 (by decide) rfl rfl ?_
      refine aw_iload_n dX9_copy_53 rfl rfl ?_
      refine aw_iald dX9_copy_54 (by decide) rfl (vp_in_nI hk (by decide)) ?_
      rw [nI_clamp (n := k) (by omega)]
      refine aw_aload_n dX9_copy_55 rfl rfl ?_
      refine aw_get fd_X9_9_9 dX9_copy_56 (by decide) rfl rfl ?_
      refine aw_iload_n dX9_copy_59 rfl rfl ?_
      refine aw_iald dX9_copy_60 (by decide) rfl (vp_in_nI hk2 (by decide)) ?_
      rw [nI_clamp (n := k2) (by omega)]
      refine aw_icmp_eq (tgt := 70) dX9_copy_61 (by decide) (fun c_61 => ?_) (fun c_61 => ?_)
      · refine aw_iload_n dX9_copy_70 rfl rfl ?_
        refine aw_if_lt (tgt := 109) dX9_copy_71 (by decide) (fun c_71 => ?_) (fun c_71 => ?_)
        · refine aw_iconst (v := 0) dX9_copy_109 (by decide) ?_
          refine aw_istore dX9_copy_110 (by decide) rfl ?_
          refine aw_iload dX9_copy_112 rfl ?_
          refine aw_if_eq (tgt := 144) dX9_copy_114 (by decide) (fun _ => ?_) (fun c9 => absurd rfl c9)
          refine aw_aload_n dX9_copy_144 rfl rfl ?_
          refine aw_iconst (v := 3) dX9_copy_145 (by decide) ?_
          refine aw_callV cw_X9_fails ml_X9_79 im_X9_fails sl_X9_X9_fails rfl (by decide) rfl (c_X9_fails _ _ _) ⟨Nat.le_of_ble_eq_true rfl, Nat.le_of_ble_eq_true rfl⟩ ⟨Nat.zero_le _, Nat.zero_le _⟩ rfl rfl (Nat.le_of_ble_eq_true rfl) dX9_copy_146 ?_
          rintro _ _ ⟨rfl, rfl⟩
          refine aw_iret dX9_copy_149 (Nat.zero_le _) (Nat.zero_le _) ?_
          have e9 : (cpM (F 1 k) (F 2 k) (F 1 k2) (F 2 k2) i j m) = 3 := by
            unfold cpM
            repeat' split
            all_goals first | rfl | contradiction | (rename_i h9; simp only [c_141, decide_false, Bool.and_false] at h9; cases h9; done) | (simp_all; done)
          rw [e9, if_neg (by decide), if_neg (by decide), if_neg (by decide)]
          exact ⟨rfl, rfl, rfl⟩
        · refine aw_iload dX9_copy_74 rfl ?_
          refine aw_if_lt (tgt := 109) dX9_copy_76 (by decide) (fun c_76 => ?_) (fun c_76 => ?_)
          · refine aw_iconst (v := 0) dX9_copy_109 (by decide) ?_
            refine aw_istore dX9_copy_110 (by decide) rfl ?_
            refine aw_iload dX9_copy_112 rfl ?_
            refine aw_if_eq (tgt := 144) dX9_copy_114 (by decide) (fun _ => ?_) (fun c9 => absurd rfl c9)
            refine aw_aload_n dX9_copy_144 rfl rfl ?_
            refine aw_iconst (v := 3) dX9_copy_145 (by decide) ?_
            refine aw_callV cw_X9_fails ml_X9_79 im_X9_fails sl_X9_X9_fails rfl (by decide) rfl (c_X9_fails _ _ _) ⟨Nat.le_of_ble_eq_true rfl, Nat.le_of_ble_eq_true rfl⟩ ⟨Nat.zero_le _, Nat.zero_le _⟩ rfl rfl (Nat.le_of_ble_eq_true rfl) dX9_copy_146 ?_
            rintro _ _ ⟨rfl, rfl⟩
            refine aw_iret dX9_copy_149 (Nat.zero_le _) (Nat.zero_le _) ?_
            have e9 : (cpM (F 1 k) (F 2 k) (F 1 k2) (F 2 k2) i j m) = 3 := by
              unfold cpM
              repeat' split
              all_goals first | rfl | contradiction | (rename_i h9; simp only [c_141, decide_false, Bool.and_false] at h9; cases h9; done) | (simp_all; done)
            rw [e9, if_neg (by decide), if_neg (by decide), if_neg (by decide)]
            exact ⟨rfl, rfl, rfl⟩
          · refine aw_iload dX9_copy_79 rfl ?_
            refine aw_if_lt (tgt := 109) dX9_copy_81 (by decide) (fun c_81 => ?_) (fun c_81 => ?_)
            · refine aw_iconst (v := 0) dX9_copy_109 (by decide) ?_
              refine aw_istore dX9_copy_110 (by decide) rfl ?_
              refine aw_iload dX9_copy_112 rfl ?_
              refine aw_if_eq (tgt := 144) dX9_copy_114 (by decide) (fun _ => ?_) (fun c9 => absurd rfl c9)
              refine aw_aload_n dX9_copy_144 rfl rfl ?_
              refine aw_iconst (v := 3) dX9_copy_145 (by decide) ?_
              refine aw_callV cw_X9_fails ml_X9_79 im_X9_fails sl_X9_X9_fails rfl (by decide) rfl (c_X9_fails _ _ _) ⟨Nat.le_of_ble_eq_true rfl, Nat.le_of_ble_eq_true rfl⟩ ⟨Nat.zero_le _, Nat.zero_le _⟩ rfl rfl (Nat.le_of_ble_eq_true rfl) dX9_copy_146 ?_
              rintro _ _ ⟨rfl, rfl⟩
              refine aw_iret dX9_copy_149 (Nat.zero_le _) (Nat.zero_le _) ?_
              have e9 : (cpM (F 1 k) (F 2 k) (F 1 k2) (F 2 k2) i j m) = 3 := by
                unfold cpM
                repeat' split
                all_goals first | rfl | contradiction | (rename_i h9; simp only [c_141, decide_false, Bool.and_false] at h9; cases h9; done) | (simp_all; done)
              rw [e9, if_neg (by decide), if_neg (by decide), if_neg (by decide)]
              exact ⟨rfl, rfl, rfl⟩
            · refine aw_iload_n dX9_copy_84 rfl rfl ?_
              refine aw_aload_n dX9_copy_85 rfl rfl ?_
              refine aw_get fd_X9_13_9 dX9_copy_86 (by decide) rfl rfl ?_
              refine aw_iload_n dX9_copy_89 rfl rfl ?_
              refine aw_iald dX9_copy_90 (by decide) rfl (vp_in_nI hk (by decide)) ?_
              rw [nI_clamp (n := k) (by omega)]
              refine aw_icmp_gt (tgt := 109) dX9_copy_91 (by decide) (fun c_91 => ?_) (fun c_91 => ?_)
              · refine aw_iconst (v := 0) dX9_copy_109 (by decide) ?_
                refine aw_istore dX9_copy_110 (by decide) rfl ?_
                refine aw_iload dX9_copy_112 rfl ?_
                refine aw_if_eq (tgt := 144) dX9_copy_114 (by decide) (fun _ => ?_) (fun c9 => absurd rfl c9)
                refine aw_aload_n dX9_copy_144 rfl rfl ?_
                refine aw_iconst (v := 3) dX9_copy_145 (by decide) ?_
                refine aw_callV cw_X9_fails ml_X9_79 im_X9_fails sl_X9_X9_fails rfl (by decide) rfl (c_X9_fails _ _ _) ⟨Nat.le_of_ble_eq_true rfl, Nat.le_of_ble_eq_true rfl⟩ ⟨Nat.zero_le _, Nat.zero_le _⟩ rfl rfl (Nat.le_of_ble_eq_true rfl) dX9_copy_146 ?_
                rintro _ _ ⟨rfl, rfl⟩
                refine aw_iret dX9_copy_149 (Nat.zero_le _) (Nat.zero_le _) ?_
                have e9 : (cpM (F 1 k) (F 2 k) (F 1 k2) (F 2 k2) i j m) = 3 := by
                  unfold cpM
                  repeat' split
                  all_goals first | rfl | contradiction | (rename_i h9; simp only [c_141, decide_false, Bool.and_false] at h9; cases h9; done) | (simp_all; done)
                rw [e9, if_neg (by decide), if_neg (by decide), if_neg (by decide)]
                exact ⟨rfl, rfl, rfl⟩
              · refine aw_iload dX9_copy_94 rfl ?_
                refine aw_aload_n dX9_copy_96 rfl rfl ?_
                refine aw_get fd_X9_13_9 dX9_copy_97 (by decide) rfl rfl ?_
                refine aw_iload_n dX9_copy_100 rfl rfl ?_
                refine aw_iald dX9_copy_101 (by decide) rfl (vp_in_nI hk2 (by decide)) ?_
                rw [nI_clamp (n := k2) (by omega)]
                refine aw_icmp_gt (tgt := 109) dX9_copy_102 (by decide) (fun c_102 => ?_) (fun c_102 => ?_)
                · refine aw_iconst (v := 0) dX9_copy_109 (by decide) ?_
                  refine aw_istore dX9_copy_110 (by decide) rfl ?_
                  refine aw_iload dX9_copy_112 rfl ?_
                  refine aw_if_eq (tgt := 144) dX9_copy_114 (by decide) (fun _ => ?_) (fun c9 => absurd rfl c9)
                  refine aw_aload_n dX9_copy_144 rfl rfl ?_
                  refine aw_iconst (v := 3) dX9_copy_145 (by decide) ?_
                  refine aw_callV cw_X9_fails ml_X9_79 im_X9_fails sl_X9_X9_fails rfl (by decide) rfl (c_X9_fails _ _ _) ⟨Nat.le_of_ble_eq_true rfl, Nat.le_of_ble_eq_true rfl⟩ ⟨Nat.zero_le _, Nat.zero_le _⟩ rfl rfl (Nat.le_of_ble_eq_true rfl) dX9_copy_146 ?_
                  rintro _ _ ⟨rfl, rfl⟩
                  refine aw_iret dX9_copy_149 (Nat.zero_le _) (Nat.zero_le _) ?_
                  have e9 : (cpM (F 1 k) (F 2 k) (F 1 k2) (F 2 k2) i j m) = 3 := by
                    unfold cpM
                    repeat' split
                    all_goals first | rfl | contradiction | (rename_i h9; simp only [c_141, decide_false, Bool.and_false] at h9; cases h9; done) | (simp_all; done)
                  rw [e9, if_neg (by decide), if_neg (by decide), if_neg (by decide)]
                  exact ⟨rfl, rfl, rfl⟩
                · refine aw_iconst (v := 1) dX9_copy_105 (by decide) ?_
                  refine aw_goto (tgt := 110) dX9_copy_106 (by decide) ?_
                  refine aw_istore dX9_copy_110 (by decide) rfl ?_
                  refine aw_iload dX9_copy_112 rfl ?_
                  refine aw_if_eq (tgt := 144) dX9_copy_114 (by decide) (fun c9 => absurd c9 (by decide)) (fun _ => ?_)
                  refine aw_iload dX9_copy_117 rfl ?_
                  refine aw_aload_n dX9_copy_119 rfl rfl ?_
                  refine aw_get fd_X9_13_9 dX9_copy_120 (by decide) rfl rfl ?_
                  refine aw_iload_n dX9_copy_123 rfl rfl ?_
                  refine aw_iald dX9_copy_124 (by decide) rfl (vp_in_nI hk (by decide)) ?_
                  rw [nI_clamp (n := k) (by omega)]
                  refine aw_iload_n dX9_copy_125 rfl rfl ?_
                  refine aw_isub dX9_copy_126 ?_
                  refine aw_icmp_gt (tgt := 144) dX9_copy_127 (by decide) (fun c_127 => ?_) (fun c_127 => ?_)
                  · refine aw_aload_n dX9_copy_144 rfl rfl ?_
                    refine aw_iconst (v := 3) dX9_copy_145 (by decide) ?_
                    refine aw_callV cw_X9_fails ml_X9_79 im_X9_fails sl_X9_X9_fails rfl (by decide) rfl (c_X9_fails _ _ _) ⟨Nat.le_of_ble_eq_true rfl, Nat.le_of_ble_eq_true rfl⟩ ⟨Nat.zero_le _, Nat.zero_le _⟩ rfl rfl (Nat.le_of_ble_eq_true rfl) dX9_copy_146 ?_
                    rintro _ _ ⟨rfl, rfl⟩
                    refine aw_iret dX9_copy_149 (Nat.zero_le _) (Nat.zero_le _) ?_
                    have e9 : (cpM (F 1 k) (F 2 k) (F 1 k2) (F 2 k2) i j m) = 3 := by
                      unfold cpM
                      repeat' split
                      all_goals first | rfl | contradiction | (rename_i h9; simp only [c_141, decide_false, Bool.and_false] at h9; cases h9; done) | (simp_all; done)
                    rw [e9, if_neg (by decide), if_neg (by decide), if_neg (by decide)]
                    exact ⟨rfl, rfl, rfl⟩
                  · refine aw_iload dX9_copy_130 rfl ?_
                    refine aw_aload_n dX9_copy_132 rfl rfl ?_
                    refine aw_get fd_X9_13_9 dX9_copy_133 (by decide) rfl rfl ?_
                    refine aw_iload_n dX9_copy_136 rfl rfl ?_
                    refine aw_iald dX9_copy_137 (by decide) rfl (vp_in_nI hk2 (by decide)) ?_
                    rw [nI_clamp (n := k2) (by omega)]
                    refine aw_iload dX9_copy_138 rfl ?_
                    refine aw_isub dX9_copy_140 ?_
                    refine aw_icmp_le (tgt := 150) dX9_copy_141 (by decide) (fun c_141 => ?_) (fun c_141 => ?_)
                    · have e9 : (cpM (F 1 k) (F 2 k) (F 1 k2) (F 2 k2) i j m) = 0 := by
                        unfold cpM
                        rw [if_neg c_29, if_neg c_40, if_pos c_61, if_pos (by simp only [c_71, c_76, c_81, c_91, c_102, c_127, c_141, decide_false, decide_true, Bool.not_false, Bool.and_self])]
                      rw [e9, if_pos rfl, if_pos rfl, if_pos rfl]
                      obtain ⟨i9, hi9, rfl⟩ := nI_of c_71
                      obtain ⟨j9, hj9, rfl⟩ := nI_of c_76
                      obtain ⟨m9, hm9, rfl⟩ := nI_of c_81
                      rw [hz2] at c_91 c_127
                      rw [hzz2] at c_102 c_141
                      have h91 : i9 ≤ z := le_9 hi9 c_91
                      have h102 : j9 ≤ zz := le_9 hj9 c_102
                      rw [pk_sub h91] at c_127
                      have h127 := le_9 hm9 c_127
                      rw [pk_sub h102, nI_leI (by omega) (by omega)] at c_141
                      rw [nI_clamp (n := i9) (by omega), nI_clamp (n := j9) (by omega), nI_clamp (n := m9) (by omega)]
                      refine aw_iload_n dX9_copy_150 rfl rfl ?_
                      refine aw_iload dX9_copy_151 rfl ?_
                      refine aw_icmp_ge (tgt := 160) dX9_copy_153 (by decide) (fun c_153 => ?_) (fun c_153 => ?_)
                      · refine aw_iconst (v := 0) dX9_copy_160 (by decide) ?_
                        refine aw_istore dX9_copy_161 (by decide) rfl ?_
                        refine aw_iconst (v := 0) dX9_copy_163 (by decide) ?_
                        refine aw_istore dX9_copy_164 (by decide) rfl ?_
                        have ha : false = decide (i9 < j9) := by
                          have : ¬ i9 < j9 := fun q9 => (Int32.not_le.mpr (nI_lt q9 (by omega))) c_153
                          simp [this]
                        have hl := lp_X9_copy (l := l) (D := D) (tc := tc) J F hk hk2 (i := i9) (j := j9) (n := m9) (by omega) (by omega) false ha 1 m9 0 none (by omega)
                        rw [cpW_0, show st_F F 3 (F 3) = F from st_F0 F 3] at hl
                        exact hl
                      · refine aw_iconst (v := 1) dX9_copy_156 (by decide) ?_
                        refine aw_goto (tgt := 161) dX9_copy_157 (by decide) ?_
                        refine aw_istore dX9_copy_161 (by decide) rfl ?_
                        refine aw_iconst (v := 0) dX9_copy_163 (by decide) ?_
                        refine aw_istore dX9_copy_164 (by decide) rfl ?_
                        have ha : true = decide (i9 < j9) := by
                          have : i9 < j9 := Classical.byContradiction fun q9 => c_153 (nI_le (by omega) (by omega))
                          simp [this]
                        have hl := lp_X9_copy (l := l) (D := D) (tc := tc) J F hk hk2 (i := i9) (j := j9) (n := m9) (by omega) (by omega) true ha 1 m9 0 none (by omega)
                        rw [cpW_0, show st_F F 3 (F 3) = F from st_F0 F 3] at hl
                        exact hl
                    · refine aw_aload_n dX9_copy_144 rfl rfl ?_
                      refine aw_iconst (v := 3) dX9_copy_145 (by decide) ?_
                      refine aw_callV cw_X9_fails ml_X9_79 im_X9_fails sl_X9_X9_fails rfl (by decide) rfl (c_X9_fails _ _ _) ⟨Nat.le_of_ble_eq_true rfl, Nat.le_of_ble_eq_true rfl⟩ ⟨Nat.zero_le _, Nat.zero_le _⟩ rfl rfl (Nat.le_of_ble_eq_true rfl) dX9_copy_146 ?_
                      rintro _ _ ⟨rfl, rfl⟩
                      refine aw_iret dX9_copy_149 (Nat.zero_le _) (Nat.zero_le _) ?_
                      have e9 : (cpM (F 1 k) (F 2 k) (F 1 k2) (F 2 k2) i j m) = 3 := by
                        unfold cpM
                        repeat' split
                        all_goals first | rfl | contradiction | (rename_i h9; simp only [c_141, decide_false, Bool.and_false] at h9; cases h9; done) | (simp_all; done)
                      rw [e9, if_neg (by decide), if_neg (by decide), if_neg (by decide)]
                      exact ⟨rfl, rfl, rfl⟩
      · refine aw_aload_n dX9_copy_64 rfl rfl ?_
        refine aw_iconst (v := 2) dX9_copy_65 (by decide) ?_
        refine aw_callV cw_X9_fails ml_X9_79 im_X9_fails sl_X9_X9_fails rfl (by decide) rfl (c_X9_fails _ _ _) ⟨Nat.le_of_ble_eq_true rfl, Nat.le_of_ble_eq_true rfl⟩ ⟨Nat.zero_le _, Nat.zero_le _⟩ rfl rfl (Nat.le_of_ble_eq_true rfl) dX9_copy_66 ?_
        rintro _ _ ⟨rfl, rfl⟩
        refine aw_iret dX9_copy_69 (Nat.zero_le _) (Nat.zero_le _) ?_
        have e9 : (cpM (F 1 k) (F 2 k) (F 1 k2) (F 2 k2) i j m) = 2 := by
          unfold cpM
          repeat' split
          all_goals first | rfl | contradiction | (rename_i h9; simp only [c_141, decide_false, Bool.and_false] at h9; cases h9; done) | (simp_all; done)
        rw [e9, if_neg (by decide), if_neg (by decide), if_neg (by decide)]
        exact ⟨rfl, rfl, rfl⟩
    · refine aw_aload_n dX9_copy_43 rfl rfl ?_
      refine aw_iconst (v := 1) dX9_copy_44 (by decide) ?_
      refine aw_callV cw_X9_fails ml_X9_79 im_X9_fails sl_X9_X9_fails rfl (by decide) rfl (c_X9_fails _ _ _) ⟨Nat.le_of_ble_eq_true rfl, Nat.le_of_ble_eq_true rfl⟩ ⟨Nat.zero_le _, Nat.zero_le _⟩ rfl rfl (Nat.le_of_ble_eq_true rfl) dX9_copy_45 ?_
      rintro _ _ ⟨rfl, rfl⟩
      refine aw_iret dX9_copy_48 (Nat.zero_le _) (Nat.zero_le _) ?_
      have e9 : (cpM (F 1 k) (F 2 k) (F 1 k2) (F 2 k2) i j m) = 1 := by
        unfold cpM
        repeat' split
        all_goals first | rfl | contradiction | (rename_i h9; simp only [c_141, decide_false, Bool.and_false] at h9; cases h9; done) | (simp_all; done)
      rw [e9, if_neg (by decide), if_neg (by decide), if_neg (by decide)]
      exact ⟨rfl, rfl, rfl⟩
