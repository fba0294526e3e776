section LCMP
variable {l : Launch} {D : va_G} {tc : Nat → ClassId} {own : String} {cc : ByteArray} {nL : Nat} {ret : Option FieldType} {R : Room} {n0 mc ms : Nat} {Q : Option Value → Nat → aw_H → Prop} {pc : Nat} {L : List (Option Value)} {st rest : List Value} {n : Nat} {h : aw_H} {cells slots : Nat}
theorem aw_lcmp {x y : Int64} (d : decode cc pc = .ok (.lcmp, 1)) (k : AW l D tc own cc nL ret R n0 mc ms Q (pc + 1) (L) (.int (lg_cmp x y) :: rest) n h cells slots) : AW l D tc own cc nL ret R n0 mc ms Q (pc) (L) (.long y :: .long x :: rest) n h cells slots :=
  fun p e s m args below meth c H locs ls A ad ad0 X Y => W.lcmp X.1 X.2.1 d (k p e s m args below meth c H locs ls A ad ad0 X Y)
end LCMP
theorem lg_cmp_0 (x y : Int64) : lg_cmp x y = 0 ↔ x = y := by
  unfold lg_cmp
  split
  · rename_i h
    constructor
    · intro q; cases q
    · intro q
      subst q
      exact absurd h (Int64.lt_irrefl)
  · split
    · simp [*]
    · constructor
      · intro q; cases q
      · intro q; contradiction
theorem ctN_lt {th : Int32} {my pp tt : Nat → Int32} {k : Nat} : ∀ m i f h, (ctN th my pp tt i m f h).1 = some k → k < i + m
  | 0, i, f, h, e => by
    rw [ctN] at e
    cases e
  | m + 1, i, f, h, e => by
    rw [ctN] at e
    split at e
    · have := ctN_lt m (i + 1) _ _ e
      omega
    · cases e
      omega
theorem ctR_1 {th : Int32} {my : Nat → Int32} {c : Nat} {w : Int32} (h : w = 1) (q : Option Nat × Int32 × Int32) : ctR th my c w q = ctW q := by
  subst h
  obtain ⟨o, f, g⟩ := q
  cases o <;> rfl
theorem ctR_2 {th : Int32} {my : Nat → Int32} {c : Nat} {w : Int32} (h : ¬ w = 1) {q : Option Nat × Int32 × Int32} (h2 : ¬ ctW q = -9) : ctR th my c w q = -100 - ctW q := by
  obtain ⟨o, f, g⟩ := q
  cases o
  · exact absurd rfl h2
  · simp [ctR, ctW, h]
theorem ctR_3 {th : Int32} {my : Nat → Int32} {c : Nat} {w : Int32} (h : ¬ w = 1) {q : Option Nat × Int32 × Int32} (h2 : ctW q = -9) (h3 : ∀ k, q.1 = some k → k < 2 ^ 31) : ctR th my c w q = if w = 0 then q.2.1 else if w = 2 then q.2.2 else goN th my q.2.1 q.2.2 c := by
  obtain ⟨o, f, g⟩ := q
  cases o with
  | none => simp [ctR, h]
  | some k =>
    have h4 := h3 k rfl
    have h5 : nI k = -9 := h2
    have h6 := congrArg Int32.toInt h5
    rw [nI_toInt h4] at h6
    have h7 : (-9 : Int32).toInt = -9 := by decide
    rw [h7] at h6
    omega
theorem sAg_0 {t a i m : Int32} {z : Nat} (hz : z ≤ 60) (h : sAg t (nI z) a i m = 0) : t ≠ -9 ∧ t = a ∧ ∃ i' m' : Nat, i = nI i' ∧ m = nI m' ∧ i' + m' ≤ z := by
  unfold sAg at h
  split at h
  · cases h
  · split at h
    · split at h
      · split at h
        · cases h
        · split at h
          · cases h
          · split at h
            · rename_i h1 h2 h3 h4 h5 h6
              refine ⟨h1, h2, ?_⟩
              obtain ⟨i', hi', rfl⟩ := nI_of h4
              obtain ⟨m', hm', rfl⟩ := nI_of (x := m) (Int32.not_lt.mpr h3)
              have h7 : i' ≤ z := by
                rcases Nat.lt_or_ge z i' with q | q
                · exact absurd (nI_lt q hi') h5
                · exact q
              rw [pk_sub h7, nI_leI hm' (by omega)] at h6
              exact ⟨i', m', rfl, rfl, by omega⟩
            · cases h
      · cases h
    · cases h

set_option maxRecDepth 100000 in
set_option maxHeartbeats 4000000 in
theorem c_X9_calls_no {l : Launch} {D : va_G} {tc : Nat → ClassId} (I F : Nat → Nat → Int32) (J : Nat → Nat → Int32) (hJ : J = st_I I 0 0 0) {x : Int32} (hx : sP 4 x = false) (a : Int32) (i : Int32) (m : Int32) (w : Int32) : AM l D tc yX9_calls cX9_calls 9 (some .int) 3 68 0 0 [.ref 0, .int x, .int a, .int i, .int m, .int w] 15 (hM I F) (fun v n1 h1 => n1 = 15 ∧ (v = some (.int (-1)) ∧ h1 = hM J F)) := by
  refine am_of (L := [some (.ref 0), some (.int x), some (.int a), some (.int i), some (.int m), some (.int w), none, none, none]) (by decide +kernel) (Nat.le_of_ble_eq_true rfl) rfl ?_
  refine aw_aload_n dX9_calls_0 rfl rfl ?_
  refine aw_iconst (v := 0) dX9_calls_1 (by decide) ?_
  refine aw_putI fp_X9_52_9 dX9_calls_2 (by decide) rfl rfl rfl (Nat.le_of_ble_eq_true rfl) rfl hJ.symm ?_
  clear hJ
  refine aw_iload_n dX9_calls_5 rfl rfl ?_
  refine aw_callS cw_X9_isSheet ml_X9_68 sm_X9_isSheet (c_X9_isSheet _ _ _) ⟨Nat.le_of_ble_eq_true rfl, Nat.le_of_ble_eq_true rfl⟩ ⟨Nat.zero_le _, Nat.zero_le _⟩ rfl rfl (Nat.le_of_ble_eq_true rfl) dX9_calls_6 ?_
  rintro _ _ ⟨rfl, rfl⟩
  rw [show b2i (sW _ 0 3) = 0 from by rw [sP4, hx]; rfl]
  refine aw_if_ne (tgt := 14) dX9_calls_9 (by decide) (fun c9 => absurd rfl c9) (fun _ => ?_)
  refine aw_iconst (v := (-1)) dX9_calls_12 (by decide) ?_
  refine aw_iret dX9_calls_13 (Nat.zero_le _) (Nat.zero_le _) ?_
  exact ⟨rfl, rfl, rfl⟩
set_option maxRecDepth 100000 in
set_option maxHeartbeats 4000000 in
theorem lp_X9_calls {l : Launch} {D : va_G} {tc : Nat → ClassId} (J F : Nat → Nat → Int32) {c : Nat} (hc : c ≤ 6) (hI5 : J 0 5 = nI c) {x : Nat} (hx : x < 2 ^ c) (hI7 : J 0 7 = nI x) {b n : Nat} (hb : b + 2 * n ≤ 240) (a0 a1 a2 w a6 : Int32) : ∀ (m i : Nat), i + m = n → anF c (fun k9 => F 3 (b + 2 * k9)) i = true → AW l D tc yX9_calls.cls cX9_calls 9 (some .int) { frames := 3, cells := 0, slots := 0, locals := 68 } 15 0 0 (fun v n1 h1 => n1 = 15 ∧ (∃ I1 F1, h1 = hM I1 F1 ∧ SM J F I1 F1 ∧ v = some (.int (if anF c (fun k9 => F 3 (b + 2 * k9)) n then ctR (nI x) (myM J F) c w (ctN (nI x) (myM J F) (fun k9 => F 3 (b + 2 * k9)) (fun k9 => F 3 (b + 2 * k9 + 1)) 0 n 0 (-9)) else -1)))) 91 [some (.ref 0), some (.int a0), some (.int a1), some (.int a2), some (.int (nI n)), some (.int w), some (.int a6), some (.int (nI b)), some (.int (nI i))] [] 15 (hM J F) 0 0 := by
  intro m
  induction m using Nat.strongRecOn with
  | _ m ih =>
    intro i hi hq
    refine aw_iload dX9_calls_91 rfl ?_
    refine aw_iload dX9_calls_93 rfl ?_
    refine aw_icmp_ge (tgt := 125) dX9_calls_95 (by decide) (fun c_95 => ?_) (fun c_95 => ?_)
    · have hi6 : i = n := lp_ge (by omega) (by omega) c_95
      have hq2 : anF c (fun k9 => F 3 (b + 2 * k9)) n = true := hi6 ▸ hq
      refine aw_aload_n dX9_calls_125 rfl rfl ?_
      refine aw_iload dX9_calls_126 rfl ?_
      refine aw_iload dX9_calls_128 rfl ?_
      refine aw_callV cw_X9_goCalls ml_X9_154 im_X9_goCalls sl_X9_X9_goCalls rfl (by decide) rfl (c_X9_goCalls J F hc hI5 hx hI7 hb (anF_yes hq2)) ⟨Nat.le_of_ble_eq_true rfl, Nat.le_of_ble_eq_true rfl⟩ ⟨Nat.zero_le _, Nat.zero_le _⟩ rfl rfl (Nat.le_of_ble_eq_true rfl) dX9_calls_130 ?_
      rintro _ _ ⟨rfl, rfl⟩
      have hlt : ∀ k9, (ctN (nI x) (myM J F) (fun k9 => F 3 (b + 2 * k9)) (fun k9 => F 3 (b + 2 * k9 + 1)) 0 n 0 (-9)).1 = some k9 → k9 < 2 ^ 31 := fun k9 e9 => by
        have := ctN_lt _ _ _ _ e9
        omega
      rw [if_pos hq2]
      generalize (ctN (nI x) (myM J F) (fun k9 => F 3 (b + 2 * k9)) (fun k9 => F 3 (b + 2 * k9 + 1)) 0 n 0 (-9)) = q9 at hlt ⊢
      refine aw_istore dX9_calls_133 (by decide) rfl ?_
      refine aw_iload dX9_calls_135 rfl ?_
      refine aw_iconst (v := 1) dX9_calls_137 (by decide) ?_
      refine aw_icmp_eq (tgt := 148) dX9_calls_138 (by decide) (fun c_138 => ?_) (fun c_138 => ?_)
      · refine aw_iload dX9_calls_148 rfl ?_
        refine aw_iconst (v := 1) dX9_calls_150 (by decide) ?_
        refine aw_icmp_ne (tgt := 159) dX9_calls_151 (by decide) (fun c_151 => ?_) (fun c_151 => ?_)
        · refine aw_bipush (v := (-100)) dX9_calls_159 (by decide) ?_
          refine aw_iload dX9_calls_161 rfl ?_
          refine aw_isub dX9_calls_163 ?_
          refine aw_iret dX9_calls_164 (Nat.zero_le _) (Nat.zero_le _) ?_
          refine ⟨rfl, _, _, rfl, SM_LM J F _ _ _, ?_⟩
          first | contradiction | (rw [ctR_1 (by assumption)]) | (rw [ctR_2 (by assumption) (by assumption)])
        · refine aw_iload dX9_calls_154 rfl ?_
          refine aw_goto (tgt := 164) dX9_calls_156 (by decide) ?_
          refine aw_iret dX9_calls_164 (Nat.zero_le _) (Nat.zero_le _) ?_
          refine ⟨rfl, _, _, rfl, SM_LM J F _ _ _, ?_⟩
          first | contradiction | (rw [ctR_1 (by assumption)]) | (rw [ctR_2 (by assumption) (by assumption)])
      · refine aw_iload dX9_calls_141 rfl ?_
        refine aw_bipush (v := (-9)) dX9_calls_143 (by decide) ?_
        refine aw_icmp_eq (tgt := 165) dX9_calls_145 (by decide) (fun c_145 => ?_) (fun c_145 => ?_)
        · refine aw_iload dX9_calls_165 rfl ?_
          refine aw_if_ne (tgt := 177) dX9_calls_167 (by decide) (fun c_167 => ?_) (fun c_167 => ?_)
          · refine aw_iload dX9_calls_177 rfl ?_
            refine aw_iconst (v := 2) dX9_calls_179 (by decide) ?_
            refine aw_icmp_ne (tgt := 190) dX9_calls_180 (by decide) (fun c_180 => ?_) (fun c_180 => ?_)
            · refine aw_aload_n dX9_calls_190 rfl rfl ?_
              refine aw_callV cw_X9_wouldGoOn ml_X9_158 im_X9_wouldGoOn sl_X9_X9_wouldGoOn rfl (by decide) he_LM (c_X9_wouldGoOn J F hc hI5 hx hI7 q9.2.1 q9.2.2 (J 0 19)) ⟨Nat.le_of_ble_eq_true rfl, Nat.le_of_ble_eq_true rfl⟩ ⟨Nat.zero_le _, Nat.zero_le _⟩ rfl rfl (Nat.le_of_ble_eq_true rfl) dX9_calls_191 ?_
              rintro _ _ ⟨rfl, rfl⟩
              refine aw_iret dX9_calls_194 (Nat.zero_le _) (Nat.zero_le _) ?_
              refine ⟨rfl, _, _, rfl, SM_LM J F _ _ _, ?_⟩
              rw [ctR_3 (by assumption) (by assumption) hlt]
              first | (rw [if_pos (by assumption)]) | (rw [if_neg (by assumption), if_pos (by assumption)]) | (rw [if_neg (by assumption), if_neg (by assumption)])
            · refine aw_aload_n dX9_calls_183 rfl rfl ?_
              refine aw_get fd_X9_133_9 dX9_calls_184 (by decide) he_LM rfl ?_
              refine aw_goto (tgt := 194) dX9_calls_187 (by decide) ?_
              refine aw_iret dX9_calls_194 (Nat.zero_le _) (Nat.zero_le _) ?_
              refine ⟨rfl, _, _, rfl, SM_LM J F _ _ _, ?_⟩
              rw [ctR_3 (by assumption) (by assumption) hlt]
              first | (rw [if_pos (by assumption)]) | (rw [if_neg (by assumption), if_pos (by assumption)]) | (rw [if_neg (by assumption), if_neg (by assumption)])
          · refine aw_aload_n dX9_calls_170 rfl rfl ?_
            refine aw_get fd_X9_130_9 dX9_calls_171 (by decide) he_LM rfl ?_
            refine aw_goto (tgt := 194) dX9_calls_174 (by decide) ?_
            refine aw_iret dX9_calls_194 (Nat.zero_le _) (Nat.zero_le _) ?_
            refine ⟨rfl, _, _, rfl, SM_LM J F _ _ _, ?_⟩
            rw [ctR_3 (by assumption) (by assumption) hlt]
            first | (rw [if_pos (by assumption)]) | (rw [if_neg (by assumption), if_pos (by assumption)]) | (rw [if_neg (by assumption), if_neg (by assumption)])
        · refine aw_iload dX9_calls_148 rfl ?_
          refine aw_iconst (v := 1) dX9_calls_150 (by decide) ?_
          refine aw_icmp_ne (tgt := 159) dX9_calls_151 (by decide) (fun c_151 => ?_) (fun c_151 => ?_)
          · refine aw_bipush (v := (-100)) dX9_calls_159 (by decide) ?_
            refine aw_iload dX9_calls_161 rfl ?_
            refine aw_isub dX9_calls_163 ?_
            refine aw_iret dX9_calls_164 (Nat.zero_le _) (Nat.zero_le _) ?_
            refine ⟨rfl, _, _, rfl, SM_LM J F _ _ _, ?_⟩
            first | contradiction | (rw [ctR_1 (by assumption)]) | (rw [ctR_2 (by assumption) (by assumption)])
          · refine aw_iload dX9_calls_154 rfl ?_
            refine aw_goto (tgt := 164) dX9_calls_156 (by decide) ?_
            refine aw_iret dX9_calls_164 (Nat.zero_le _) (Nat.zero_le _) ?_
            refine ⟨rfl, _, _, rfl, SM_LM J F _ _ _, ?_⟩
            first | contradiction | (rw [ctR_1 (by assumption)]) | (rw [ctR_2 (by assumption) (by assumption)])
    · have hi6 : i < n := lp_lt (N := n) (by omega) c_95
      refine aw_aload_n dX9_calls_98 rfl rfl ?_
      refine aw_aload_n dX9_calls_99 rfl rfl ?_
      refine aw_get fd_X9_16_9 dX9_calls_100 (by decide) rfl rfl ?_
      refine aw_iload dX9_calls_103 rfl ?_
      refine aw_iconst (v := 2) dX9_calls_105 (by decide) ?_
      refine aw_iload dX9_calls_106 rfl ?_
      refine aw_imul dX9_calls_108 ?_
      refine aw_iadd dX9_calls_109 ?_
      rw [ix2]
      refine aw_iald dX9_calls_110 (by decide) rfl (vp_in_nI (n := b + 2 * i) (by omega) (by decide)) ?_
      rw [nI_clamp (n := b + 2 * i) (by omega)]
      refine aw_callV cw_X9_isPerson ml_X9_120 im_X9_isPerson sl_X9_X9_isPerson rfl (by decide) rfl (c_X9_isPerson _ _ hc hI5 _) ⟨Nat.le_of_ble_eq_true rfl, Nat.le_of_ble_eq_true rfl⟩ ⟨Nat.zero_le _, Nat.zero_le _⟩ rfl rfl (Nat.le_of_ble_eq_true rfl) dX9_calls_111 ?_
      rintro _ _ ⟨rfl, rfl⟩
      refine aw_ifB_ne (tgt := 119) dX9_calls_114 (by decide) (fun c_114 => ?_) (fun c_114 => ?_)
      · refine aw_iinc (v := 1) dX9_calls_119 rfl (by decide) (by decide) rfl ?_
        refine aw_goto (tgt := 91) dX9_calls_122 (by decide) ?_
        rw [nI_1]
        exact ih (m - 1) (by omega) (i + 1) (by omega) (by rw [anF, hq]; exact c_114)
      · refine aw_iconst (v := (-1)) dX9_calls_117 (by decide) ?_
        refine aw_iret dX9_calls_118 (Nat.zero_le _) (Nat.zero_le _) ?_
        refine ⟨rfl, _, _, rfl, SM_refl J F, ?_⟩
        rw [if_neg (by rw [anF_no (rd := (fun k9 => F 3 (b + 2 * k9))) hi6 c_114]; decide)]
set_option maxRecDepth 100000 in
set_option maxHeartbeats 4000000 in
theorem c_X9_calls {l : Launch} {D : va_G} {tc : Nat → ClassId} (I F : Nat → Nat → Int32) (J : Nat → Nat → Int32) (hJ : J = st_I I 0 0 0) {c : Nat} (hc : c ≤ 6) (hI5 : J 0 5 = nI c) {x : Nat} (hx : x < 2 ^ c) (hI7 : J 0 7 = nI x) {k : Nat} (hk : k < 4) {z : Nat} (hz : z ≤ 60) (hz2 : F 2 k = nI z) (a i m w : Int32) : AM l D tc yX9_calls cX9_calls 9 (some .int) 3 68 0 0 [.ref 0, .int (nI k), .int a, .int i, .int m, .int w] 15 (hM I F) (fun v n1 h1 => n1 = 15 ∧ (∃ I1 F1, h1 = hM I1 F1 ∧ SM (if (sW a 0 2 && sW m 0 20 && sW w 0 3) then (if (sAg (F 1 k) (F 2 k) a i (2 * m)) = 0 then J else st_I J 0 0 (sAg (F 1 k) (F 2 k) a i (2 * m))) else J) F I1 F1 ∧ v = some (.int (if (sW a 0 2 && sW m 0 20 && sW w 0 3) then (if (sAg (F 1 k) (F 2 k) a i (2 * m)) = 0 then (if J 0 5 = 0 then -3 else if anF c (fun k9 => F 3 (60 * k + i.toNatClampNeg + 2 * k9)) m.toNatClampNeg then ctR (nI x) (myM J F) c w (ctN (nI x) (myM J F) (fun k9 => F 3 (60 * k + i.toNatClampNeg + 2 * k9)) (fun k9 => F 3 (60 * k + i.toNatClampNeg + 2 * k9 + 1)) 0 m.toNatClampNeg 0 (-9)) else -1) else -10 - (sAg (F 1 k) (F 2 k) a i (2 * m))) else -2)))) := by
  refine am_of (L := [some (.ref 0), some (.int (nI k)), some (.int a), some (.int i), some (.int m), some (.int w), none, none, none]) (by decide +kernel) (Nat.le_of_ble_eq_true rfl) rfl ?_
  refine aw_aload_n dX9_calls_0 rfl rfl ?_
  refine aw_iconst (v := 0) dX9_calls_1 (by decide) ?_
  refine aw_putI fp_X9_52_9 dX9_calls_2 (by decide) rfl rfl rfl (Nat.le_of_ble_eq_true rfl) rfl hJ.symm ?_
  clear hJ
  refine aw_iload_n dX9_calls_5 rfl rfl ?_
  refine aw_callS cw_X9_isSheet ml_X9_68 sm_X9_isSheet (c_X9_isSheet _ _ _) ⟨Nat.le_of_ble_eq_true rfl, Nat.le_of_ble_eq_true rfl⟩ ⟨Nat.zero_le _, Nat.zero_le _⟩ rfl rfl (Nat.le_of_ble_eq_true rfl) dX9_calls_6 ?_
  rintro _ _ ⟨rfl, rfl⟩
  rw [show b2i (sW (nI _) 0 3) = 1 from by rw [sP4, sP_nI (c := 4) (by omega) hk]; rfl]
  refine aw_if_ne (tgt := 14) dX9_calls_9 (by decide) (fun _ => ?_) (fun c9 => absurd c9 (by decide))
  refine aw_iload_n dX9_calls_14 rfl rfl ?_
  refine aw_callS cw_X9_isSort ml_X9_72 sm_X9_isSort (c_X9_isSort _ _ _) ⟨Nat.le_of_ble_eq_true rfl, Nat.le_of_ble_eq_true rfl⟩ ⟨Nat.zero_le _, Nat.zero_le _⟩ rfl rfl (Nat.le_of_ble_eq_true rfl) dX9_calls_15 ?_
  rintro _ _ ⟨rfl, rfl⟩
  refine aw_ifB_eq (tgt := 42) dX9_calls_18 (by decide) (fun c_18 => ?_) (fun c_18 => ?_)
  · refine aw_bipush (v := (-2)) dX9_calls_42 (by decide) ?_
    refine aw_iret dX9_calls_44 (Nat.zero_le _) (Nat.zero_le _) ?_
    refine ⟨rfl, _, _, rfl, ?_, ?_⟩ <;> rw [if_neg (by simp [*])]
    exact SM_refl _ _
  · refine aw_iload dX9_calls_21 rfl ?_
    refine aw_iconst (v := 0) dX9_calls_23 (by decide) ?_
    refine aw_bipush (v := (20)) dX9_calls_24 (by decide) ?_
    refine aw_callS cw_X9_within ml_X9_58 sm_X9_within (c_X9_within _ _ _ _ _) ⟨Nat.le_of_ble_eq_true rfl, Nat.le_of_ble_eq_true rfl⟩ ⟨Nat.zero_le _, Nat.zero_le _⟩ rfl rfl (Nat.le_of_ble_eq_true rfl) dX9_calls_26 ?_
    rintro _ _ ⟨rfl, rfl⟩
    refine aw_ifB_eq (tgt := 42) dX9_calls_29 (by decide) (fun c_29 => ?_) (fun c_29 => ?_)
    · refine aw_bipush (v := (-2)) dX9_calls_42 (by decide) ?_
      refine aw_iret dX9_calls_44 (Nat.zero_le _) (Nat.zero_le _) ?_
      refine ⟨rfl, _, _, rfl, ?_, ?_⟩ <;> rw [if_neg (by simp [*])]
      exact SM_refl _ _
    · refine aw_iload dX9_calls_32 rfl ?_
      refine aw_iconst (v := 0) dX9_calls_34 (by decide) ?_
      refine aw_iconst (v := 3) dX9_calls_35 (by decide) ?_
      refine aw_callS cw_X9_within ml_X9_58 sm_X9_within (c_X9_within _ _ _ _ _) ⟨Nat.le_of_ble_eq_true rfl, Nat.le_of_ble_eq_true rfl⟩ ⟨Nat.zero_le _, Nat.zero_le _⟩ rfl rfl (Nat.le_of_ble_eq_true rfl) dX9_calls_36 ?_
      rintro _ _ ⟨rfl, rfl⟩
      refine aw_ifB_ne (tgt := 45) dX9_calls_39 (by decide) (fun c_39 => ?_) (fun c_39 => ?_)
      · refine aw_aload_n dX9_calls_45 rfl rfl ?_
        refine aw_iload_n dX9_calls_46 rfl rfl ?_
        refine aw_iload_n dX9_calls_47 rfl rfl ?_
        refine aw_iload_n dX9_calls_48 rfl rfl ?_
        refine aw_iconst (v := 2) dX9_calls_49 (by decide) ?_
        refine aw_iload dX9_calls_50 rfl ?_
        refine aw_imul dX9_calls_52 ?_
        refine aw_callV cw_X9_against ml_X9_75 im_X9_against sl_X9_X9_against rfl (by decide) rfl (c_X9_against _ _ hk _ _ _) ⟨Nat.le_of_ble_eq_true rfl, Nat.le_of_ble_eq_true rfl⟩ ⟨Nat.zero_le _, Nat.zero_le _⟩ rfl rfl (Nat.le_of_ble_eq_true rfl) dX9_calls_53 ?_
        rintro _ _ ⟨rfl, rfl⟩
        refine aw_istore dX9_calls_56 (by decide) rfl ?_
        refine aw_iload dX9_calls_58 rfl ?_
        refine aw_if_eq (tgt := 70) dX9_calls_60 (by decide) (fun c_60 => ?_) (fun c_60 => ?_)
        · refine aw_aload_n dX9_calls_70 rfl rfl ?_
          refine aw_get fd_X9_62_9 dX9_calls_71 (by decide) rfl rfl ?_
          refine aw_if_ne (tgt := 80) dX9_calls_74 (by decide) (fun c_74 => ?_) (fun c_74 => ?_)
          · rw [if_pos (show (sW a 0 2 && sW m 0 20 && sW w 0 3) = true by rw [c_18, c_29, c_39]; rfl), if_pos (show (sW a 0 2 && sW m 0 20 && sW w 0 3) = true by rw [c_18, c_29, c_39]; rfl), if_pos c_60, if_pos c_60, if_neg c_74]
            rw [hz2] at c_60
            obtain ⟨_, _, i9, m9, ei, em, hle⟩ := sAg_0 hz c_60
            obtain ⟨n9, hn9, en⟩ := sW_ex (m := 20) (by decide) c_29
            subst ei
            subst en
            rw [show (2 : Int32) = nI 2 from rfl, pk_mul] at em
            have em2 : 2 * n9 = m9 := (nI_eq (by omega) (by omega)).mp em
            rw [nI_clamp (n := i9) (by omega), nI_clamp (n := n9) (by omega)]
            refine aw_bipush (v := (60)) dX9_calls_80 (by decide) ?_
            refine aw_iload_n dX9_calls_82 rfl rfl ?_
            refine aw_imul dX9_calls_83 ?_
            refine aw_iload_n dX9_calls_84 rfl rfl ?_
            refine aw_iadd dX9_calls_85 ?_
            rw [ix60]
            refine aw_istore dX9_calls_86 (by decide) rfl ?_
            refine aw_iconst (v := 0) dX9_calls_88 (by decide) ?_
            refine aw_istore dX9_calls_89 (by decide) rfl ?_
            exact lp_X9_calls J F hc hI5 hx hI7 (b := 60 * k + i9) (n := n9) (by omega) _ _ _ w _ n9 0 (by omega) rfl
          · refine aw_bipush (v := (-3)) dX9_calls_77 (by decide) ?_
            refine aw_iret dX9_calls_79 (Nat.zero_le _) (Nat.zero_le _) ?_
            refine ⟨rfl, _, _, rfl, ?_, ?_⟩ <;> rw [if_pos (show (sW a 0 2 && sW m 0 20 && sW w 0 3) = true by rw [c_18, c_29, c_39]; rfl), if_pos c_60]
            · exact SM_refl _ _
            · rw [if_pos c_74]
        · refine aw_aload_n dX9_calls_63 rfl rfl ?_
          refine aw_iload dX9_calls_64 rfl ?_
          refine aw_callV cw_X9_fails ml_X9_79 im_X9_fails sl_X9_X9_fails rfl (by decide) rfl (c_X9_fails _ _ _) ⟨Nat.le_of_ble_eq_true rfl, Nat.le_of_ble_eq_true rfl⟩ ⟨Nat.zero_le _, Nat.zero_le _⟩ rfl rfl (Nat.le_of_ble_eq_true rfl) dX9_calls_66 ?_
          rintro _ _ ⟨rfl, rfl⟩
          refine aw_iret dX9_calls_69 (Nat.zero_le _) (Nat.zero_le _) ?_
          refine ⟨rfl, _, _, rfl, ?_, ?_⟩ <;> rw [if_pos (show (sW a 0 2 && sW m 0 20 && sW w 0 3) = true by rw [c_18, c_29, c_39]; rfl), if_neg c_60]
          exact SM_refl _ _
      · refine aw_bipush (v := (-2)) dX9_calls_42 (by decide) ?_
        refine aw_iret dX9_calls_44 (Nat.zero_le _) (Nat.zero_le _) ?_
        refine ⟨rfl, _, _, rfl, ?_, ?_⟩ <;> rw [if_neg (by simp [*])]
        exact SM_refl _ _
def nLg (n : Nat) : Int64 := Int64.ofNat n
theorem nLg_mod : ∀ a b : Fin 65, b.1 ≠ 0 → nLg a.1 - nLg a.1 / nLg b.1 * nLg b.1 = nLg (a.1 % b.1) ∧ nLg a.1 / nLg b.1 = nLg (a.1 / b.1) := by decide +kernel
theorem nLg_0 : ∀ a : Fin 65, nLg a.1 = 0 ↔ a.1 = 0 := by decide +kernel
set_option maxRecDepth 100000 in
set_option maxHeartbeats 4000000 in
theorem lp_X9_ilt {l : Launch} {D : va_G} {tc : Nat → ClassId} {u d : Nat} (hu : u ≤ 64) (hd : d ≤ 64) (hd0 : 0 < d) (w : Int32) (n : Nat) (h : aw_H) : ∀ (y x : Nat) (z : Option Value), y ≤ 64 → x ≤ 64 → Nat.gcd x y = Nat.gcd u d → AW l D tc yX9_inLeastTerms.cls cX9_inLeastTerms 11 (some .long) { frames := 0, cells := 0, slots := 0, locals := 0 } n 0 0 (fun v n1 h1 => n1 = n ∧ (v = some (.long (if w = 0 then nLg (u / Nat.gcd u d) else nLg (d / Nat.gcd u d))) ∧ h1 = h)) 6 [some (.long (nLg u)), none, some (.long (nLg d)), none, some (.int w), some (.long (nLg x)), none, some (.long (nLg y)), none, z, none] [] n h 0 0 := by
  intro y
  induction y using Nat.strongRecOn with
  | _ y ih =>
    intro x z hy hx hg
    refine aw_lload dX9_inLeastTerms_6 rfl ?_
    refine aw_lconst (v := 0) dX9_inLeastTerms_8 (by decide) ?_
    refine aw_lcmp dX9_inLeastTerms_9 ?_
    refine aw_if_eq (tgt := 31) dX9_inLeastTerms_10 (by decide) (fun c_10 => ?_) (fun c_10 => ?_)
    · have hy0 : y = 0 := (nLg_0 ⟨y, by omega⟩).mp ((lg_cmp_0 _ _).mp c_10)
      subst hy0
      rw [Nat.gcd_zero_right] at hg
      subst hg
      have hx0 : Nat.gcd u d ≠ 0 := by
        have := Nat.gcd_pos_of_pos_right u hd0
        omega
      have hxL : ¬ nLg (Nat.gcd u d) = 0 := fun e => hx0 ((nLg_0 ⟨Nat.gcd u d, by omega⟩).mp e)
      refine aw_iload dX9_inLeastTerms_31 rfl ?_
      refine aw_if_ne (tgt := 43) dX9_inLeastTerms_33 (by decide) (fun c_33 => ?_) (fun c_33 => ?_)
      · refine aw_lload_n dX9_inLeastTerms_43 rfl rfl ?_
        refine aw_lload dX9_inLeastTerms_44 rfl ?_
        refine aw_ldiv dX9_inLeastTerms_46 hxL ?_
        (try rw [(nLg_mod ⟨d, by omega⟩ ⟨Nat.gcd u d, by omega⟩ hx0).2])
        refine aw_lret dX9_inLeastTerms_47 (Nat.zero_le _) (Nat.zero_le _) ?_
        refine ⟨rfl, ?_, rfl⟩
        first | (rw [if_pos c_33]) | (rw [if_neg c_33])
      · refine aw_lload_n dX9_inLeastTerms_36 rfl rfl ?_
        refine aw_lload dX9_inLeastTerms_37 rfl ?_
        refine aw_ldiv dX9_inLeastTerms_39 hxL ?_
        rw [(nLg_mod ⟨u, by omega⟩ ⟨Nat.gcd u d, by omega⟩ hx0).2]
        refine aw_goto (tgt := 47) dX9_inLeastTerms_40 (by decide) ?_
        (try rw [(nLg_mod ⟨d, by omega⟩ ⟨Nat.gcd u d, by omega⟩ hx0).2])
        refine aw_lret dX9_inLeastTerms_47 (Nat.zero_le _) (Nat.zero_le _) ?_
        refine ⟨rfl, ?_, rfl⟩
        first | (rw [if_pos c_33]) | (rw [if_neg c_33])
    · have hy0 : y ≠ 0 := fun e => c_10 ((lg_cmp_0 _ _).mpr (by rw [e]; rfl))
      have hyL : ¬ nLg y = 0 := fun e => hy0 ((nLg_0 ⟨y, by omega⟩).mp e)
      refine aw_lload dX9_inLeastTerms_13 rfl ?_
      refine aw_lload dX9_inLeastTerms_15 rfl ?_
      refine aw_lrem dX9_inLeastTerms_17 hyL ?_
      rw [(nLg_mod ⟨x, by omega⟩ ⟨y, by omega⟩ hy0).1]
      refine aw_lstore dX9_inLeastTerms_18 (by decide) rfl ?_
      refine aw_lload dX9_inLeastTerms_20 rfl ?_
      refine aw_lstore dX9_inLeastTerms_22 (by decide) rfl ?_
      refine aw_lload dX9_inLeastTerms_24 rfl ?_
      refine aw_lstore dX9_inLeastTerms_26 (by decide) rfl ?_
      refine aw_goto (tgt := 6) dX9_inLeastTerms_28 (by decide) ?_
      have hm : x % y < y := Nat.mod_lt _ (by omega)
      exact ih (x % y) hm y _ (by omega) (by omega) (by rw [← hg, Nat.gcd_comm y (x % y), ← Nat.gcd_rec y x, Nat.gcd_comm])
set_option maxRecDepth 100000 in
set_option maxHeartbeats 4000000 in
theorem c_X9_inLeastTerms {l : Launch} {D : va_G} {tc : Nat → ClassId} {u d : Nat} (hu : u ≤ 64) (hd : d ≤ 64) (hd0 : 0 < d) (w : Int32) (n : Nat) (h : aw_H) : AM l D tc yX9_inLeastTerms cX9_inLeastTerms 11 (some .long) 0 0 0 0 [.long (nLg u), .long (nLg d), .int w] n h (fun v n1 h1 => n1 = n ∧ (v = some (.long (if w = 0 then nLg (u / Nat.gcd u d) else nLg (d / Nat.gcd u d))) ∧ h1 = h)) := by
  refine am_of (L := [some (.long (nLg u)), none, some (.long (nLg d)), none, some (.int w), none, none, none, none, none, none]) (by decide +kernel) (Nat.le_of_ble_eq_true rfl) rfl ?_
  refine aw_lload_n dX9_inLeastTerms_0 rfl rfl ?_
  refine aw_lstore dX9_inLeastTerms_1 (by decide) rfl ?_
  refine aw_lload_n dX9_inLeastTerms_3 rfl rfl ?_
  refine aw_lstore dX9_inLeastTerms_4 (by decide) rfl ?_
  exact lp_X9_ilt hu hd hd0 w n h d u none hd hu rfl
def ucN (my : Nat → Int32) (p : Int32) : Nat → Nat
  | 0 => 0
  | s + 1 => ucN my p s + (if sDown my (nI (s + 1)) = p then 1 else 0)
theorem ucN_le (my : Nat → Int32) (p : Int32) : ∀ s, ucN my p s ≤ s
  | 0 => Nat.le_refl _
  | s + 1 => by
    have := ucN_le my p s
    rw [ucN]
    split <;> omega
theorem udN_n (my : Nat → Int32) (p : Int32) : ∀ s, udN my p s = nI (ucN my p s)
  | 0 => rfl
  | s + 1 => by
    rw [udN, ucN, udN_n my p s]
    split
    · exact nI_1 _
    · exact Int32.add_zero _
theorem lsh_c : ∀ c : Fin 7, (1 : Int64) <<< ((nI c.1).toInt64 &&& 63) = nLg (2 ^ c.1) := by decide +kernel
theorem lng_u : ∀ u : Fin 65, (nI u.1).toInt64 = nLg u.1 := by decide +kernel
set_option maxRecDepth 100000 in
set_option maxHeartbeats 4000000 in
theorem c_X9_odds_no {l : Launch} {D : va_G} {tc : Nat → ClassId} (I F : Nat → Nat → Int32) {c : Nat} (hc : c ≤ 6) (hI5 : I 0 5 = nI c) {x : Int32} (hx : sP c x = false) (w : Int32) : AM l D tc yX9_odds cX9_odds 5 (some .long) 3 66 0 0 [.ref 0, .int x, .int w] 15 (hM I F) (fun v n1 h1 => n1 = 15 ∧ (v = some (.long (-9223372036854775808)) ∧ h1 = hM I F)) := by
  refine am_of (L := [some (.ref 0), some (.int x), some (.int w), none, none]) (by decide +kernel) (Nat.le_of_ble_eq_true rfl) rfl ?_
  refine aw_aload_n dX9_odds_0 rfl rfl ?_
  refine aw_iload_n dX9_odds_1 rfl rfl ?_
  refine aw_callV cw_X9_isPerson ml_X9_120 im_X9_isPerson sl_X9_X9_isPerson rfl (by decide) rfl (c_X9_isPerson _ _ hc hI5 _) ⟨Nat.le_of_ble_eq_true rfl, Nat.le_of_ble_eq_true rfl⟩ ⟨Nat.zero_le _, Nat.zero_le _⟩ rfl rfl (Nat.le_of_ble_eq_true rfl) dX9_odds_2 ?_
  rintro _ _ ⟨rfl, rfl⟩
  rw [show b2i (sP c x) = 0 from by rw [hx]; rfl]
  refine aw_if_eq (tgt := 17) dX9_odds_5 (by decide) (fun _ => ?_) (fun c9 => absurd rfl c9)
  refine aw_ldc2 dX9_odds_17 ct_X9_56 ?_
  refine aw_lret dX9_odds_20 (Nat.zero_le _) (Nat.zero_le _) ?_
  exact ⟨rfl, rfl, rfl⟩
set_option maxRecDepth 100000 in
set_option maxHeartbeats 4000000 in
theorem lp_X9_odds {l : Launch} {D : va_G} {tc : Nat → ClassId} (I F : Nat → Nat → Int32) {c : Nat} (hc : c ≤ 6) (hI5 : I 0 5 = nI c) (hH : HH F c) {p : Nat} (hp : p < c) (w : Int32) : ∀ (m i : Nat) (f h s : Int32) (u : Nat), i + 1 + m = 2 ^ c → ucN (myM I F) (nI p) i = u → AW l D tc yX9_odds.cls cX9_odds 5 (some .long) { frames := 3, cells := 0, slots := 0, locals := 66 } 15 0 0 (fun v n1 h1 => n1 = 15 ∧ (∃ I1 F1, h1 = hM I1 F1 ∧ SM I F I1 F1 ∧ v = some (.long (if w = 0 then nLg ((ucN (myM I F) (nI p) (2 ^ c - 1)) / Nat.gcd (ucN (myM I F) (nI p) (2 ^ c - 1)) (2 ^ c)) else nLg (2 ^ c / Nat.gcd (ucN (myM I F) (nI p) (2 ^ c - 1)) (2 ^ c)))))) 26 [some (.ref 0), some (.int (nI p)), some (.int w), some (.int (nI u)), some (.int (nI (i + 1)))] [] 15 (hM (LM I f h s) F) 0 0 := by
  obtain ⟨h0c, h6c⟩ := pw_c hc
  intro m
  induction m using Nat.strongRecOn with
  | _ m ih =>
    intro i f h s u hi hq
    refine aw_iload dX9_odds_26 rfl ?_
    refine aw_iconst (v := 1) dX9_odds_28 (by decide) ?_
    refine aw_aload_n dX9_odds_29 rfl rfl ?_
    refine aw_get fd_X9_62_9 dX9_odds_30 (by decide) he_LM rfl ?_
    refine aw_ishl dX9_odds_33 ?_
    rw [hI5, show (1 : Int32) <<< (nI c &&& 31) = nI (2 ^ c) from bit_n (by omega)]
    refine aw_icmp_ge (tgt := 61) dX9_odds_34 (by decide) (fun c_34 => ?_) (fun c_34 => ?_)
    · have hi1 : i + 1 = 2 ^ c := lp_ge (by omega) (by omega) c_34
      have hu : (ucN (myM I F) (nI p) (2 ^ c - 1)) = u := by rw [← hq, show 2 ^ c - 1 = i by omega]
      have hu9 := ucN_le (myM I F) (nI p) (2 ^ c - 1)
      refine aw_iload_n dX9_odds_61 rfl rfl ?_
      refine aw_i2l dX9_odds_62 ?_
      rw [lng_u ⟨u, by omega⟩]
      refine aw_lconst (v := 1) dX9_odds_63 (by decide) ?_
      refine aw_aload_n dX9_odds_64 rfl rfl ?_
      refine aw_get fd_X9_62_9 dX9_odds_65 (by decide) he_LM rfl ?_
      rw [hI5]
      refine aw_lshl dX9_odds_68 ?_
      rw [lsh_c ⟨c, by omega⟩]
      refine aw_iload_n dX9_odds_69 rfl rfl ?_
      refine aw_callS cw_X9_inLeastTerms ml_X9_184 sm_X9_inLeastTerms (c_X9_inLeastTerms (u := u) (d := 2 ^ c) (by omega) (by omega) (by omega) w _ _) ⟨Nat.le_of_ble_eq_true rfl, Nat.le_of_ble_eq_true rfl⟩ ⟨Nat.zero_le _, Nat.zero_le _⟩ rfl rfl (Nat.le_of_ble_eq_true rfl) dX9_odds_70 ?_
      rintro _ _ ⟨rfl, rfl⟩
      refine aw_lret dX9_odds_73 (Nat.zero_le _) (Nat.zero_le _) ?_
      refine ⟨rfl, _, _, rfl, SM_LM I F f h s, ?_⟩
      rw [hu]
    · have hi1 : i + 1 < 2 ^ c := lp_lt (by omega) c_34
      refine aw_iload_n dX9_odds_37 rfl rfl ?_
      refine aw_aload_n dX9_odds_38 rfl rfl ?_
      refine aw_iload dX9_odds_39 rfl ?_
      refine aw_callV cw_X9_callOf ml_X9_145 im_X9_callOf sl_X9_X9_callOf rfl (by decide) he_LM (c_X9_callOf3 I F hc hI5 (x := i + 1) hi1 (by omega) hH f h s) ⟨Nat.le_of_ble_eq_true rfl, Nat.le_of_ble_eq_true rfl⟩ ⟨Nat.zero_le _, Nat.zero_le _⟩ rfl rfl (Nat.le_of_ble_eq_true rfl) dX9_odds_41 ?_
      rintro _ _ ⟨rfl, rfl⟩
      refine aw_iload_n dX9_odds_44 rfl rfl ?_
      refine aw_icmp_ne (tgt := 52) dX9_odds_45 (by decide) (fun c_45 => ?_) (fun c_45 => ?_)
      · refine aw_iconst (v := 0) dX9_odds_52 (by decide) ?_
        refine aw_iadd dX9_odds_53 ?_
        refine aw_istore_n dX9_odds_54 rfl (by decide) rfl ?_
        refine aw_iinc (v := 1) dX9_odds_55 rfl (by decide) (by decide) rfl ?_
        refine aw_goto (tgt := 26) dX9_odds_58 (by decide) ?_
        (try rw [Int32.add_zero])
        simp only [nI_1]
        exact ih (m - 1) (by omega) (i + 1) _ _ _ _ (by omega) (by rw [ucN, hq]; simp [c_45])
      · refine aw_iconst (v := 1) dX9_odds_48 (by decide) ?_
        refine aw_goto (tgt := 53) dX9_odds_49 (by decide) ?_
        refine aw_iadd dX9_odds_53 ?_
        refine aw_istore_n dX9_odds_54 rfl (by decide) rfl ?_
        refine aw_iinc (v := 1) dX9_odds_55 rfl (by decide) (by decide) rfl ?_
        refine aw_goto (tgt := 26) dX9_odds_58 (by decide) ?_
        (try rw [Int32.add_zero])
        simp only [nI_1]
        exact ih (m - 1) (by omega) (i + 1) _ _ _ _ (by omega) (by rw [ucN, hq]; simp [c_45])
set_option maxRecDepth 100000 in
set_option maxHeartbeats 4000000 in
theorem c_X9_odds {l : Launch} {D : va_G} {tc : Nat → ClassId} (I F : Nat → Nat → Int32) {c : Nat} (hc : c ≤ 6) (hI5 : I 0 5 = nI c) (hH : HH F c) {p : Nat} (hp : p < c) (w : Int32) : AM l D tc yX9_odds cX9_odds 5 (some .long) 3 66 0 0 [.ref 0, .int (nI p), .int w] 15 (hM I F) (fun v n1 h1 => n1 = 15 ∧ (∃ I1 F1, h1 = hM I1 F1 ∧ SM I F I1 F1 ∧ v = some (.long (if sW w 0 1 then (if w = 0 then nLg ((ucN (myM I F) (nI p) (2 ^ c - 1)) / Nat.gcd (ucN (myM I F) (nI p) (2 ^ c - 1)) (2 ^ c)) else nLg (2 ^ c / Nat.gcd (ucN (myM I F) (nI p) (2 ^ c - 1)) (2 ^ c))) else -9223372036854775808)))) := by
  refine am_of (L := [some (.ref 0), some (.int (nI p)), some (.int w), none, none]) (by decide +kernel) (Nat.le_of_ble_eq_true rfl) rfl ?_
  refine aw_aload_n dX9_odds_0 rfl rfl ?_
  refine aw_iload_n dX9_odds_1 rfl rfl ?_
  refine aw_callV cw_X9_isPerson ml_X9_120 im_X9_isPerson sl_X9_X9_isPerson rfl (by decide) rfl (c_X9_isPerson _ _ hc hI5 _) ⟨Nat.le_of_ble_eq_true rfl, Nat.le_of_ble_eq_true rfl⟩ ⟨Nat.zero_le _, Nat.zero_le _⟩ rfl rfl (Nat.le_of_ble_eq_true rfl) dX9_odds_2 ?_
  rintro _ _ ⟨rfl, rfl⟩
  rw [show b2i (sP c (nI p)) = 1 from by rw [sP_nI hc hp]; rfl]
  refine aw_if_eq (tgt := 17) dX9_odds_5 (by decide) (fun c9 => absurd c9 (by decide)) (fun _ => ?_)
  refine aw_iload_n dX9_odds_8 rfl rfl ?_
  refine aw_iconst (v := 0) dX9_odds_9 (by decide) ?_
  refine aw_iconst (v := 1) dX9_odds_10 (by decide) ?_
  refine aw_callS cw_X9_within ml_X9_58 sm_X9_within (c_X9_within _ _ _ _ _) ⟨Nat.le_of_ble_eq_true rfl, Nat.le_of_ble_eq_true rfl⟩ ⟨Nat.zero_le _, Nat.zero_le _⟩ rfl rfl (Nat.le_of_ble_eq_true rfl) dX9_odds_11 ?_
  rintro _ _ ⟨rfl, rfl⟩
  refine aw_ifB_ne (tgt := 21) dX9_odds_14 (by decide) (fun c_14 => ?_) (fun c_14 => ?_)
  · refine aw_iconst (v := 0) dX9_odds_21 (by decide) ?_
    refine aw_istore_n dX9_odds_22 rfl (by decide) rfl ?_
    refine aw_iconst (v := 1) dX9_odds_23 (by decide) ?_
    refine aw_istore dX9_odds_24 (by decide) rfl ?_
    obtain ⟨h0c, h6c⟩ := pw_c hc
    rw [if_pos c_14]
    have hl := lp_X9_odds (l := l) (D := D) (tc := tc) I F hc hI5 hH hp w (2 ^ c - 1) 0 (I 0 17) (I 0 18) (I 0 19) 0 (by omega) rfl
    rw [← LM_I] at hl
    exact hl
  · refine aw_ldc2 dX9_odds_17 ct_X9_56 ?_
    refine aw_lret dX9_odds_20 (Nat.zero_le _) (Nat.zero_le _) ?_
    refine ⟨rfl, _, _, rfl, SM_refl I F, ?_⟩
    rw [if_neg (by rw [c_14]; decide)]
