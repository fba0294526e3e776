section
-- ===== PART A: goes FIRST, ahead of the names: the tables' words, and 'selects' of the private methods out of them =====
/-- a private method of a class that the tables say can be made, by its rows of tables_1 -/
def lw_okq (q : MethodName × Nat) : Prop := (q.1.cls ≠ "java/lang/invoke/MethodHandle" ∧ q.1.cls ≠ "java/lang/invoke/VarHandle") ∧ Cond.instantiable q.1.cls q.2 ∈ tables_1 ∧ Cond.privateMethod q.1 ∈ tables_1 ∧ Cond.instanceMethod q.1 ∈ tables_1
theorem lw_p0 : lw_okq (⟨"StepBack", "sheetAt", "(I)LStepBack$Row;"⟩, 12) := ⟨⟨by decide +kernel, by decide +kernel⟩, List.mem_of_getElem? (i := 15) (by decide +kernel), List.mem_of_getElem? (i := 166) (by decide +kernel), List.mem_of_getElem? (i := 167) (by decide +kernel)⟩
theorem lw_p1 : lw_okq (⟨"StepBack", "faulted", "(I)I"⟩, 12) := ⟨⟨by decide +kernel, by decide +kernel⟩, List.mem_of_getElem? (i := 15) (by decide +kernel), List.mem_of_getElem? (i := 183) (by decide +kernel), List.mem_of_getElem? (i := 184) (by decide +kernel)⟩
theorem lw_p2 : lw_okq (⟨"StepBack", "takeText", "(LStepBack$Row;II)V"⟩, 12) := ⟨⟨by decide +kernel, by decide +kernel⟩, List.mem_of_getElem? (i := 15) (by decide +kernel), List.mem_of_getElem? (i := 201) (by decide +kernel), List.mem_of_getElem? (i := 202) (by decide +kernel)⟩
theorem lw_p3 : lw_okq (⟨"StepBack", "everybody", "()I"⟩, 12) := ⟨⟨by decide +kernel, by decide +kernel⟩, List.mem_of_getElem? (i := 15) (by decide +kernel), List.mem_of_getElem? (i := 248) (by decide +kernel), List.mem_of_getElem? (i := 249) (by decide +kernel)⟩
theorem lw_p4 : lw_okq (⟨"StepBack", "personAt", "(I)LStepBack$Plain;"⟩, 12) := ⟨⟨by decide +kernel, by decide +kernel⟩, List.mem_of_getElem? (i := 15) (by decide +kernel), List.mem_of_getElem? (i := 263) (by decide +kernel), List.mem_of_getElem? (i := 264) (by decide +kernel)⟩
theorem lw_p5 : lw_okq (⟨"StepBack", "mayGo", "(III)I"⟩, 12) := ⟨⟨by decide +kernel, by decide +kernel⟩, List.mem_of_getElem? (i := 15) (by decide +kernel), List.mem_of_getElem? (i := 281) (by decide +kernel), List.mem_of_getElem? (i := 282) (by decide +kernel)⟩
theorem lw_p6 : lw_okq (⟨"StepBack", "maysNow", "()[I"⟩, 12) := ⟨⟨by decide +kernel, by decide +kernel⟩, List.mem_of_getElem? (i := 15) (by decide +kernel), List.mem_of_getElem? (i := 320) (by decide +kernel), List.mem_of_getElem? (i := 321) (by decide +kernel)⟩
theorem lw_p7 : lw_okq (⟨"StepBack$Lift", "goesRound", "([II)Z"⟩, 5) := ⟨⟨by decide +kernel, by decide +kernel⟩, List.mem_of_getElem? (i := 27) (by decide +kernel), List.mem_of_getElem? (i := 328) (by decide +kernel), List.mem_of_getElem? (i := 329) (by decide +kernel)⟩
theorem lw_p8 : lw_okq (⟨"StepBack", "areTwo", "(II)Z"⟩, 12) := ⟨⟨by decide +kernel, by decide +kernel⟩, List.mem_of_getElem? (i := 15) (by decide +kernel), List.mem_of_getElem? (i := 354) (by decide +kernel), List.mem_of_getElem? (i := 355) (by decide +kernel)⟩
theorem lw_p9 : lw_okq (⟨"StepBack", "allNameSomebody", "(LStepBack$Row;II)Z"⟩, 12) := ⟨⟨by decide +kernel, by decide +kernel⟩, List.mem_of_getElem? (i := 15) (by decide +kernel), List.mem_of_getElem? (i := 367) (by decide +kernel), List.mem_of_getElem? (i := 368) (by decide +kernel)⟩
theorem lw_p10 : lw_okq (⟨"StepBack", "callsTold", "(LStepBack$Row;III)I"⟩, 12) := ⟨⟨by decide +kernel, by decide +kernel⟩, List.mem_of_getElem? (i := 15) (by decide +kernel), List.mem_of_getElem? (i := 371) (by decide +kernel), List.mem_of_getElem? (i := 372) (by decide +kernel)⟩
theorem lw_p11 : lw_okq (⟨"StepBack", "howManyGoOn", "([III)I"⟩, 12) := ⟨⟨by decide +kernel, by decide +kernel⟩, List.mem_of_getElem? (i := 15) (by decide +kernel), List.mem_of_getElem? (i := 375) (by decide +kernel), List.mem_of_getElem? (i := 376) (by decide +kernel)⟩
theorem lw_p12 : lw_okq (⟨"StepBack", "lossOfOrder", "()I"⟩, 12) := ⟨⟨by decide +kernel, by decide +kernel⟩, List.mem_of_getElem? (i := 15) (by decide +kernel), List.mem_of_getElem? (i := 393) (by decide +kernel), List.mem_of_getElem? (i := 394) (by decide +kernel)⟩
theorem lw_p13 : lw_okq (⟨"StepBack", "hasteOf", "(I)I"⟩, 12) := ⟨⟨by decide +kernel, by decide +kernel⟩, List.mem_of_getElem? (i := 15) (by decide +kernel), List.mem_of_getElem? (i := 397) (by decide +kernel), List.mem_of_getElem? (i := 398) (by decide +kernel)⟩
theorem lw_p14 : lw_okq (⟨"StepBack", "leastLoss", "()I"⟩, 12) := ⟨⟨by decide +kernel, by decide +kernel⟩, List.mem_of_getElem? (i := 15) (by decide +kernel), List.mem_of_getElem? (i := 401) (by decide +kernel), List.mem_of_getElem? (i := 402) (by decide +kernel)⟩
theorem lw_p15 : lw_okq (⟨"StepBack$Debts", "mostGroups", "(I)I"⟩, 3) := ⟨⟨by decide +kernel, by decide +kernel⟩, List.mem_of_getElem? (i := 54) (by decide +kernel), List.mem_of_getElem? (i := 440) (by decide +kernel), List.mem_of_getElem? (i := 441) (by decide +kernel)⟩
def lw_privs_1 : List (MethodName × Nat) := [(⟨"StepBack", "sheetAt", "(I)LStepBack$Row;"⟩, 12), (⟨"StepBack", "faulted", "(I)I"⟩, 12), (⟨"StepBack", "takeText", "(LStepBack$Row;II)V"⟩, 12), (⟨"StepBack", "everybody", "()I"⟩, 12), (⟨"StepBack", "personAt", "(I)LStepBack$Plain;"⟩, 12), (⟨"StepBack", "mayGo", "(III)I"⟩, 12), (⟨"StepBack", "maysNow", "()[I"⟩, 12), (⟨"StepBack$Lift", "goesRound", "([II)Z"⟩, 5), (⟨"StepBack", "areTwo", "(II)Z"⟩, 12), (⟨"StepBack", "allNameSomebody", "(LStepBack$Row;II)Z"⟩, 12), (⟨"StepBack", "callsTold", "(LStepBack$Row;III)I"⟩, 12), (⟨"StepBack", "howManyGoOn", "([III)I"⟩, 12), (⟨"StepBack", "lossOfOrder", "()I"⟩, 12), (⟨"StepBack", "hasteOf", "(I)I"⟩, 12), (⟨"StepBack", "leastLoss", "()I"⟩, 12), (⟨"StepBack$Debts", "mostGroups", "(I)I"⟩, 3)]
theorem lw_r1 : ∀ q ∈ lw_privs_1, lw_okq q := List.forall_mem_cons.mpr ⟨lw_p0, List.forall_mem_cons.mpr ⟨lw_p1, List.forall_mem_cons.mpr ⟨lw_p2, List.forall_mem_cons.mpr ⟨lw_p3, List.forall_mem_cons.mpr ⟨lw_p4, List.forall_mem_cons.mpr ⟨lw_p5, List.forall_mem_cons.mpr ⟨lw_p6, List.forall_mem_cons.mpr ⟨lw_p7, List.forall_mem_cons.mpr ⟨lw_p8, List.forall_mem_cons.mpr ⟨lw_p9, List.forall_mem_cons.mpr ⟨lw_p10, List.forall_mem_cons.mpr ⟨lw_p11, List.forall_mem_cons.mpr ⟨lw_p12, List.forall_mem_cons.mpr ⟨lw_p13, List.forall_mem_cons.mpr ⟨lw_p14, List.forall_mem_cons.mpr ⟨lw_p15, fun _ h => absurd h List.not_mem_nil⟩⟩⟩⟩⟩⟩⟩⟩⟩⟩⟩⟩⟩⟩⟩⟩
theorem lw_p16 : lw_okq (⟨"StepBack$Row", "cut", "(I)I"⟩, 4) := ⟨⟨by decide +kernel, by decide +kernel⟩, List.mem_of_getElem? (i := 103) (by decide +kernel), List.mem_of_getElem? (i := 506) (by decide +kernel), List.mem_of_getElem? (i := 507) (by decide +kernel)⟩
theorem lw_p17 : lw_okq (⟨"StepBackModel", "against", "(IIII)I"⟩, 28) := ⟨⟨by decide +kernel, by decide +kernel⟩, List.mem_of_getElem? (i := 586) (by decide +kernel), List.mem_of_getElem? (i := 690) (by decide +kernel), List.mem_of_getElem? (i := 691) (by decide +kernel)⟩
theorem lw_p18 : lw_okq (⟨"StepBackModel", "fails", "(I)I"⟩, 28) := ⟨⟨by decide +kernel, by decide +kernel⟩, List.mem_of_getElem? (i := 586) (by decide +kernel), List.mem_of_getElem? (i := 694) (by decide +kernel), List.mem_of_getElem? (i := 695) (by decide +kernel)⟩
theorem lw_p19 : lw_okq (⟨"StepBackModel", "readLine", "(I)Z"⟩, 28) := ⟨⟨by decide +kernel, by decide +kernel⟩, List.mem_of_getElem? (i := 586) (by decide +kernel), List.mem_of_getElem? (i := 698) (by decide +kernel), List.mem_of_getElem? (i := 699) (by decide +kernel)⟩
theorem lw_p20 : lw_okq (⟨"StepBackModel", "isSign", "(II)Z"⟩, 28) := ⟨⟨by decide +kernel, by decide +kernel⟩, List.mem_of_getElem? (i := 586) (by decide +kernel), List.mem_of_getElem? (i := 702) (by decide +kernel), List.mem_of_getElem? (i := 703) (by decide +kernel)⟩
theorem lw_p21 : lw_okq (⟨"StepBackModel", "digit", "(I)I"⟩, 28) := ⟨⟨by decide +kernel, by decide +kernel⟩, List.mem_of_getElem? (i := 586) (by decide +kernel), List.mem_of_getElem? (i := 706) (by decide +kernel), List.mem_of_getElem? (i := 707) (by decide +kernel)⟩
theorem lw_p22 : lw_okq (⟨"StepBackModel", "readPerson", "(I)Z"⟩, 28) := ⟨⟨by decide +kernel, by decide +kernel⟩, List.mem_of_getElem? (i := 586) (by decide +kernel), List.mem_of_getElem? (i := 710) (by decide +kernel), List.mem_of_getElem? (i := 711) (by decide +kernel)⟩
theorem lw_p23 : lw_okq (⟨"StepBackModel", "takeLine", "()V"⟩, 28) := ⟨⟨by decide +kernel, by decide +kernel⟩, List.mem_of_getElem? (i := 586) (by decide +kernel), List.mem_of_getElem? (i := 714) (by decide +kernel), List.mem_of_getElem? (i := 715) (by decide +kernel)⟩
theorem lw_p24 : lw_okq (⟨"StepBackModel", "isPerson", "(I)Z"⟩, 28) := ⟨⟨by decide +kernel, by decide +kernel⟩, List.mem_of_getElem? (i := 586) (by decide +kernel), List.mem_of_getElem? (i := 722) (by decide +kernel), List.mem_of_getElem? (i := 723) (by decide +kernel)⟩
theorem lw_p25 : lw_okq (⟨"StepBackModel", "wouldOf", "(I)I"⟩, 28) := ⟨⟨by decide +kernel, by decide +kernel⟩, List.mem_of_getElem? (i := 586) (by decide +kernel), List.mem_of_getElem? (i := 726) (by decide +kernel), List.mem_of_getElem? (i := 727) (by decide +kernel)⟩
theorem lw_p26 : lw_okq (⟨"StepBackModel", "mayOf", "(I)I"⟩, 28) := ⟨⟨by decide +kernel, by decide +kernel⟩, List.mem_of_getElem? (i := 586) (by decide +kernel), List.mem_of_getElem? (i := 730) (by decide +kernel), List.mem_of_getElem? (i := 731) (by decide +kernel)⟩
theorem lw_p27 : lw_okq (⟨"StepBackModel", "sumOf", "(IZ)I"⟩, 28) := ⟨⟨by decide +kernel, by decide +kernel⟩, List.mem_of_getElem? (i := 586) (by decide +kernel), List.mem_of_getElem? (i := 734) (by decide +kernel), List.mem_of_getElem? (i := 735) (by decide +kernel)⟩
theorem lw_p28 : lw_okq (⟨"StepBackModel", "callOf", "(I)I"⟩, 28) := ⟨⟨by decide +kernel, by decide +kernel⟩, List.mem_of_getElem? (i := 586) (by decide +kernel), List.mem_of_getElem? (i := 754) (by decide +kernel), List.mem_of_getElem? (i := 755) (by decide +kernel)⟩
theorem lw_p29 : lw_okq (⟨"StepBackModel", "areTwo", "(II)Z"⟩, 28) := ⟨⟨by decide +kernel, by decide +kernel⟩, List.mem_of_getElem? (i := 586) (by decide +kernel), List.mem_of_getElem? (i := 775) (by decide +kernel), List.mem_of_getElem? (i := 776) (by decide +kernel)⟩
theorem lw_p30 : lw_okq (⟨"StepBackModel", "goCalls", "(II)I"⟩, 28) := ⟨⟨by decide +kernel, by decide +kernel⟩, List.mem_of_getElem? (i := 586) (by decide +kernel), List.mem_of_getElem? (i := 787) (by decide +kernel), List.mem_of_getElem? (i := 788) (by decide +kernel)⟩
theorem lw_p31 : lw_okq (⟨"StepBackModel", "wouldGoOn", "()I"⟩, 28) := ⟨⟨by decide +kernel, by decide +kernel⟩, List.mem_of_getElem? (i := 586) (by decide +kernel), List.mem_of_getElem? (i := 791) (by decide +kernel), List.mem_of_getElem? (i := 792) (by decide +kernel)⟩
def lw_privs_2 : List (MethodName × Nat) := [(⟨"StepBack$Row", "cut", "(I)I"⟩, 4), (⟨"StepBackModel", "against", "(IIII)I"⟩, 28), (⟨"StepBackModel", "fails", "(I)I"⟩, 28), (⟨"StepBackModel", "readLine", "(I)Z"⟩, 28), (⟨"StepBackModel", "isSign", "(II)Z"⟩, 28), (⟨"StepBackModel", "digit", "(I)I"⟩, 28), (⟨"StepBackModel", "readPerson", "(I)Z"⟩, 28), (⟨"StepBackModel", "takeLine", "()V"⟩, 28), (⟨"StepBackModel", "isPerson", "(I)Z"⟩, 28), (⟨"StepBackModel", "wouldOf", "(I)I"⟩, 28), (⟨"StepBackModel", "mayOf", "(I)I"⟩, 28), (⟨"StepBackModel", "sumOf", "(IZ)I"⟩, 28), (⟨"StepBackModel", "callOf", "(I)I"⟩, 28), (⟨"StepBackModel", "areTwo", "(II)Z"⟩, 28), (⟨"StepBackModel", "goCalls", "(II)I"⟩, 28), (⟨"StepBackModel", "wouldGoOn", "()I"⟩, 28)]
theorem lw_r2 : ∀ q ∈ lw_privs_2, lw_okq q := List.forall_mem_cons.mpr ⟨lw_p16, List.forall_mem_cons.mpr ⟨lw_p17, List.forall_mem_cons.mpr ⟨lw_p18, List.forall_mem_cons.mpr ⟨lw_p19, List.forall_mem_cons.mpr ⟨lw_p20, List.forall_mem_cons.mpr ⟨lw_p21, List.forall_mem_cons.mpr ⟨lw_p22, List.forall_mem_cons.mpr ⟨lw_p23, List.forall_mem_cons.mpr ⟨lw_p24, List.forall_mem_cons.mpr ⟨lw_p25, List.forall_mem_cons.mpr ⟨lw_p26, List.forall_mem_cons.mpr ⟨lw_p27, List.forall_mem_cons.mpr ⟨lw_p28, List.forall_mem_cons.mpr ⟨lw_p29, List.forall_mem_cons.mpr ⟨lw_p30, List.forall_mem_cons.mpr ⟨lw_p31, fun _ h => absurd h List.not_mem_nil⟩⟩⟩⟩⟩⟩⟩⟩⟩⟩⟩⟩⟩⟩⟩⟩
theorem lw_p32 : lw_okq (⟨"StepBackModel", "findOrder", "()V"⟩, 28) := ⟨⟨by decide +kernel, by decide +kernel⟩, List.mem_of_getElem? (i := 586) (by decide +kernel), List.mem_of_getElem? (i := 799) (by decide +kernel), List.mem_of_getElem? (i := 800) (by decide +kernel)⟩
theorem lw_p33 : lw_okq (⟨"StepBackModel", "leastLoss", "()I"⟩, 28) := ⟨⟨by decide +kernel, by decide +kernel⟩, List.mem_of_getElem? (i := 586) (by decide +kernel), List.mem_of_getElem? (i := 807) (by decide +kernel), List.mem_of_getElem? (i := 808) (by decide +kernel)⟩
theorem lw_p34 : lw_okq (⟨"StepBackModel", "balanceOf", "(I)I"⟩, 28) := ⟨⟨by decide +kernel, by decide +kernel⟩, List.mem_of_getElem? (i := 586) (by decide +kernel), List.mem_of_getElem? (i := 819) (by decide +kernel), List.mem_of_getElem? (i := 820) (by decide +kernel)⟩
theorem lw_p35 : lw_okq (⟨"StepBackModel", "mostGroups", "(I)I"⟩, 28) := ⟨⟨by decide +kernel, by decide +kernel⟩, List.mem_of_getElem? (i := 586) (by decide +kernel), List.mem_of_getElem? (i := 827) (by decide +kernel), List.mem_of_getElem? (i := 828) (by decide +kernel)⟩
theorem lw_p36 : lw_okq (⟨"StepBackModel", "isEven", "(I)Z"⟩, 28) := ⟨⟨by decide +kernel, by decide +kernel⟩, List.mem_of_getElem? (i := 586) (by decide +kernel), List.mem_of_getElem? (i := 831) (by decide +kernel), List.mem_of_getElem? (i := 832) (by decide +kernel)⟩
theorem lw_p37 : lw_okq (⟨"StepBackModel", "areSo", "()Z"⟩, 28) := ⟨⟨by decide +kernel, by decide +kernel⟩, List.mem_of_getElem? (i := 586) (by decide +kernel), List.mem_of_getElem? (i := 851) (by decide +kernel), List.mem_of_getElem? (i := 852) (by decide +kernel)⟩
theorem lw_p38 : lw_okq (⟨"StepBackModel", "lost", "(I)J"⟩, 28) := ⟨⟨by decide +kernel, by decide +kernel⟩, List.mem_of_getElem? (i := 586) (by decide +kernel), List.mem_of_getElem? (i := 887) (by decide +kernel), List.mem_of_getElem? (i := 888) (by decide +kernel)⟩
theorem lw_p39 : lw_okq (⟨"StepBackModel", "begins", "(I)V"⟩, 28) := ⟨⟨by decide +kernel, by decide +kernel⟩, List.mem_of_getElem? (i := 586) (by decide +kernel), List.mem_of_getElem? (i := 899) (by decide +kernel), List.mem_of_getElem? (i := 900) (by decide +kernel)⟩
def lw_privs_3 : List (MethodName × Nat) := [(⟨"StepBackModel", "findOrder", "()V"⟩, 28), (⟨"StepBackModel", "leastLoss", "()I"⟩, 28), (⟨"StepBackModel", "balanceOf", "(I)I"⟩, 28), (⟨"StepBackModel", "mostGroups", "(I)I"⟩, 28), (⟨"StepBackModel", "isEven", "(I)Z"⟩, 28), (⟨"StepBackModel", "areSo", "()Z"⟩, 28), (⟨"StepBackModel", "lost", "(I)J"⟩, 28), (⟨"StepBackModel", "begins", "(I)V"⟩, 28)]
theorem lw_r3 : ∀ q ∈ lw_privs_3, lw_okq q := List.forall_mem_cons.mpr ⟨lw_p32, List.forall_mem_cons.mpr ⟨lw_p33, List.forall_mem_cons.mpr ⟨lw_p34, List.forall_mem_cons.mpr ⟨lw_p35, List.forall_mem_cons.mpr ⟨lw_p36, List.forall_mem_cons.mpr ⟨lw_p37, List.forall_mem_cons.mpr ⟨lw_p38, List.forall_mem_cons.mpr ⟨lw_p39, fun _ h => absurd h List.not_mem_nil⟩⟩⟩⟩⟩⟩⟩⟩
def lw_privs : List (MethodName × Nat) := lw_privs_1 ++ (lw_privs_2 ++ (lw_privs_3))
def lw_tbl : List Cond := k2_sels lw_privs ++ tables_1
theorem lw_privs_ok : ∀ q ∈ lw_privs, lw_okq q := by
  show ∀ q ∈ lw_privs_1 ++ (lw_privs_2 ++ (lw_privs_3)), lw_okq q
  exact List.forall_mem_append.mpr ⟨lw_r1, List.forall_mem_append.mpr ⟨lw_r2, lw_r3⟩⟩
end
section
def RX0 : String := "StepBack$Debts"
def TX0 : u_T := fun k => match k with
  | 0 => ("StepBack$Debts", "owed", "[[I", true)
  | 1 => ("StepBack$Debts", "balances", "[I", true)
  | _ => ("StepBack$Debts", "groups", "[I", true)
def tyX0 : Nat → FieldType := fun k => match k with
  | 0 => .array (.array .int)
  | 1 => .array .int
  | _ => .array .int
theorem nmX0 : ∀ a, a < 3 → ∀ b, b < 3 → a ≠ b → (TX0 a).2.1 ≠ (TX0 b).2.1 := by decide +kernel
theorem tyX0_ok : ∀ k, k < 3 → parseFieldDescriptor (TX0 k).2.2.1 = some (tyX0 k) := by decide +kernel
abbrev cX0_init : ByteArray := prog_2_method_1_code
def yX0_init : MethodName := ⟨RX0, "<init>", "()V"⟩
abbrev cX0_areNumbers : ByteArray := prog_2_method_2_code
def yX0_areNumbers : MethodName := ⟨RX0, "areNumbers", "(II)Z"⟩
abbrev cX0_forget : ByteArray := prog_2_method_3_code
def yX0_forget : MethodName := ⟨RX0, "forget", "()V"⟩
abbrev cX0_add : ByteArray := prog_2_method_4_code
def yX0_add : MethodName := ⟨RX0, "add", "(III)V"⟩
abbrev cX0_between : ByteArray := prog_2_method_5_code
def yX0_between : MethodName := ⟨RX0, "between", "(II)I"⟩
abbrev cX0_owedBy : ByteArray := prog_2_method_6_code
def yX0_owedBy : MethodName := ⟨RX0, "owedBy", "(I)I"⟩
abbrev cX0_owedTo : ByteArray := prog_2_method_7_code
def yX0_owedTo : MethodName := ⟨RX0, "owedTo", "(I)I"⟩
abbrev cX0_balanceOf : ByteArray := prog_2_method_8_code
def yX0_balanceOf : MethodName := ⟨RX0, "balanceOf", "(I)I"⟩
abbrev cX0_leastSteps : ByteArray := prog_2_method_9_code
def yX0_leastSteps : MethodName := ⟨RX0, "leastSteps", "()I"⟩
abbrev cX0_leastPayments : ByteArray := prog_2_method_10_code
def yX0_leastPayments : MethodName := ⟨RX0, "leastPayments", "()I"⟩
abbrev cX0_mostGroups : ByteArray := prog_2_method_11_code
def yX0_mostGroups : MethodName := ⟨RX0, "mostGroups", "(I)I"⟩
def RX1 : String := "StepBack$Lame"
def TX1 : u_T := fun k => match k with
  | 0 => ("StepBack$Plain", "number", "I", true)
  | 1 => ("StepBack$Plain", "haste", "I", false)
  | _ => ("StepBack$Plain", "room", "I", false)
def tyX1 : Nat → FieldType := fun k => match k with
  | 0 => .int
  | 1 => .int
  | _ => .int
theorem nmX1 : ∀ a, a < 3 → ∀ b, b < 3 → a ≠ b → (TX1 a).2.1 ≠ (TX1 b).2.1 := by decide +kernel
theorem tyX1_ok : ∀ k, k < 3 → parseFieldDescriptor (TX1 k).2.2.1 = some (tyX1 k) := by decide +kernel
abbrev cX1_init : ByteArray := prog_3_method_1_code
def yX1_init : MethodName := ⟨RX1, "<init>", "(III)V"⟩
abbrev cX1_kind : ByteArray := prog_3_method_2_code
def yX1_kind : MethodName := ⟨RX1, "kind", "()I"⟩
abbrev cX1_telling : ByteArray := prog_3_method_3_code
def yX1_telling : MethodName := ⟨RX1, "telling", "(LStepBack$Trace;)I"⟩
abbrev cX1_heardAs : ByteArray := prog_3_method_4_code
def yX1_heardAs : MethodName := ⟨RX1, "heardAs", "(LStepBack$Trace;)I"⟩
def RX2 : String := "StepBack$Lift"
def TX2 : u_T := fun k => match k with
  | 0 => ("StepBack$Lift", "whoWent", "[I", true)
  | 1 => ("StepBack$Lift", "stepsGone", "[I", true)
  | 2 => ("StepBack$Lift", "far", "I", false)
  | 3 => ("StepBack$Lift", "head", "I", false)
  | _ => ("StepBack$Lift", "second", "I", false)
def tyX2 : Nat → FieldType := fun k => match k with
  | 0 => .array .int
  | 1 => .array .int
  | 2 => .int
  | 3 => .int
  | _ => .int
theorem nmX2 : ∀ a, a < 5 → ∀ b, b < 5 → a ≠ b → (TX2 a).2.1 ≠ (TX2 b).2.1 := by decide +kernel
theorem tyX2_ok : ∀ k, k < 5 → parseFieldDescriptor (TX2 k).2.2.1 = some (tyX2 k) := by decide +kernel
abbrev cX2_init : ByteArray := prog_4_method_1_code
def yX2_init : MethodName := ⟨RX2, "<init>", "()V"⟩
abbrev cX2_letDown : ByteArray := prog_4_method_2_code
def yX2_letDown : MethodName := ⟨RX2, "letDown", "([II)I"⟩
abbrev cX2_goesRound : ByteArray := prog_4_method_3_code
def yX2_goesRound : MethodName := ⟨RX2, "goesRound", "([II)Z"⟩
abbrev cX2_leastOf : ByteArray := prog_4_method_4_code
def yX2_leastOf : MethodName := ⟨RX2, "leastOf", "(I)I"⟩
abbrev cX2_goThroughAll : ByteArray := prog_4_method_5_code
def yX2_goThroughAll : MethodName := ⟨RX2, "goThroughAll", "([II)I"⟩
abbrev cX2_placeOf : ByteArray := prog_4_method_6_code
def yX2_placeOf : MethodName := ⟨RX2, "placeOf", "(I[II)I"⟩
def RX3 : String := "StepBack$Plain"
def TX3 : u_T := fun k => match k with
  | 0 => ("StepBack$Plain", "number", "I", true)
  | 1 => ("StepBack$Plain", "haste", "I", false)
  | _ => ("StepBack$Plain", "room", "I", false)
def tyX3 : Nat → FieldType := fun k => match k with
  | 0 => .int
  | 1 => .int
  | _ => .int
theorem nmX3 : ∀ a, a < 3 → ∀ b, b < 3 → a ≠ b → (TX3 a).2.1 ≠ (TX3 b).2.1 := by decide +kernel
theorem tyX3_ok : ∀ k, k < 3 → parseFieldDescriptor (TX3 k).2.2.1 = some (tyX3 k) := by decide +kernel
abbrev cX3_init : ByteArray := prog_5_method_1_code
def yX3_init : MethodName := ⟨RX3, "<init>", "(III)V"⟩
abbrev cX3_kind : ByteArray := prog_5_method_2_code
def yX3_kind : MethodName := ⟨RX3, "kind", "()I"⟩
abbrev cX3_telling : ByteArray := prog_5_method_3_code
def yX3_telling : MethodName := ⟨RX3, "telling", "(LStepBack$Trace;)I"⟩
abbrev cX3_plainTelling : ByteArray := prog_5_method_4_code
def yX3_plainTelling : MethodName := ⟨RX3, "plainTelling", "(LStepBack$Trace;)I"⟩
abbrev cX3_heardAs : ByteArray := prog_5_method_5_code
def yX3_heardAs : MethodName := ⟨RX3, "heardAs", "(LStepBack$Trace;)I"⟩
def RX4 : String := "StepBack$Proud"
def TX4 : u_T := fun k => match k with
  | 0 => ("StepBack$Plain", "number", "I", true)
  | 1 => ("StepBack$Plain", "haste", "I", false)
  | _ => ("StepBack$Plain", "room", "I", false)
def tyX4 : Nat → FieldType := fun k => match k with
  | 0 => .int
  | 1 => .int
  | _ => .int
theorem nmX4 : ∀ a, a < 3 → ∀ b, b < 3 → a ≠ b → (TX4 a).2.1 ≠ (TX4 b).2.1 := by decide +kernel
theorem tyX4_ok : ∀ k, k < 3 → parseFieldDescriptor (TX4 k).2.2.1 = some (tyX4 k) := by decide +kernel
abbrev cX4_init : ByteArray := prog_6_method_1_code
def yX4_init : MethodName := ⟨RX4, "<init>", "(III)V"⟩
abbrev cX4_kind : ByteArray := prog_6_method_2_code
def yX4_kind : MethodName := ⟨RX4, "kind", "()I"⟩
abbrev cX4_telling : ByteArray := prog_6_method_3_code
def yX4_telling : MethodName := ⟨RX4, "telling", "(LStepBack$Trace;)I"⟩
def RX5 : String := "StepBack$Readings"
def TX5 : u_T := fun k => match k with
  | 0 => ("StepBack$Readings", "who", "[I", true)
  | 1 => ("StepBack$Readings", "far", "[I", true)
  | 2 => ("StepBack$Readings", "on", "[Z", true)
  | _ => ("StepBack$Readings", "count", "I", false)
def tyX5 : Nat → FieldType := fun k => match k with
  | 0 => .array .int
  | 1 => .array .int
  | 2 => .array .boolean
  | _ => .int
theorem nmX5 : ∀ a, a < 4 → ∀ b, b < 4 → a ≠ b → (TX5 a).2.1 ≠ (TX5 b).2.1 := by decide +kernel
theorem tyX5_ok : ∀ k, k < 4 → parseFieldDescriptor (TX5 k).2.2.1 = some (tyX5 k) := by decide +kernel
abbrev cX5_init : ByteArray := prog_7_method_1_code
def yX5_init : MethodName := ⟨RX5, "<init>", "()V"⟩
abbrev cX5_add : ByteArray := prog_7_method_2_code
def yX5_add : MethodName := ⟨RX5, "add", "(IIZ)I"⟩
abbrev cX5_areSo : ByteArray := prog_7_method_3_code
def yX5_areSo : MethodName := ⟨RX5, "areSo", "([I)Z"⟩
def RX6 : String := "StepBack$Row"
def TX6 : u_T := fun k => match k with
  | 0 => ("StepBack$Row", "cells", "[I", true)
  | 1 => ("StepBack$Row", "isThere", "Z", false)
  | 2 => ("StepBack$Row", "lane", "I", false)
  | _ => ("StepBack$Row", "size", "I", false)
def tyX6 : Nat → FieldType := fun k => match k with
  | 0 => .array .int
  | 1 => .boolean
  | 2 => .int
  | _ => .int
theorem nmX6 : ∀ a, a < 4 → ∀ b, b < 4 → a ≠ b → (TX6 a).2.1 ≠ (TX6 b).2.1 := by decide +kernel
theorem tyX6_ok : ∀ k, k < 4 → parseFieldDescriptor (TX6 k).2.2.1 = some (tyX6 k) := by decide +kernel
abbrev cX6_init : ByteArray := prog_8_method_1_code
def yX6_init : MethodName := ⟨RX6, "<init>", "()V"⟩
abbrev cX6_renew : ByteArray := prog_8_method_2_code
def yX6_renew : MethodName := ⟨RX6, "renew", "(II)V"⟩
abbrev cX6_hasCells : ByteArray := prog_8_method_3_code
def yX6_hasCells : MethodName := ⟨RX6, "hasCells", "(II)Z"⟩
abbrev cX6_read : ByteArray := prog_8_method_4_code
def yX6_read : MethodName := ⟨RX6, "read", "(I)I"⟩
abbrev cX6_write : ByteArray := prog_8_method_5_code
def yX6_write : MethodName := ⟨RX6, "write", "(II)V"⟩
abbrev cX6_cut : ByteArray := prog_8_method_6_code
def yX6_cut : MethodName := ⟨RX6, "cut", "(I)I"⟩
def RX7 : String := "StepBack$Trace"
def TX7 : u_T := fun k => match k with
  | _ => ("StepBack$Trace", "value", "I", false)
def tyX7 : Nat → FieldType := fun k => match k with
  | _ => .int
theorem nmX7 : ∀ a, a < 1 → ∀ b, b < 1 → a ≠ b → (TX7 a).2.1 ≠ (TX7 b).2.1 := by decide +kernel
theorem tyX7_ok : ∀ k, k < 1 → parseFieldDescriptor (TX7 k).2.2.1 = some (tyX7 k) := by decide +kernel
abbrev cX7_init : ByteArray := prog_9_method_1_code
def yX7_init : MethodName := ⟨RX7, "<init>", "()V"⟩
abbrev cX7_leave : ByteArray := prog_9_method_2_code
def yX7_leave : MethodName := ⟨RX7, "leave", "(I)V"⟩
def RX8 : String := "StepBack"
def TX8 : u_T := fun k => match k with
  | 0 => ("StepBack", "sheets", "[LStepBack$Row;", true)
  | 1 => ("StepBack", "people", "[LStepBack$Plain;", true)
  | 2 => ("StepBack", "mays", "[I", true)
  | 3 => ("StepBack", "lift", "LStepBack$Lift;", true)
  | 4 => ("StepBack", "debts", "LStepBack$Debts;", true)
  | 5 => ("StepBack", "readings", "LStepBack$Readings;", true)
  | 6 => ("StepBack", "traceLeft", "LStepBack$Trace;", true)
  | 7 => ("StepBack", "count", "I", false)
  | 8 => ("StepBack", "ground", "I", false)
  | 9 => ("StepBack", "there", "I", false)
  | 10 => ("StepBack", "mornings", "I", false)
  | _ => ("StepBack", "latestFault", "I", false)
def tyX8 : Nat → FieldType := fun k => match k with
  | 0 => .array (.object "StepBack$Row")
  | 1 => .array (.object "StepBack$Plain")
  | 2 => .array .int
  | 3 => .object "StepBack$Lift"
  | 4 => .object "StepBack$Debts"
  | 5 => .object "StepBack$Readings"
  | 6 => .object "StepBack$Trace"
  | 7 => .int
  | 8 => .int
  | 9 => .int
  | 10 => .int
  | _ => .int
theorem nmX8 : ∀ a, a < 12 → ∀ b, b < 12 → a ≠ b → (TX8 a).2.1 ≠ (TX8 b).2.1 := by decide +kernel
theorem tyX8_ok : ∀ k, k < 12 → parseFieldDescriptor (TX8 k).2.2.1 = some (tyX8 k) := by decide +kernel
abbrev cX8_init : ByteArray := prog_1_method_1_code
def yX8_init : MethodName := ⟨RX8, "<init>", "()V"⟩
abbrev cX8_line : ByteArray := prog_1_method_2_code
def yX8_line : MethodName := ⟨RX8, "line", "(IIII)I"⟩
abbrev cX8_ofPerson : ByteArray := prog_1_method_3_code
def yX8_ofPerson : MethodName := ⟨RX8, "ofPerson", "(II)I"⟩
abbrev cX8_hurry : ByteArray := prog_1_method_4_code
def yX8_hurry : MethodName := ⟨RX8, "hurry", "(II)I"⟩
abbrev cX8_wall : ByteArray := prog_1_method_5_code
def yX8_wall : MethodName := ⟨RX8, "wall", "(II)I"⟩
abbrev cX8_lease : ByteArray := prog_1_method_6_code
def yX8_lease : MethodName := ⟨RX8, "lease", "(I)I"⟩
abbrev cX8_go : ByteArray := prog_1_method_7_code
def yX8_go : MethodName := ⟨RX8, "go", "()I"⟩
abbrev cX8_morning : ByteArray := prog_1_method_8_code
def yX8_morning : MethodName := ⟨RX8, "morning", "()I"⟩
abbrev cX8_owes : ByteArray := prog_1_method_9_code
def yX8_owes : MethodName := ⟨RX8, "owes", "(II)I"⟩
abbrev cX8_pays : ByteArray := prog_1_method_10_code
def yX8_pays : MethodName := ⟨RX8, "pays", "(III)I"⟩
abbrev cX8_calls : ByteArray := prog_1_method_11_code
def yX8_calls : MethodName := ⟨RX8, "calls", "(IIIII)I"⟩
abbrev cX8_order : ByteArray := prog_1_method_12_code
def yX8_order : MethodName := ⟨RX8, "order", "(II)I"⟩
abbrev cX8_loss : ByteArray := prog_1_method_13_code
def yX8_loss : MethodName := ⟨RX8, "loss", "(I)I"⟩
abbrev cX8_let : ByteArray := prog_1_method_14_code
def yX8_let : MethodName := ⟨RX8, "let", "(II)I"⟩
abbrev cX8_balance : ByteArray := prog_1_method_15_code
def yX8_balance : MethodName := ⟨RX8, "balance", "(I)I"⟩
abbrev cX8_cleared : ByteArray := prog_1_method_16_code
def yX8_cleared : MethodName := ⟨RX8, "cleared", "(I)I"⟩
abbrev cX8_were : ByteArray := prog_1_method_17_code
def yX8_were : MethodName := ⟨RX8, "were", "(III)I"⟩
abbrev cX8_reading : ByteArray := prog_1_method_18_code
def yX8_reading : MethodName := ⟨RX8, "reading", "(III)I"⟩
abbrev cX8_back : ByteArray := prog_1_method_19_code
def yX8_back : MethodName := ⟨RX8, "back", "(I)I"⟩
abbrev cX8_hastes : ByteArray := prog_1_method_20_code
def yX8_hastes : MethodName := ⟨RX8, "hastes", "(I)I"⟩
abbrev cX8_rooms : ByteArray := prog_1_method_21_code
def yX8_rooms : MethodName := ⟨RX8, "rooms", "(I)I"⟩
abbrev cX8_kinds : ByteArray := prog_1_method_22_code
def yX8_kinds : MethodName := ⟨RX8, "kinds", "(I)I"⟩
abbrev cX8_odds : ByteArray := prog_1_method_23_code
def yX8_odds : MethodName := ⟨RX8, "odds", "(II)J"⟩
abbrev cX8_sheet : ByteArray := prog_1_method_24_code
def yX8_sheet : MethodName := ⟨RX8, "sheet", "(III)I"⟩
abbrev cX8_lose : ByteArray := prog_1_method_25_code
def yX8_lose : MethodName := ⟨RX8, "lose", "(I)I"⟩
abbrev cX8_put : ByteArray := prog_1_method_26_code
def yX8_put : MethodName := ⟨RX8, "put", "(III)I"⟩
abbrev cX8_cell : ByteArray := prog_1_method_27_code
def yX8_cell : MethodName := ⟨RX8, "cell", "(III)J"⟩
abbrev cX8_copy : ByteArray := prog_1_method_28_code
def yX8_copy : MethodName := ⟨RX8, "copy", "(IIIII)I"⟩
abbrev cX8_tell : ByteArray := prog_1_method_29_code
def yX8_tell : MethodName := ⟨RX8, "tell", "(I)I"⟩
abbrev cX8_hear : ByteArray := prog_1_method_30_code
def yX8_hear : MethodName := ⟨RX8, "hear", "(I)I"⟩
abbrev cX8_as : ByteArray := prog_1_method_31_code
def yX8_as : MethodName := ⟨RX8, "as", "(II)I"⟩
abbrev cX8_trace : ByteArray := prog_1_method_32_code
def yX8_trace : MethodName := ⟨RX8, "trace", "()I"⟩
abbrev cX8_fault : ByteArray := prog_1_method_33_code
def yX8_fault : MethodName := ⟨RX8, "fault", "()I"⟩
abbrev cX8_many : ByteArray := prog_1_method_34_code
def yX8_many : MethodName := ⟨RX8, "many", "(I)I"⟩
abbrev cX8_isWithin : ByteArray := prog_1_method_35_code
def yX8_isWithin : MethodName := ⟨RX8, "isWithin", "(III)Z"⟩
abbrev cX8_isLane : ByteArray := prog_1_method_36_code
def yX8_isLane : MethodName := ⟨RX8, "isLane", "(I)Z"⟩
abbrev cX8_bit : ByteArray := prog_1_method_37_code
def yX8_bit : MethodName := ⟨RX8, "bit", "(I)I"⟩
abbrev cX8_has : ByteArray := prog_1_method_38_code
def yX8_has : MethodName := ⟨RX8, "has", "(II)Z"⟩
abbrev cX8_everybody : ByteArray := prog_1_method_39_code
def yX8_everybody : MethodName := ⟨RX8, "everybody", "()I"⟩
abbrev cX8_sheetAt : ByteArray := prog_1_method_40_code
def yX8_sheetAt : MethodName := ⟨RX8, "sheetAt", "(I)LStepBack$Row;"⟩
abbrev cX8_personAt : ByteArray := prog_1_method_41_code
def yX8_personAt : MethodName := ⟨RX8, "personAt", "(I)LStepBack$Plain;"⟩
abbrev cX8_areTwo : ByteArray := prog_1_method_42_code
def yX8_areTwo : MethodName := ⟨RX8, "areTwo", "(II)Z"⟩
abbrev cX8_faulted : ByteArray := prog_1_method_43_code
def yX8_faulted : MethodName := ⟨RX8, "faulted", "(I)I"⟩
abbrev cX8_faultOfTaking : ByteArray := prog_1_method_44_code
def yX8_faultOfTaking : MethodName := ⟨RX8, "faultOfTaking", "(LStepBack$Row;III)I"⟩
abbrev cX8_isOneOf : ByteArray := prog_1_method_45_code
def yX8_isOneOf : MethodName := ⟨RX8, "isOneOf", "(LStepBack$Plain;I)Z"⟩
abbrev cX8_wouldGo : ByteArray := prog_1_method_46_code
def yX8_wouldGo : MethodName := ⟨RX8, "wouldGo", "(II)I"⟩
abbrev cX8_mayGo : ByteArray := prog_1_method_47_code
def yX8_mayGo : MethodName := ⟨RX8, "mayGo", "(III)I"⟩
abbrev cX8_maysNow : ByteArray := prog_1_method_48_code
def yX8_maysNow : MethodName := ⟨RX8, "maysNow", "()[I"⟩
abbrev cX8_hasteOf : ByteArray := prog_1_method_49_code
def yX8_hasteOf : MethodName := ⟨RX8, "hasteOf", "(I)I"⟩
abbrev cX8_firstFault : ByteArray := prog_1_method_50_code
def yX8_firstFault : MethodName := ⟨RX8, "firstFault", "(LStepBack$Row;II)I"⟩
abbrev cX8_isFit : ByteArray := prog_1_method_51_code
def yX8_isFit : MethodName := ⟨RX8, "isFit", "(II)Z"⟩
abbrev cX8_isDigit : ByteArray := prog_1_method_52_code
def yX8_isDigit : MethodName := ⟨RX8, "isDigit", "(I)Z"⟩
abbrev cX8_takeText : ByteArray := prog_1_method_53_code
def yX8_takeText : MethodName := ⟨RX8, "takeText", "(LStepBack$Row;II)V"⟩
abbrev cX8_newPerson : ByteArray := prog_1_method_54_code
def yX8_newPerson : MethodName := ⟨RX8, "newPerson", "(IIII)LStepBack$Plain;"⟩
abbrev cX8_allNameSomebody : ByteArray := prog_1_method_55_code
def yX8_allNameSomebody : MethodName := ⟨RX8, "allNameSomebody", "(LStepBack$Row;II)Z"⟩
abbrev cX8_callsTold : ByteArray := prog_1_method_56_code
def yX8_callsTold : MethodName := ⟨RX8, "callsTold", "(LStepBack$Row;III)I"⟩
abbrev cX8_howManyGoOn : ByteArray := prog_1_method_57_code
def yX8_howManyGoOn : MethodName := ⟨RX8, "howManyGoOn", "([III)I"⟩
abbrev cX8_lossOfOrder : ByteArray := prog_1_method_58_code
def yX8_lossOfOrder : MethodName := ⟨RX8, "lossOfOrder", "()I"⟩
abbrev cX8_leastLoss : ByteArray := prog_1_method_59_code
def yX8_leastLoss : MethodName := ⟨RX8, "leastLoss", "()I"⟩
def RX9 : String := "StepBackModel"
def TX9 : u_T := fun k => match k with
  | 0 => ("StepBackModel", "fault", "I", false)
  | 1 => ("StepBackModel", "trace", "I", false)
  | 2 => ("StepBackModel", "sorts", "[I", true)
  | 3 => ("StepBackModel", "sheetLong", "[I", true)
  | 4 => ("StepBackModel", "cells", "[I", true)
  | 5 => ("StepBackModel", "people", "I", false)
  | 6 => ("StepBackModel", "ground", "I", false)
  | 7 => ("StepBackModel", "isThere", "I", false)
  | 8 => ("StepBackModel", "mornings", "I", false)
  | 9 => ("StepBackModel", "kind", "[I", true)
  | 10 => ("StepBackModel", "haste", "[I", true)
  | 11 => ("StepBackModel", "room", "[I", true)
  | 12 => ("StepBackModel", "owed", "[I", true)
  | 13 => ("StepBackModel", "at", "I", false)
  | 14 => ("StepBackModel", "readGround", "I", false)
  | 15 => ("StepBackModel", "readPeople", "I", false)
  | 16 => ("StepBackModel", "read", "[I", true)
  | 17 => ("StepBackModel", "far", "I", false)
  | 18 => ("StepBackModel", "heads", "I", false)
  | 19 => ("StepBackModel", "second", "I", false)
  | 20 => ("StepBackModel", "orderWho", "[I", true)
  | 21 => ("StepBackModel", "orderFar", "[I", true)
  | 22 => ("StepBackModel", "orderLong", "I", false)
  | 23 => ("StepBackModel", "groups", "[I", true)
  | 24 => ("StepBackModel", "readings", "I", false)
  | 25 => ("StepBackModel", "readWho", "[I", true)
  | 26 => ("StepBackModel", "readFar", "[I", true)
  | _ => ("StepBackModel", "readOn", "[I", true)
def tyX9 : Nat → FieldType := fun k => match k with
  | 0 => .int
  | 1 => .int
  | 2 => .array .int
  | 3 => .array .int
  | 4 => .array .int
  | 5 => .int
  | 6 => .int
  | 7 => .int
  | 8 => .int
  | 9 => .array .int
  | 10 => .array .int
  | 11 => .array .int
  | 12 => .array .int
  | 13 => .int
  | 14 => .int
  | 15 => .int
  | 16 => .array .int
  | 17 => .int
  | 18 => .int
  | 19 => .int
  | 20 => .array .int
  | 21 => .array .int
  | 22 => .int
  | 23 => .array .int
  | 24 => .int
  | 25 => .array .int
  | 26 => .array .int
  | _ => .array .int
theorem nmX9 : ∀ a, a < 28 → ∀ b, b < 28 → a ≠ b → (TX9 a).2.1 ≠ (TX9 b).2.1 := by decide +kernel
theorem tyX9_ok : ∀ k, k < 28 → parseFieldDescriptor (TX9 k).2.2.1 = some (tyX9 k) := by decide +kernel
abbrev cX9_init : ByteArray := prog_11_method_1_code
def yX9_init : MethodName := ⟨RX9, "<init>", "()V"⟩
abbrev cX9_fails : ByteArray := prog_11_method_3_code
def yX9_fails : MethodName := ⟨RX9, "fails", "(I)I"⟩
abbrev cX9_lost : ByteArray := prog_11_method_4_code
def yX9_lost : MethodName := ⟨RX9, "lost", "(I)J"⟩
abbrev cX9_within : ByteArray := prog_11_method_5_code
def yX9_within : MethodName := ⟨RX9, "within", "(III)Z"⟩
abbrev cX9_isSheet : ByteArray := prog_11_method_6_code
def yX9_isSheet : MethodName := ⟨RX9, "isSheet", "(I)Z"⟩
abbrev cX9_isSort : ByteArray := prog_11_method_7_code
def yX9_isSort : MethodName := ⟨RX9, "isSort", "(I)Z"⟩
abbrev cX9_against : ByteArray := prog_11_method_8_code
def yX9_against : MethodName := ⟨RX9, "against", "(IIII)I"⟩
abbrev cX9_isPerson : ByteArray := prog_11_method_9_code
def yX9_isPerson : MethodName := ⟨RX9, "isPerson", "(I)Z"⟩
abbrev cX9_isOf : ByteArray := prog_11_method_10_code
def yX9_isOf : MethodName := ⟨RX9, "isOf", "(II)Z"⟩
abbrev cX9_size : ByteArray := prog_11_method_11_code
def yX9_size : MethodName := ⟨RX9, "size", "(I)I"⟩
abbrev cX9_digit : ByteArray := prog_11_method_12_code
def yX9_digit : MethodName := ⟨RX9, "digit", "(I)I"⟩
abbrev cX9_isSign : ByteArray := prog_11_method_13_code
def yX9_isSign : MethodName := ⟨RX9, "isSign", "(II)Z"⟩
abbrev cX9_line : ByteArray := prog_11_method_14_code
def yX9_line : MethodName := ⟨RX9, "line", "(IIII)I"⟩
abbrev cX9_takeLine : ByteArray := prog_11_method_15_code
def yX9_takeLine : MethodName := ⟨RX9, "takeLine", "()V"⟩
abbrev cX9_readLine : ByteArray := prog_11_method_16_code
def yX9_readLine : MethodName := ⟨RX9, "readLine", "(I)Z"⟩
abbrev cX9_readPerson : ByteArray := prog_11_method_17_code
def yX9_readPerson : MethodName := ⟨RX9, "readPerson", "(I)Z"⟩
abbrev cX9_wouldOf : ByteArray := prog_11_method_18_code
def yX9_wouldOf : MethodName := ⟨RX9, "wouldOf", "(I)I"⟩
abbrev cX9_mayOf : ByteArray := prog_11_method_19_code
def yX9_mayOf : MethodName := ⟨RX9, "mayOf", "(I)I"⟩
abbrev cX9_sumOf : ByteArray := prog_11_method_20_code
def yX9_sumOf : MethodName := ⟨RX9, "sumOf", "(IZ)I"⟩
abbrev cX9_ofPerson : ByteArray := prog_11_method_21_code
def yX9_ofPerson : MethodName := ⟨RX9, "ofPerson", "(II)I"⟩
abbrev cX9_hurry : ByteArray := prog_11_method_22_code
def yX9_hurry : MethodName := ⟨RX9, "hurry", "(II)I"⟩
abbrev cX9_wall : ByteArray := prog_11_method_23_code
def yX9_wall : MethodName := ⟨RX9, "wall", "(II)I"⟩
abbrev cX9_lease : ByteArray := prog_11_method_24_code
def yX9_lease : MethodName := ⟨RX9, "lease", "(I)I"⟩
abbrev cX9_callOf : ByteArray := prog_11_method_25_code
def yX9_callOf : MethodName := ⟨RX9, "callOf", "(I)I"⟩
abbrev cX9_leastOf : ByteArray := prog_11_method_26_code
def yX9_leastOf : MethodName := ⟨RX9, "leastOf", "(I)I"⟩
abbrev cX9_go : ByteArray := prog_11_method_27_code
def yX9_go : MethodName := ⟨RX9, "go", "()I"⟩
abbrev cX9_morning : ByteArray := prog_11_method_28_code
def yX9_morning : MethodName := ⟨RX9, "morning", "()I"⟩
abbrev cX9_areTwo : ByteArray := prog_11_method_29_code
def yX9_areTwo : MethodName := ⟨RX9, "areTwo", "(II)Z"⟩
abbrev cX9_owes : ByteArray := prog_11_method_30_code
def yX9_owes : MethodName := ⟨RX9, "owes", "(II)I"⟩
abbrev cX9_pays : ByteArray := prog_11_method_31_code
def yX9_pays : MethodName := ⟨RX9, "pays", "(III)I"⟩
abbrev cX9_goCalls : ByteArray := prog_11_method_32_code
def yX9_goCalls : MethodName := ⟨RX9, "goCalls", "(II)I"⟩
abbrev cX9_calls : ByteArray := prog_11_method_33_code
def yX9_calls : MethodName := ⟨RX9, "calls", "(IIIII)I"⟩
abbrev cX9_wouldGoOn : ByteArray := prog_11_method_34_code
def yX9_wouldGoOn : MethodName := ⟨RX9, "wouldGoOn", "()I"⟩
abbrev cX9_findOrder : ByteArray := prog_11_method_35_code
def yX9_findOrder : MethodName := ⟨RX9, "findOrder", "()V"⟩
abbrev cX9_order : ByteArray := prog_11_method_36_code
def yX9_order : MethodName := ⟨RX9, "order", "(II)I"⟩
abbrev cX9_leastLoss : ByteArray := prog_11_method_37_code
def yX9_leastLoss : MethodName := ⟨RX9, "leastLoss", "()I"⟩
abbrev cX9_loss : ByteArray := prog_11_method_38_code
def yX9_loss : MethodName := ⟨RX9, "loss", "(I)I"⟩
abbrev cX9_let : ByteArray := prog_11_method_39_code
def yX9_let : MethodName := ⟨RX9, "let", "(II)I"⟩
abbrev cX9_balanceOf : ByteArray := prog_11_method_40_code
def yX9_balanceOf : MethodName := ⟨RX9, "balanceOf", "(I)I"⟩
abbrev cX9_balance : ByteArray := prog_11_method_41_code
def yX9_balance : MethodName := ⟨RX9, "balance", "(I)I"⟩
abbrev cX9_isEven : ByteArray := prog_11_method_42_code
def yX9_isEven : MethodName := ⟨RX9, "isEven", "(I)Z"⟩
abbrev cX9_mostGroups : ByteArray := prog_11_method_43_code
def yX9_mostGroups : MethodName := ⟨RX9, "mostGroups", "(I)I"⟩
abbrev cX9_cleared : ByteArray := prog_11_method_44_code
def yX9_cleared : MethodName := ⟨RX9, "cleared", "(I)I"⟩
abbrev cX9_were : ByteArray := prog_11_method_45_code
def yX9_were : MethodName := ⟨RX9, "were", "(III)I"⟩
abbrev cX9_reading : ByteArray := prog_11_method_46_code
def yX9_reading : MethodName := ⟨RX9, "reading", "(III)I"⟩
abbrev cX9_back : ByteArray := prog_11_method_47_code
def yX9_back : MethodName := ⟨RX9, "back", "(I)I"⟩
abbrev cX9_areSo : ByteArray := prog_11_method_48_code
def yX9_areSo : MethodName := ⟨RX9, "areSo", "()Z"⟩
abbrev cX9_hastes : ByteArray := prog_11_method_49_code
def yX9_hastes : MethodName := ⟨RX9, "hastes", "(I)I"⟩
abbrev cX9_rooms : ByteArray := prog_11_method_50_code
def yX9_rooms : MethodName := ⟨RX9, "rooms", "(I)I"⟩
abbrev cX9_kinds : ByteArray := prog_11_method_51_code
def yX9_kinds : MethodName := ⟨RX9, "kinds", "(I)I"⟩
abbrev cX9_inLeastTerms : ByteArray := prog_11_method_52_code
def yX9_inLeastTerms : MethodName := ⟨RX9, "inLeastTerms", "(JJI)J"⟩
abbrev cX9_odds : ByteArray := prog_11_method_53_code
def yX9_odds : MethodName := ⟨RX9, "odds", "(II)J"⟩
abbrev cX9_sheet : ByteArray := prog_11_method_54_code
def yX9_sheet : MethodName := ⟨RX9, "sheet", "(III)I"⟩
abbrev cX9_lose : ByteArray := prog_11_method_55_code
def yX9_lose : MethodName := ⟨RX9, "lose", "(I)I"⟩
abbrev cX9_put : ByteArray := prog_11_method_56_code
def yX9_put : MethodName := ⟨RX9, "put", "(III)I"⟩
abbrev cX9_cell : ByteArray := prog_11_method_57_code
def yX9_cell : MethodName := ⟨RX9, "cell", "(III)J"⟩
abbrev cX9_copy : ByteArray := prog_11_method_58_code
def yX9_copy : MethodName := ⟨RX9, "copy", "(IIIII)I"⟩
abbrev cX9_begins : ByteArray := prog_11_method_59_code
def yX9_begins : MethodName := ⟨RX9, "begins", "(I)V"⟩
abbrev cX9_tell : ByteArray := prog_11_method_60_code
def yX9_tell : MethodName := ⟨RX9, "tell", "(I)I"⟩
abbrev cX9_hear : ByteArray := prog_11_method_61_code
def yX9_hear : MethodName := ⟨RX9, "hear", "(I)I"⟩
abbrev cX9_as : ByteArray := prog_11_method_62_code
def yX9_as : MethodName := ⟨RX9, "as", "(II)I"⟩
abbrev cX9_trace : ByteArray := prog_11_method_63_code
def yX9_trace : MethodName := ⟨RX9, "trace", "()I"⟩
abbrev cX9_fault : ByteArray := prog_11_method_64_code
def yX9_fault : MethodName := ⟨RX9, "fault", "()I"⟩
abbrev cX9_many : ByteArray := prog_11_method_65_code
def yX9_many : MethodName := ⟨RX9, "many", "(I)I"⟩
def RJ6 : String := "java/lang/Integer"
def TJ6 : u_T := fun k => match k with
  | _ => ("", "", "", false)
def tyJ6 : Nat → FieldType := fun k => match k with
  | _ => .int
abbrev cJ6_bitCount_0f7a4 : ByteArray := prog_12_method_49_code
def yJ6_bitCount_0f7a4 : MethodName := ⟨RJ6, "bitCount", "(I)I"⟩
def RJ9 : String := "java/lang/Math"
def TJ9 : u_T := fun k => match k with
  | _ => ("", "", "", false)
def tyJ9 : Nat → FieldType := fun k => match k with
  | _ => .int
abbrev cJ9_max_7cf53 : ByteArray := prog_13_method_65_code
def yJ9_max_7cf53 : MethodName := ⟨RJ9, "max", "(II)I"⟩
abbrev cJ9_min_7cf53 : ByteArray := prog_13_method_69_code
def yJ9_min_7cf53 : MethodName := ⟨RJ9, "min", "(II)I"⟩
def RJ10 : String := "java/lang/System"
def TJ10 : u_T := fun k => match k with
  | _ => ("", "", "", false)
def tyJ10 : Nat → FieldType := fun k => match k with
  | _ => .int
def RL : String := "StepBackLaw"
abbrev cL_law : ByteArray := code
def yL_law : MethodName := ⟨RL, "law", "([I)Z"⟩
abbrev vwCl : List vw_C := [(RX0, TX0, 3), (RX1, TX1, 3), (RX2, TX2, 5), (RX3, TX3, 3), (RX4, TX4, 3), (RX5, TX5, 4), (RX6, TX6, 4), (RX7, TX7, 1), (RX8, TX8, 12), (RX9, TX9, 28)]
end
section
/-! a world by numbers: cells stand at places 0 .. n-1, references are places; 'ad' says where each place lies in the heap -/
abbrev aw_H : Type := Nat → va_E
def aw_mv (ad : Nat → Nat) : Value → Value
  | .ref a => .ref (ad a)
  | v => v
theorem aw_mv_cat (ad : Nat → Nat) (v : Value) : (aw_mv ad v).category = v.category := by cases v <;> rfl
def aw_px (ad : Nat → Nat) : ((Nat → Int32) ⊕ (Nat → Int64) ⊕ (Nat → UInt32) ⊕ (Nat → UInt64) ⊕ (Nat → Option Nat)) → ((Nat → Int32) ⊕ (Nat → Int64) ⊕ (Nat → UInt32) ⊕ (Nat → UInt64) ⊕ (Nat → Option Nat))
  | .inl f => .inl f
  | .inr (.inl f) => .inr (.inl f)
  | .inr (.inr (.inl f)) => .inr (.inr (.inl f))
  | .inr (.inr (.inr (.inl f))) => .inr (.inr (.inr (.inl f)))
  | .inr (.inr (.inr (.inr f))) => .inr (.inr (.inr (.inr (fun j => (f j).map ad))))
def aw_pe (tc : Nat → ClassId) (ad : Nat → Nat) : va_E → va_E
  | .inl q => .inl (tc q.1, q.2.1, aw_px ad q.2.2)
  | .inr q => .inr (q.1, q.2.map (aw_mv ad))
def aw_up (h : aw_H) (k : Nat) (e : va_E) : aw_H := fun j => if j = k then e else h j
def aw_ws (tc : Nat → ClassId) (ad : Nat → Nat) (n : Nat) (h : aw_H) : va_W := (List.range n).map (fun k => (ad k, aw_pe tc ad (h k)))
theorem aw_ws_at {tc : Nat → ClassId} {ad : Nat → Nat} {n : Nat} {h : aw_H} {k : Nat} (hk : k < n) : (aw_ws tc ad n h)[k]? = some (ad k, aw_pe tc ad (h k)) := by
  simp [aw_ws, hk]
theorem aw_ws_le {tc : Nat → ClassId} {ad : Nat → Nat} {n : Nat} {h : aw_H} {k : Nat} (hk : n ≤ k) : (aw_ws tc ad n h)[k]? = none := by
  simp [aw_ws, hk]
theorem aw_ws_len {tc : Nat → ClassId} {ad : Nat → Nat} {n : Nat} {h : aw_H} : (aw_ws tc ad n h).length = n := by simp [aw_ws]
theorem aw_ws_set {tc : Nat → ClassId} {ad : Nat → Nat} {n : Nat} {h : aw_H} {k : Nat} {e : va_E} : (aw_ws tc ad n h).set k (ad k, aw_pe tc ad e) = aw_ws tc ad n (aw_up h k e) := by
  apply List.ext_getElem?
  intro j
  rw [List.getElem?_set, aw_ws_len]
  by_cases hj : j < n
  · rw [aw_ws_at hj, aw_ws_at hj]
    by_cases e1 : k = j
    · subst e1
      simp [aw_up, hj]
    · have e2 : ¬ j = k := fun q => e1 q.symm
      simp [aw_up, e1, e2]
  · rw [aw_ws_le (Nat.not_lt.mp hj), aw_ws_le (Nat.not_lt.mp hj)]
    by_cases e1 : k = j
    · subst e1
      simp [hj]
    · simp [e1]
def aw_ty (tc : Nat → ClassId) : List (ClassId × FieldType) := [(tc 0, .int), (tc 1, .boolean), (tc 2, .object RX6), (tc 3, .object RX3), (tc 4, .array .int)]
def aw_nw : List Cond := [.methodLinkNest RX0 23 yX8_isWithin RX8, .methodLinkNest RX2 36 yX8_has RX8, .methodLinkNest RX2 44 yX8_bit RX8, .methodLinkNest RX0 53 yX8_has RX8, .methodLinkNest RX0 56 yX8_bit RX8, .methodLinkNest RX5 26 yX8_isWithin RX8, .castable RX1 RX4, .castable RX4 RX3, .castable RX1 RX3]
def aw_nc : List (String × String) := [(RX3, RX4), (RX4, RX1), (RX3, RX1)]
def aw_K (D : va_G) (tc : Nat → ClassId) (U : State) : Prop := va_K D vwCl (aw_ty tc) U ∧ (∀ w ∈ aw_nw, va_Nw w U) ∧ ∀ q ∈ aw_nc, va_Nc q.1 q.2 U
theorem aw_nw_on : ∀ w ∈ aw_nw, w.onTables = true := by
  intro w hw
  simp only [aw_nw, List.mem_cons, List.not_mem_nil, or_false] at hw
  rcases hw with rfl | rfl | rfl | rfl | rfl | rfl | rfl | rfl | rfl <;> rfl
theorem aw_K.warm {D : va_G} {tc : Nat → ClassId} {s U : State} (hW : s.WarmedH U.vm) (h : aw_K D tc s) : aw_K D tc U := by
  refine ⟨va_K.moved hW.alike h.1, fun w hw => ?_, fun q hq => va_Nc.moved hW.alike (h.2.2 q hq)⟩
  have h1 := h.2.1 w hw
  simp only [aw_nw, List.mem_cons, List.not_mem_nil, or_false] at hw
  rcases hw with rfl | rfl | rfl | rfl | rfl | rfl | rfl | rfl | rfl <;> first | exact va_Nw.warmM hW h1 | exact va_Nw.warmC hW h1
theorem aw_K.call {D : va_G} {tc : Nat → ClassId} {U : State} {g : JFrame} {mk : MethodId} {a : Array Value} (h : aw_K D tc U) : aw_K D tc (U.calling g mk a) :=
  ⟨va_K.moved (u := U) (U := U.calling g mk a) (Vm.Alike.refl U.vm) h.1, fun w hw => va_Nw.same (u := U) (U := U.calling g mk a) (aw_nw_on w hw) rfl (h.2.1 w hw), fun q hq => va_Nc.moved (u := U) (U := U.calling g mk a) (Vm.Alike.refl U.vm) (h.2.2 q hq)⟩
/-- the words that stay -/
def aw_gw : List Cond := lw_tbl.filter goodWord
theorem aw_in {w : Cond} (h : w ∈ lw_tbl) (hg : goodWord w = true) : w ∈ aw_gw := List.mem_filter.mpr ⟨h, hg⟩
theorem aw_at {w : Cond} (i : Nat) (h : lw_tbl[i]? = some w) (hg : goodWord w = true) : w ∈ aw_gw := aw_in (List.mem_of_getElem? h) hg
theorem aw_good {w : Cond} (h : w ∈ aw_gw) : GoodIn aw_gw (w :: aw_gw) := by
  intro v hv
  have hm : v ∈ aw_gw := by
    rcases List.mem_cons.mp hv with rfl | hv
    · exact h
    · exact hv
  exact ⟨hm, good_of_word (List.mem_filter.mp hm).2⟩
/-- locals -/
def aw_L (ad : Nat → Nat) (ls : Array Slot) (nL : Nat) (L : List (Option Value)) : Prop := ls.size = nL ∧ lv_wf ls ∧ ∀ (i : Nat) (v : Value), L[i]? = some (some v) → ls[i]? = some (.val (aw_mv ad v))
def aw_ll (ad : Nat → Nat) (L : List (Option Value)) : List (Nat × Value) := (List.range L.length).filterMap (fun i => (L[i]?.join).map (fun v => (i, aw_mv ad v)))
theorem aw_ll_mem {ad : Nat → Nat} {L : List (Option Value)} {q : Nat × Value} : q ∈ aw_ll ad L ↔ ∃ v, L[q.1]? = some (some v) ∧ q.2 = aw_mv ad v := by
  unfold aw_ll
  rw [List.mem_filterMap]
  constructor
  · rintro ⟨i, -, he⟩
    cases hL : L[i]? with
    | none => simp [hL] at he
    | some o =>
      cases o with
      | none => simp [hL] at he
      | some v =>
        simp [hL] at he
        subst he
        exact ⟨v, hL, rfl⟩
  · rintro ⟨v, h1, h2⟩
    refine ⟨q.1, List.mem_range.mpr (List.getElem?_eq_some_iff.mp h1).1, ?_⟩
    simp [h1, ← h2]
theorem aw_L.has {ad : Nat → Nat} {ls : Array Slot} {nL : Nat} {L : List (Option Value)} (h : aw_L ad ls nL L) : lv_has ls nL (aw_ll ad L) :=
  ⟨h.1, h.2.1, fun q hq => by
    obtain ⟨v, h1, h2⟩ := aw_ll_mem.mp hq
    rw [h2]
    exact h.2.2 _ _ h1⟩
def aw_ok (L : List (Option Value)) : Nat → Bool
  | 0 => true
  | j + 1 => match L[j]? with
    | some (some w) => w.category == 1
    | _ => true
theorem aw_ok_spec {L : List (Option Value)} {j i : Nat} {w : Value} (h : aw_ok L i = true) (hj : L[j]? = some (some w)) (e : j + 1 = i) : w.category = 1 := by
  subst e
  simpa [aw_ok, hj] using h
theorem aw_L.store1 {ad : Nat → Nat} {ls' : Array Slot} {nL : Nat} {L : List (Option Value)} {i : Nat} {v : Value} (ho : aw_ok L i = true) (h' : lv_has ls' nL ((i, aw_mv ad v) :: (aw_ll ad L).filter (fun q => !(q.1 == i) && !(q.1 + 1 == i && q.2.category == 2)))) : aw_L ad ls' nL (L.set i (some v)) := by
  refine ⟨h'.1, h'.2.1, fun j w hj => ?_⟩
  rw [List.getElem?_set] at hj
  by_cases e : i = j
  · subst e
    by_cases hl : i < L.length
    · simp [hl] at hj
      subst hj
      exact h'.2.2 _ List.mem_cons_self
    · simp [hl] at hj
  · rw [if_neg e] at hj
    refine h'.2.2 (j, aw_mv ad w) (List.mem_cons_of_mem _ (List.mem_filter.mpr ⟨aw_ll_mem.mpr ⟨w, hj, rfl⟩, ?_⟩))
    have e2 : ¬ j = i := fun q => e q.symm
    by_cases e3 : j + 1 = i
    · have := aw_ok_spec ho hj e3
      simp [e2, e3, aw_mv_cat, this]
    · simp [e2, e3]
theorem aw_L.store2 {ad : Nat → Nat} {ls' : Array Slot} {nL : Nat} {L : List (Option Value)} {i : Nat} {v : Value} (ho : aw_ok L i = true) (h' : lv_has ls' nL ((i, aw_mv ad v) :: (aw_ll ad L).filter (fun q => !(q.1 == i) && (!(q.1 == i + 1) && !(q.1 + 1 == i && q.2.category == 2))))) : aw_L ad ls' nL ((L.set i (some v)).set (i + 1) none) := by
  refine ⟨h'.1, h'.2.1, fun j w hj => ?_⟩
  rw [List.getElem?_set] at hj
  by_cases e0 : i + 1 = j
  · rw [if_pos e0] at hj
    split at hj <;> simp at hj
  rw [if_neg e0, List.getElem?_set] at hj
  by_cases e : i = j
  · subst e
    by_cases hl : i < L.length
    · simp [hl] at hj
      subst hj
      exact h'.2.2 _ List.mem_cons_self
    · simp [hl] at hj
  · rw [if_neg e] at hj
    refine h'.2.2 (j, aw_mv ad w) (List.mem_cons_of_mem _ (List.mem_filter.mpr ⟨aw_ll_mem.mpr ⟨w, hj, rfl⟩, ?_⟩))
    have e2 : ¬ j = i := fun q => e q.symm
    have e4 : ¬ j = i + 1 := fun q => e0 q.symm
    by_cases e3 : j + 1 = i
    · have := aw_ok_spec ho hj e3
      simp [e2, e3, e4, aw_mv_cat, this]
    · simp [e2, e3, e4]
def aw_ar : List Value → List (Option Value)
  | [] => []
  | v :: vs => if v.category = 2 then some v :: none :: aw_ar vs else some v :: aw_ar vs
theorem aw_ar_args (ad : Nat → Nat) : ∀ (av : List Value) (j i : Nat) (v : Value), (aw_ar av)[i]? = some (some v) → (j + i, aw_mv ad v) ∈ lv_args j (av.map (aw_mv ad))
  | [], j, i, v, h => by simp [aw_ar] at h
  | a :: as, j, i, v, h => by
    rw [List.map_cons, lv_args, aw_mv_cat]
    unfold aw_ar at h
    by_cases hc : a.category = 2
    · rw [if_pos hc] at h ⊢
      match i, h with
      | 0, h =>
        simp at h
        subst h
        exact List.mem_cons_self
      | 1, h => simp at h
      | i + 2, h =>
        have h1 : (aw_ar as)[i]? = some (some v) := by simpa using h
        have := aw_ar_args ad as (j + 2) i v h1
        rw [show j + (i + 2) = j + 2 + i by omega]
        exact List.mem_cons_of_mem _ this
    · rw [if_neg hc] at h ⊢
      match i, h with
      | 0, h =>
        simp at h
        subst h
        exact List.mem_cons_self
      | i + 1, h =>
        have h1 : (aw_ar as)[i]? = some (some v) := by simpa using h
        have := aw_ar_args ad as (j + 1) i v h1
        rw [show j + (i + 1) = j + 1 + i by omega]
        exact List.mem_cons_of_mem _ this
theorem aw_ar_sl (ad : Nat → Nat) : ∀ av : List Value, (lg_sl (av.map (aw_mv ad))).length = (aw_ar av).length
  | [] => rfl
  | a :: as => by
    have ih := aw_ar_sl ad as
    unfold lg_sl at ih
    rw [List.map_cons]
    unfold lg_sl aw_ar
    rw [List.flatMap_cons, List.length_append, ih, aw_mv_cat]
    by_cases hc : a.category = 2
    · simp [hc]; omega
    · simp [hc]; omega
/-- a method's end -/
def aw_Q (D : va_G) (tc : Nat → ClassId) (n0 : Nat) (ad0 : Nat → Nat) (A : Nat → Prop) (Q : Option Value → Nat → aw_H → Prop) : Array Value → State → Outcome → State → Prop := fun _ st o t =>
  (∃ (v : Option Value) (n' : Nat) (h' : aw_H) (ad' : Nat → Nat), o = .returned (v.map (aw_mv ad')) ∧ Q v n' h' ∧ n0 ≤ n' ∧ (∀ k, ¬ (n0 ≤ k ∧ k < n') → ad' k = ad0 k) ∧ va_P D vwCl (aw_ws tc ad' n' h') t.heap ∧ va_D A (aw_ws tc ad' n' h')) ∧ va_F A st t
/-- what stays through a method -/
def aw_X (D : va_G) (tc : Nat → ClassId) (own : String) (cc : ByteArray) (nL : Nat) (ret : Option FieldType) (p : Program) (s : State) (m : MethodId) (args : Array Value) (meth : Method) (c : Code) (A : Nat → Prop) : Prop :=
  p.tables.exec = Jvm.exec ∧ c.code = cc ∧ meth.sig.returnType = ret ∧ c.maxLocals = nL ∧ s.vm.findClass own = some m.cls ∧ (∀ w ∈ aw_gw, w.before args s = true) ∧ meth.locks = false ∧ aw_K D tc s ∧ ∀ q, s.heap.size ≤ q → A q
/-- what moves -/
def aw_Y (D : va_G) (tc : Nat → ClassId) (nL n0 : Nat) (s : State) (A : Nat → Prop) (ad ad0 : Nat → Nat) (H : Heap) (locs : List Loc) (ls : Array Slot) (L : List (Option Value)) (n : Nat) (h : aw_H) : Prop :=
  n0 ≤ n ∧ (∀ k, ¬ (n0 ≤ k ∧ k < n) → ad k = ad0 k) ∧ va_P D vwCl (aw_ws tc ad n h) H ∧ va_D A (aw_ws tc ad n h) ∧ va_S A s.heap H locs ∧ aw_L ad ls nL L
def AW (l : Launch) (D : va_G) (tc : Nat → ClassId) (own : String) (cc : ByteArray) (nL : Nat) (ret : Option FieldType) (R : Room) (n0 mc ms : Nat) (Q : Option Value → Nat → aw_H → Prop) (pc : Nat) (L : List (Option Value)) (st : List Value) (n : Nat) (h : aw_H) (cells slots : Nat) : Prop :=
  ∀ (p : Program) (e : Env) (s : State) (m : MethodId) (args : Array Value) (below : List Frame) (meth : Method) (c : Code) (H : Heap) (locs : List Loc) (ls : Array Slot) (A : Nat → Prop) (ad ad0 : Nat → Nat),
    aw_X D tc own cc nL ret p s m args meth c A → aw_Y D tc nL n0 s A ad ad0 H locs ls L n h →
    W p l e R s m args below meth c H locs cells slots (MQ below (aw_Q D tc n0 ad0 A Q) args s mc ms A) (F0 m pc ls (st.map (aw_mv ad)))
/-- a method's contract -/
def AM (l : Launch) (D : va_G) (tc : Nat → ClassId) (y : MethodName) (cc : ByteArray) (nL : Nat) (ret : Option FieldType) (fr lo mc ms : Nat) (av : List Value) (n : Nat) (h : aw_H) (Q : Option Value → Nat → aw_H → Prop) : Prop :=
  ∀ (ad : Nat → Nat) (A : Nat → Prop) (sz : Nat), (∀ q, sz ≤ q → A q) →
    Met l y (.code y cc nL ret :: aw_gw) { frames := fr, cells := mc, slots := ms, locals := lo } (fun v U => v = (av.map (aw_mv ad)).toArray ∧ U.heap.size = sz ∧ aw_K D tc U ∧ va_P D vwCl (aw_ws tc ad n h) U.heap ∧ va_D A (aw_ws tc ad n h)) (aw_Q D tc n ad A Q) mc ms A
theorem aw_blind {D : va_G} {tc : Nat → ClassId} {av : List Value} {ad : Nat → Nat} {A : Nat → Prop} {sz n : Nat} {h : aw_H} : FrameBlind (fun v U => v = (av.map (aw_mv ad)).toArray ∧ U.heap.size = sz ∧ aw_K D tc U ∧ va_P D vwCl (aw_ws tc ad n h) U.heap ∧ va_D A (aw_ws tc ad n h)) :=
  fun _ _ _ _ q => ⟨q.1, q.2.1, aw_K.call q.2.2.1, q.2.2.2.1, q.2.2.2.2⟩
section AWR
variable {l : Launch} {D : va_G} {tc : Nat → ClassId} {own : String} {cc : ByteArray} {nL : Nat} {ret : Option FieldType} {R : Room} {n0 mc ms : Nat} {Q : Option Value → Nat → aw_H → Prop} {pc : Nat} {L : List (Option Value)} {st rest : List Value} {n : Nat} {h : aw_H} {cells slots : Nat}
theorem am_of {y : MethodName} {fr lo : Nat} {av : List Value} (hy : plainName y.cls = true) (hlen : (aw_ar av).length ≤ nL) (hL : aw_ar av ++ List.replicate (nL - (aw_ar av).length) none = L)
    (k : AW l D tc y.cls cc nL ret { frames := fr, cells := mc, slots := ms, locals := lo } n mc ms Q 0 L [] n h 0 0) : AM l D tc y cc nL ret fr lo mc ms av n h Q := by
  intro ad A sz hA
  refine Met.ofW (cc := cc) (maxL := nL) (ret := ret) hy rfl ?_
  intro p e s m args below meth c s₁ B hml hv
  obtain ⟨rfl, hsz, hK, hP, hD⟩ := hv
  subst hsz
  have hl := lv_entry (av.map (aw_mv ad)) (n := nL) (by rw [aw_ar_sl]; exact hlen)
  rw [lg_entry_eq]
  refine k p e s m _ below meth c s.heap [] _ A ad ad ⟨B.exec, B.bytes, B.returns, hml, findClass_of_methodNamed B.named, fun w hw => atoms_spec (ws := .code y cc nL ret :: aw_gw) B.pre w (List.mem_cons_of_mem _ hw), B.notSynchronized, hK, hA⟩ ⟨Nat.le_refl _, fun _ _ => rfl, hP, hD, va_S.rf, hl.1, hl.2.1, fun i v hi => ?_⟩
  subst hL
  by_cases h1 : i < (aw_ar av).length
  · rw [List.getElem?_append_left h1] at hi
    have := hl.2.2 _ (aw_ar_args ad av 0 i v hi)
    simpa using this
  · rw [List.getElem?_append_right (by omega)] at hi
    have := List.mem_of_getElem? hi
    simp at this
theorem aw_pc {pc' : Nat} (e : pc = pc') (k : AW l D tc own cc nL ret R n0 mc ms Q pc' L st n h cells slots) : AW l D tc own cc nL ret R n0 mc ms Q pc L st n h cells slots := e ▸ k

theorem aw_iconst {z : Int} {v : Int32} (d : decode cc pc = .ok (.iconst z, 1)) (hv : Int32.ofInt z = v) (k : AW l D tc own cc nL ret R n0 mc ms Q (pc + 1) (L) (.int v :: rest) n h cells slots) : AW l D tc own cc nL ret R n0 mc ms Q (pc) (L) (rest) n h cells slots :=
  fun p e s m args below meth c H locs ls A ad ad0 X Y => lv_iconst X.1 X.2.1 d hv (k p e s m args below meth c H locs ls A ad ad0 X Y)
theorem aw_bipush {z : Int} {v : Int32} (d : decode cc pc = .ok (.bipush z, 2)) (hv : (Int8.ofInt z).toInt32 = v) (k : AW l D tc own cc nL ret R n0 mc ms Q (pc + 2) (L) (.int v :: rest) n h cells slots) : AW l D tc own cc nL ret R n0 mc ms Q (pc) (L) (rest) n h cells slots :=
  fun p e s m args below meth c H locs ls A ad ad0 X Y => lv_bipush X.1 X.2.1 d hv (k p e s m args below meth c H locs ls A ad ad0 X Y)
theorem aw_sipush {z : Int} {v : Int32} (d : decode cc pc = .ok (.sipush z, 3)) (hv : (Int16.ofInt z).toInt32 = v) (k : AW l D tc own cc nL ret R n0 mc ms Q (pc + 3) (L) (.int v :: rest) n h cells slots) : AW l D tc own cc nL ret R n0 mc ms Q (pc) (L) (rest) n h cells slots :=
  fun p e s m args below meth c H locs ls A ad ad0 X Y => lv_sipush X.1 X.2.1 d hv (k p e s m args below meth c H locs ls A ad ad0 X Y)
theorem aw_lconst {z : Fin 2} {v : Int64} (d : decode cc pc = .ok (.lconst z, 1)) (hv : Int64.ofNat (z : Nat) = v) (k : AW l D tc own cc nL ret R n0 mc ms Q (pc + 1) (L) (.long v :: rest) n h cells slots) : AW l D tc own cc nL ret R n0 mc ms Q (pc) (L) (rest) n h cells slots :=
  fun p e s m args below meth c H locs ls A ad ad0 X Y => lv_lconst X.1 X.2.1 d hv (k p e s m args below meth c H locs ls A ad ad0 X Y)
theorem aw_null  (d : decode cc pc = .ok (.aconst_null, 1)) (k : AW l D tc own cc nL ret R n0 mc ms Q (pc + 1) (L) (.null :: rest) n h cells slots) : AW l D tc own cc nL ret R n0 mc ms Q (pc) (L) (rest) n h cells slots :=
  fun p e s m args below meth c H locs ls A ad ad0 X Y => lv_null X.1 X.2.1 d (k p e s m args below meth c H locs ls A ad ad0 X Y)
theorem aw_ldc2 {idx : Nat} {v : Int64} (d : decode cc pc = .ok (.ldc2_w idx, 3)) (hw : Cond.constantLong own idx v ∈ aw_gw) (k : AW l D tc own cc nL ret R n0 mc ms Q (pc + 3) (L) (.long v :: rest) n h cells slots) : AW l D tc own cc nL ret R n0 mc ms Q (pc) (L) (rest) n h cells slots :=
  fun p e s m args below meth c H locs ls A ad ad0 X Y => lv_ldc2 X.1 X.2.1 X.2.2.2.2.1 (X.2.2.2.2.2.1 _ hw) d (k p e s m args below meth c H locs ls A ad ad0 X Y)
theorem aw_ldcw {idx : Nat} {v : Int32} (d : decode cc pc = .ok (.ldc_w idx, 3)) (hw : Cond.constant own idx v ∈ aw_gw) (k : AW l D tc own cc nL ret R n0 mc ms Q (pc + 3) (L) (.int v :: rest) n h cells slots) : AW l D tc own cc nL ret R n0 mc ms Q (pc) (L) (rest) n h cells slots :=
  fun p e s m args below meth c H locs ls A ad ad0 X Y => lv_ldcw X.1 X.2.1 X.2.2.2.2.1 (X.2.2.2.2.2.1 _ hw) d (k p e s m args below meth c H locs ls A ad ad0 X Y)
theorem aw_iload_n {k0 : Fin 4} {i : Nat} {x : Int32} (d : decode cc pc = .ok (.iload_n k0, 1)) (hi : (k0 : Nat) = i) (hv : L[i]? = some (some (.int x))) (k : AW l D tc own cc nL ret R n0 mc ms Q (pc + 1) (L) (.int x :: rest) n h cells slots) : AW l D tc own cc nL ret R n0 mc ms Q (pc) (L) (rest) n h cells slots :=
  fun p e s m args below meth c H locs ls A ad ad0 X Y => lv_iload_n X.1 X.2.1 d hi (Y.2.2.2.2.2.2.2 _ _ hv) (k p e s m args below meth c H locs ls A ad ad0 X Y)
theorem aw_iload {i : Nat} {x : Int32} (d : decode cc pc = .ok (.iload i, 2)) (hv : L[i]? = some (some (.int x))) (k : AW l D tc own cc nL ret R n0 mc ms Q (pc + 2) (L) (.int x :: rest) n h cells slots) : AW l D tc own cc nL ret R n0 mc ms Q (pc) (L) (rest) n h cells slots :=
  fun p e s m args below meth c H locs ls A ad ad0 X Y => lv_iload X.1 X.2.1 d (Y.2.2.2.2.2.2.2 _ _ hv) (k p e s m args below meth c H locs ls A ad ad0 X Y)
theorem aw_lload_n {k0 : Fin 4} {i : Nat} {x : Int64} (d : decode cc pc = .ok (.lload_n k0, 1)) (hi : (k0 : Nat) = i) (hv : L[i]? = some (some (.long x))) (k : AW l D tc own cc nL ret R n0 mc ms Q (pc + 1) (L) (.long x :: rest) n h cells slots) : AW l D tc own cc nL ret R n0 mc ms Q (pc) (L) (rest) n h cells slots :=
  fun p e s m args below meth c H locs ls A ad ad0 X Y => lv_lload_n X.1 X.2.1 d hi (Y.2.2.2.2.2.2.2 _ _ hv) (k p e s m args below meth c H locs ls A ad ad0 X Y)
theorem aw_lload {i : Nat} {x : Int64} (d : decode cc pc = .ok (.lload i, 2)) (hv : L[i]? = some (some (.long x))) (k : AW l D tc own cc nL ret R n0 mc ms Q (pc + 2) (L) (.long x :: rest) n h cells slots) : AW l D tc own cc nL ret R n0 mc ms Q (pc) (L) (rest) n h cells slots :=
  fun p e s m args below meth c H locs ls A ad ad0 X Y => lv_lload X.1 X.2.1 d (Y.2.2.2.2.2.2.2 _ _ hv) (k p e s m args below meth c H locs ls A ad ad0 X Y)
theorem aw_aload_n {k0 : Fin 4} {i : Nat} {x : Nat} (d : decode cc pc = .ok (.aload_n k0, 1)) (hi : (k0 : Nat) = i) (hv : L[i]? = some (some (.ref x))) (k : AW l D tc own cc nL ret R n0 mc ms Q (pc + 1) (L) (.ref x :: rest) n h cells slots) : AW l D tc own cc nL ret R n0 mc ms Q (pc) (L) (rest) n h cells slots :=
  fun p e s m args below meth c H locs ls A ad ad0 X Y => lv_aload_n X.1 X.2.1 d hi (Y.2.2.2.2.2.2.2 _ _ hv) (k p e s m args below meth c H locs ls A ad ad0 X Y)
theorem aw_aload {i : Nat} {x : Nat} (d : decode cc pc = .ok (.aload i, 2)) (hv : L[i]? = some (some (.ref x))) (k : AW l D tc own cc nL ret R n0 mc ms Q (pc + 2) (L) (.ref x :: rest) n h cells slots) : AW l D tc own cc nL ret R n0 mc ms Q (pc) (L) (rest) n h cells slots :=
  fun p e s m args below meth c H locs ls A ad ad0 X Y => lv_aload X.1 X.2.1 d (Y.2.2.2.2.2.2.2 _ _ hv) (k p e s m args below meth c H locs ls A ad ad0 X Y)
theorem aw_aload_nN {k0 : Fin 4} {i : Nat} (d : decode cc pc = .ok (.aload_n k0, 1)) (hi : (k0 : Nat) = i) (hv : L[i]? = some (some .null)) (k : AW l D tc own cc nL ret R n0 mc ms Q (pc + 1) (L) (.null :: rest) n h cells slots) : AW l D tc own cc nL ret R n0 mc ms Q (pc) (L) (rest) n h cells slots :=
  fun p e s m args below meth c H locs ls A ad ad0 X Y => lv_aload_nN X.1 X.2.1 d hi (Y.2.2.2.2.2.2.2 _ _ hv) (k p e s m args below meth c H locs ls A ad ad0 X Y)
theorem aw_aloadN {i : Nat} (d : decode cc pc = .ok (.aload i, 2)) (hv : L[i]? = some (some .null)) (k : AW l D tc own cc nL ret R n0 mc ms Q (pc + 2) (L) (.null :: rest) n h cells slots) : AW l D tc own cc nL ret R n0 mc ms Q (pc) (L) (rest) n h cells slots :=
  fun p e s m args below meth c H locs ls A ad ad0 X Y => lv_aloadN X.1 X.2.1 d (Y.2.2.2.2.2.2.2 _ _ hv) (k p e s m args below meth c H locs ls A ad ad0 X Y)
theorem aw_istore_n {k0 : Fin 4} {i : Nat} {x : Int32} (d : decode cc pc = .ok (.istore_n k0, 1)) (hi : (k0 : Nat) = i) (hb : i < nL) (ho : aw_ok L i = true) (k : AW l D tc own cc nL ret R n0 mc ms Q (pc + 1) (L.set i (some (.int x))) (rest) n h cells slots) : AW l D tc own cc nL ret R n0 mc ms Q (pc) (L) (.int x :: rest) n h cells slots :=
  fun p e s m args below meth c H locs ls A ad ad0 X Y => lv_istore_n X.1 X.2.1 d hi Y.2.2.2.2.2.has hb rfl (fun ls' h' => k p e s m args below meth c H locs ls' A ad ad0 X ⟨Y.1, Y.2.1, Y.2.2.1, Y.2.2.2.1, Y.2.2.2.2.1, aw_L.store1 (v := .int x) ho h'⟩)
theorem aw_istore {i : Nat} {x : Int32} (d : decode cc pc = .ok (.istore i, 2)) (hb : i < nL) (ho : aw_ok L i = true) (k : AW l D tc own cc nL ret R n0 mc ms Q (pc + 2) (L.set i (some (.int x))) (rest) n h cells slots) : AW l D tc own cc nL ret R n0 mc ms Q (pc) (L) (.int x :: rest) n h cells slots :=
  fun p e s m args below meth c H locs ls A ad ad0 X Y => lv_istore X.1 X.2.1 d Y.2.2.2.2.2.has hb rfl (fun ls' h' => k p e s m args below meth c H locs ls' A ad ad0 X ⟨Y.1, Y.2.1, Y.2.2.1, Y.2.2.2.1, Y.2.2.2.2.1, aw_L.store1 (v := .int x) ho h'⟩)
theorem aw_astore_n {k0 : Fin 4} {i : Nat} {x : Nat} (d : decode cc pc = .ok (.astore_n k0, 1)) (hi : (k0 : Nat) = i) (hb : i < nL) (ho : aw_ok L i = true) (k : AW l D tc own cc nL ret R n0 mc ms Q (pc + 1) (L.set i (some (.ref x))) (rest) n h cells slots) : AW l D tc own cc nL ret R n0 mc ms Q (pc) (L) (.ref x :: rest) n h cells slots :=
  fun p e s m args below meth c H locs ls A ad ad0 X Y => lv_astore_n X.1 X.2.1 d hi Y.2.2.2.2.2.has hb rfl (fun ls' h' => k p e s m args below meth c H locs ls' A ad ad0 X ⟨Y.1, Y.2.1, Y.2.2.1, Y.2.2.2.1, Y.2.2.2.2.1, aw_L.store1 (v := .ref x) ho h'⟩)
theorem aw_astore {i : Nat} {x : Nat} (d : decode cc pc = .ok (.astore i, 2)) (hb : i < nL) (ho : aw_ok L i = true) (k : AW l D tc own cc nL ret R n0 mc ms Q (pc + 2) (L.set i (some (.ref x))) (rest) n h cells slots) : AW l D tc own cc nL ret R n0 mc ms Q (pc) (L) (.ref x :: rest) n h cells slots :=
  fun p e s m args below meth c H locs ls A ad ad0 X Y => lv_astore X.1 X.2.1 d Y.2.2.2.2.2.has hb rfl (fun ls' h' => k p e s m args below meth c H locs ls' A ad ad0 X ⟨Y.1, Y.2.1, Y.2.2.1, Y.2.2.2.1, Y.2.2.2.2.1, aw_L.store1 (v := .ref x) ho h'⟩)
theorem aw_lstore_n {k0 : Fin 4} {i : Nat} {x : Int64} (d : decode cc pc = .ok (.lstore_n k0, 1)) (hi : (k0 : Nat) = i) (hb : i + 1 < nL) (ho : aw_ok L i = true) (k : AW l D tc own cc nL ret R n0 mc ms Q (pc + 1) ((L.set i (some (.long x))).set (i + 1) none) (rest) n h cells slots) : AW l D tc own cc nL ret R n0 mc ms Q (pc) (L) (.long x :: rest) n h cells slots :=
  fun p e s m args below meth c H locs ls A ad ad0 X Y => lv_lstore_n X.1 X.2.1 d hi Y.2.2.2.2.2.has hb rfl (fun ls' h' => k p e s m args below meth c H locs ls' A ad ad0 X ⟨Y.1, Y.2.1, Y.2.2.1, Y.2.2.2.1, Y.2.2.2.2.1, aw_L.store2 (v := .long x) ho h'⟩)
theorem aw_lstore {i : Nat} {x : Int64} (d : decode cc pc = .ok (.lstore i, 2)) (hb : i + 1 < nL) (ho : aw_ok L i = true) (k : AW l D tc own cc nL ret R n0 mc ms Q (pc + 2) ((L.set i (some (.long x))).set (i + 1) none) (rest) n h cells slots) : AW l D tc own cc nL ret R n0 mc ms Q (pc) (L) (.long x :: rest) n h cells slots :=
  fun p e s m args below meth c H locs ls A ad ad0 X Y => lv_lstore X.1 X.2.1 d Y.2.2.2.2.2.has hb rfl (fun ls' h' => k p e s m args below meth c H locs ls' A ad ad0 X ⟨Y.1, Y.2.1, Y.2.2.1, Y.2.2.2.1, Y.2.2.2.2.1, aw_L.store2 (v := .long x) ho h'⟩)
theorem aw_astore_nN {k0 : Fin 4} {i : Nat} (d : decode cc pc = .ok (.astore_n k0, 1)) (hi : (k0 : Nat) = i) (hb : i < nL) (ho : aw_ok L i = true) (k : AW l D tc own cc nL ret R n0 mc ms Q (pc + 1) (L.set i (some .null)) (rest) n h cells slots) : AW l D tc own cc nL ret R n0 mc ms Q (pc) (L) (.null :: rest) n h cells slots :=
  fun p e s m args below meth c H locs ls A ad ad0 X Y => lv_astore_nN X.1 X.2.1 d hi Y.2.2.2.2.2.has hb rfl (fun ls' h' => k p e s m args below meth c H locs ls' A ad ad0 X ⟨Y.1, Y.2.1, Y.2.2.1, Y.2.2.2.1, Y.2.2.2.2.1, aw_L.store1 (v := .null) ho h'⟩)
theorem aw_astoreN {i : Nat} (d : decode cc pc = .ok (.astore i, 2)) (hb : i < nL) (ho : aw_ok L i = true) (k : AW l D tc own cc nL ret R n0 mc ms Q (pc + 2) (L.set i (some .null)) (rest) n h cells slots) : AW l D tc own cc nL ret R n0 mc ms Q (pc) (L) (.null :: rest) n h cells slots :=
  fun p e s m args below meth c H locs ls A ad ad0 X Y => lv_astoreN X.1 X.2.1 d Y.2.2.2.2.2.has hb rfl (fun ls' h' => k p e s m args below meth c H locs ls' A ad ad0 X ⟨Y.1, Y.2.1, Y.2.2.1, Y.2.2.2.1, Y.2.2.2.2.1, aw_L.store1 (v := .null) ho h'⟩)
theorem aw_iinc {i : Nat} {z : Int} {x v : Int32} (d : decode cc pc = .ok (.iinc i z, 3)) (hv : L[i]? = some (some (.int x))) (hz : Int32.ofInt z = v) (hb : i < nL) (ho : aw_ok L i = true) (k : AW l D tc own cc nL ret R n0 mc ms Q (pc + 3) (L.set i (some (.int (x + v)))) (st) n h cells slots) : AW l D tc own cc nL ret R n0 mc ms Q (pc) (L) (st) n h cells slots := by
  subst hz
  intro p e s m args below meth c H locs ls A ad ad0 X Y
  obtain ⟨k9, hk9⟩ := List.getElem?_of_mem (aw_ll_mem (ad := ad) (q := (i, .int x)).mpr ⟨.int x, hv, rfl⟩)
  exact lv_iinc X.1 X.2.1 d Y.2.2.2.2.2.has hk9 rfl hb rfl (fun ls' h' => k p e s m args below meth c H locs ls' A ad ad0 X ⟨Y.1, Y.2.1, Y.2.2.1, Y.2.2.2.1, Y.2.2.2.2.1, aw_L.store1 (v := .int (x + Int32.ofInt z)) ho h'⟩)
theorem aw_iadd {x y : Int32} (d : decode cc pc = .ok (.iadd, 1)) (k : AW l D tc own cc nL ret R n0 mc ms Q (pc + 1) (L) (.int (x + y) :: rest) n h cells slots) : AW l D tc own cc nL ret R n0 mc ms Q (pc) (L) (.int y :: .int x :: rest) n h cells slots :=
  fun p e s m args below meth c H locs ls A ad ad0 X Y => lv_iadd X.1 X.2.1 d (k p e s m args below meth c H locs ls A ad ad0 X Y)
theorem aw_isub {x y : Int32} (d : decode cc pc = .ok (.isub, 1)) (k : AW l D tc own cc nL ret R n0 mc ms Q (pc + 1) (L) (.int (x - y) :: rest) n h cells slots) : AW l D tc own cc nL ret R n0 mc ms Q (pc) (L) (.int y :: .int x :: rest) n h cells slots :=
  fun p e s m args below meth c H locs ls A ad ad0 X Y => lv_isub X.1 X.2.1 d (k p e s m args below meth c H locs ls A ad ad0 X Y)
theorem aw_imul {x y : Int32} (d : decode cc pc = .ok (.imul, 1)) (k : AW l D tc own cc nL ret R n0 mc ms Q (pc + 1) (L) (.int (x * y) :: rest) n h cells slots) : AW l D tc own cc nL ret R n0 mc ms Q (pc) (L) (.int y :: .int x :: rest) n h cells slots :=
  fun p e s m args below meth c H locs ls A ad ad0 X Y => lv_imul X.1 X.2.1 d (k p e s m args below meth c H locs ls A ad ad0 X Y)
theorem aw_iand {x y : Int32} (d : decode cc pc = .ok (.iand, 1)) (k : AW l D tc own cc nL ret R n0 mc ms Q (pc + 1) (L) (.int (x &&& y) :: rest) n h cells slots) : AW l D tc own cc nL ret R n0 mc ms Q (pc) (L) (.int y :: .int x :: rest) n h cells slots :=
  fun p e s m args below meth c H locs ls A ad ad0 X Y => lv_iand X.1 X.2.1 d (k p e s m args below meth c H locs ls A ad ad0 X Y)
theorem aw_ior {x y : Int32} (d : decode cc pc = .ok (.ior, 1)) (k : AW l D tc own cc nL ret R n0 mc ms Q (pc + 1) (L) (.int (x ||| y) :: rest) n h cells slots) : AW l D tc own cc nL ret R n0 mc ms Q (pc) (L) (.int y :: .int x :: rest) n h cells slots :=
  fun p e s m args below meth c H locs ls A ad ad0 X Y => lv_ior X.1 X.2.1 d (k p e s m args below meth c H locs ls A ad ad0 X Y)
theorem aw_ixor {x y : Int32} (d : decode cc pc = .ok (.ixor, 1)) (k : AW l D tc own cc nL ret R n0 mc ms Q (pc + 1) (L) (.int (x ^^^ y) :: rest) n h cells slots) : AW l D tc own cc nL ret R n0 mc ms Q (pc) (L) (.int y :: .int x :: rest) n h cells slots :=
  fun p e s m args below meth c H locs ls A ad ad0 X Y => lv_ixor X.1 X.2.1 d (k p e s m args below meth c H locs ls A ad ad0 X Y)
theorem aw_idiv {x y : Int32} (d : decode cc pc = .ok (.idiv, 1)) (hne : ¬ y = 0) (k : AW l D tc own cc nL ret R n0 mc ms Q (pc + 1) (L) (.int (x / y) :: rest) n h cells slots) : AW l D tc own cc nL ret R n0 mc ms Q (pc) (L) (.int y :: .int x :: rest) n h cells slots :=
  fun p e s m args below meth c H locs ls A ad ad0 X Y => lv_idiv X.1 X.2.1 d hne (k p e s m args below meth c H locs ls A ad ad0 X Y)
theorem aw_irem {x y : Int32} (d : decode cc pc = .ok (.irem, 1)) (hne : ¬ y = 0) (k : AW l D tc own cc nL ret R n0 mc ms Q (pc + 1) (L) (.int (x - x / y * y) :: rest) n h cells slots) : AW l D tc own cc nL ret R n0 mc ms Q (pc) (L) (.int y :: .int x :: rest) n h cells slots :=
  fun p e s m args below meth c H locs ls A ad ad0 X Y => lv_irem X.1 X.2.1 d hne (k p e s m args below meth c H locs ls A ad ad0 X Y)
theorem aw_ishl {x y : Int32} (d : decode cc pc = .ok (.ishl, 1)) (k : AW l D tc own cc nL ret R n0 mc ms Q (pc + 1) (L) (.int (x <<< (y &&& 31)) :: rest) n h cells slots) : AW l D tc own cc nL ret R n0 mc ms Q (pc) (L) (.int y :: .int x :: rest) n h cells slots :=
  fun p e s m args below meth c H locs ls A ad ad0 X Y => lv_ishl X.1 X.2.1 d (k p e s m args below meth c H locs ls A ad ad0 X Y)
theorem aw_ishr {x y : Int32} (d : decode cc pc = .ok (.ishr, 1)) (k : AW l D tc own cc nL ret R n0 mc ms Q (pc + 1) (L) (.int (x >>> (y &&& 31)) :: rest) n h cells slots) : AW l D tc own cc nL ret R n0 mc ms Q (pc) (L) (.int y :: .int x :: rest) n h cells slots :=
  fun p e s m args below meth c H locs ls A ad ad0 X Y => lv_ishr X.1 X.2.1 d (k p e s m args below meth c H locs ls A ad ad0 X Y)
theorem aw_ineg {x : Int32} (d : decode cc pc = .ok (.ineg, 1)) (k : AW l D tc own cc nL ret R n0 mc ms Q (pc + 1) (L) (.int (-x) :: rest) n h cells slots) : AW l D tc own cc nL ret R n0 mc ms Q (pc) (L) (.int x :: rest) n h cells slots :=
  fun p e s m args below meth c H locs ls A ad ad0 X Y => lv_ineg X.1 X.2.1 d (k p e s m args below meth c H locs ls A ad ad0 X Y)
theorem aw_i2b {x : Int32} (d : decode cc pc = .ok (.i2b, 1)) (k : AW l D tc own cc nL ret R n0 mc ms Q (pc + 1) (L) (.int x.toInt8.toInt32 :: rest) n h cells slots) : AW l D tc own cc nL ret R n0 mc ms Q (pc) (L) (.int x :: rest) n h cells slots :=
  fun p e s m args below meth c H locs ls A ad ad0 X Y => lv_i2b X.1 X.2.1 d rfl (k p e s m args below meth c H locs ls A ad ad0 X Y)
theorem aw_i2s {x : Int32} (d : decode cc pc = .ok (.i2s, 1)) (k : AW l D tc own cc nL ret R n0 mc ms Q (pc + 1) (L) (.int x.toInt16.toInt32 :: rest) n h cells slots) : AW l D tc own cc nL ret R n0 mc ms Q (pc) (L) (.int x :: rest) n h cells slots :=
  fun p e s m args below meth c H locs ls A ad ad0 X Y => lv_i2s X.1 X.2.1 d rfl (k p e s m args below meth c H locs ls A ad ad0 X Y)
theorem aw_i2l {x : Int32} (d : decode cc pc = .ok (.i2l, 1)) (k : AW l D tc own cc nL ret R n0 mc ms Q (pc + 1) (L) (.long x.toInt64 :: rest) n h cells slots) : AW l D tc own cc nL ret R n0 mc ms Q (pc) (L) (.int x :: rest) n h cells slots :=
  fun p e s m args below meth c H locs ls A ad ad0 X Y => lv_i2l X.1 X.2.1 d rfl (k p e s m args below meth c H locs ls A ad ad0 X Y)
theorem aw_iushr {x y : Int32} (d : decode cc pc = .ok (.iushr, 1)) (k : AW l D tc own cc nL ret R n0 mc ms Q (pc + 1) (L) (.int (x.toUInt32 >>> (y.toUInt32 &&& Int32.toUInt32 31)).toInt32 :: rest) n h cells slots) : AW l D tc own cc nL ret R n0 mc ms Q (pc) (L) (.int y :: .int x :: rest) n h cells slots :=
  fun p e s m args below meth c H locs ls A ad ad0 X Y => lv_iushr X.1 X.2.1 d rfl (k p e s m args below meth c H locs ls A ad ad0 X Y)
theorem aw_lshl {x : Int64} {y : Int32} (d : decode cc pc = .ok (.lshl, 1)) (k : AW l D tc own cc nL ret R n0 mc ms Q (pc + 1) (L) (.long (x <<< (y.toInt64 &&& 63)) :: rest) n h cells slots) : AW l D tc own cc nL ret R n0 mc ms Q (pc) (L) (.int y :: .long x :: rest) n h cells slots :=
  fun p e s m args below meth c H locs ls A ad ad0 X Y => lv_lshl X.1 X.2.1 d rfl (k p e s m args below meth c H locs ls A ad ad0 X Y)
theorem aw_lrem {x y : Int64} (d : decode cc pc = .ok (.lrem, 1)) (hne : ¬ y = 0) (k : AW l D tc own cc nL ret R n0 mc ms Q (pc + 1) (L) (.long (x - x / y * y) :: rest) n h cells slots) : AW l D tc own cc nL ret R n0 mc ms Q (pc) (L) (.long y :: .long x :: rest) n h cells slots :=
  fun p e s m args below meth c H locs ls A ad ad0 X Y => lv_lrem X.1 X.2.1 d hne (k p e s m args below meth c H locs ls A ad ad0 X Y)
theorem aw_ldiv {x y : Int64} (d : decode cc pc = .ok (.ldiv, 1)) (hne : ¬ y = 0) (k : AW l D tc own cc nL ret R n0 mc ms Q (pc + 1) (L) (.long (x / y) :: rest) n h cells slots) : AW l D tc own cc nL ret R n0 mc ms Q (pc) (L) (.long y :: .long x :: rest) n h cells slots :=
  fun p e s m args below meth c H locs ls A ad ad0 X Y => lv_ldiv X.1 X.2.1 d hne (k p e s m args below meth c H locs ls A ad ad0 X Y)
theorem aw_dup {v : Value} (d : decode cc pc = .ok (.dup, 1)) (hv : v.category = 1) (k : AW l D tc own cc nL ret R n0 mc ms Q (pc + 1) (L) (v :: v :: rest) n h cells slots) : AW l D tc own cc nL ret R n0 mc ms Q (pc) (L) (v :: rest) n h cells slots :=
  fun p e s m args below meth c H locs ls A ad ad0 X Y => lv_dup X.1 X.2.1 d (by rw [aw_mv_cat]; exact hv) (k p e s m args below meth c H locs ls A ad ad0 X Y)
theorem aw_dup2 {v w : Value} (d : decode cc pc = .ok (.dup2, 1)) (hv : v.category = 1) (hw : w.category = 1) (k : AW l D tc own cc nL ret R n0 mc ms Q (pc + 1) (L) (v :: w :: v :: w :: rest) n h cells slots) : AW l D tc own cc nL ret R n0 mc ms Q (pc) (L) (v :: w :: rest) n h cells slots :=
  fun p e s m args below meth c H locs ls A ad ad0 X Y => lv_dup2_11 X.1 X.2.1 d (by rw [aw_mv_cat]; exact hv) (by rw [aw_mv_cat]; exact hw) (k p e s m args below meth c H locs ls A ad ad0 X Y)
theorem aw_icmp_eq {x y : Int32} {off : Int} {tgt : Nat} (d : decode cc pc = .ok (.if_icmp .eq off, 3)) (ht : (pc : Int) + off = (tgt : Int)) (kt : x = y → AW l D tc own cc nL ret R n0 mc ms Q (tgt) (L) (rest) n h cells slots) (kf : ¬ (x = y) → AW l D tc own cc nL ret R n0 mc ms Q (pc + 3) (L) (rest) n h cells slots) : AW l D tc own cc nL ret R n0 mc ms Q (pc) (L) (.int y :: .int x :: rest) n h cells slots :=
  fun p e s m args below meth c H locs ls A ad ad0 X Y => lv_icmp_eq X.1 X.2.1 d ht (fun q => kt q p e s m args below meth c H locs ls A ad ad0 X Y) (fun q => kf q p e s m args below meth c H locs ls A ad ad0 X Y)
theorem aw_if_eq {x : Int32} {off : Int} {tgt : Nat} (d : decode cc pc = .ok (.ifCond .eq off, 3)) (ht : (pc : Int) + off = (tgt : Int)) (kt : x = 0 → AW l D tc own cc nL ret R n0 mc ms Q (tgt) (L) (rest) n h cells slots) (kf : ¬ (x = 0) → AW l D tc own cc nL ret R n0 mc ms Q (pc + 3) (L) (rest) n h cells slots) : AW l D tc own cc nL ret R n0 mc ms Q (pc) (L) (.int x :: rest) n h cells slots :=
  fun p e s m args below meth c H locs ls A ad ad0 X Y => lv_if_eq X.1 X.2.1 d ht (fun q => kt q p e s m args below meth c H locs ls A ad ad0 X Y) (fun q => kf q p e s m args below meth c H locs ls A ad ad0 X Y)
theorem aw_icmp_ne {x y : Int32} {off : Int} {tgt : Nat} (d : decode cc pc = .ok (.if_icmp .ne off, 3)) (ht : (pc : Int) + off = (tgt : Int)) (kt : ¬ x = y → AW l D tc own cc nL ret R n0 mc ms Q (tgt) (L) (rest) n h cells slots) (kf : x = y → AW l D tc own cc nL ret R n0 mc ms Q (pc + 3) (L) (rest) n h cells slots) : AW l D tc own cc nL ret R n0 mc ms Q (pc) (L) (.int y :: .int x :: rest) n h cells slots :=
  fun p e s m args below meth c H locs ls A ad ad0 X Y => lv_icmp_ne X.1 X.2.1 d ht (fun q => kt q p e s m args below meth c H locs ls A ad ad0 X Y) (fun q => kf q p e s m args below meth c H locs ls A ad ad0 X Y)
theorem aw_if_ne {x : Int32} {off : Int} {tgt : Nat} (d : decode cc pc = .ok (.ifCond .ne off, 3)) (ht : (pc : Int) + off = (tgt : Int)) (kt : ¬ x = 0 → AW l D tc own cc nL ret R n0 mc ms Q (tgt) (L) (rest) n h cells slots) (kf : x = 0 → AW l D tc own cc nL ret R n0 mc ms Q (pc + 3) (L) (rest) n h cells slots) : AW l D tc own cc nL ret R n0 mc ms Q (pc) (L) (.int x :: rest) n h cells slots :=
  fun p e s m args below meth c H locs ls A ad ad0 X Y => lv_if_ne X.1 X.2.1 d ht (fun q => kt q p e s m args below meth c H locs ls A ad ad0 X Y) (fun q => kf q p e s m args below meth c H locs ls A ad ad0 X Y)
theorem aw_icmp_lt {x y : Int32} {off : Int} {tgt : Nat} (d : decode cc pc = .ok (.if_icmp .lt off, 3)) (ht : (pc : Int) + off = (tgt : Int)) (kt : x < y → AW l D tc own cc nL ret R n0 mc ms Q (tgt) (L) (rest) n h cells slots) (kf : ¬ (x < y) → AW l D tc own cc nL ret R n0 mc ms Q (pc + 3) (L) (rest) n h cells slots) : AW l D tc own cc nL ret R n0 mc ms Q (pc) (L) (.int y :: .int x :: rest) n h cells slots :=
  fun p e s m args below meth c H locs ls A ad ad0 X Y => lv_icmp_lt X.1 X.2.1 d ht (fun q => kt q p e s m args below meth c H locs ls A ad ad0 X Y) (fun q => kf q p e s m args below meth c H locs ls A ad ad0 X Y)
theorem aw_if_lt {x : Int32} {off : Int} {tgt : Nat} (d : decode cc pc = .ok (.ifCond .lt off, 3)) (ht : (pc : Int) + off = (tgt : Int)) (kt : x < 0 → AW l D tc own cc nL ret R n0 mc ms Q (tgt) (L) (rest) n h cells slots) (kf : ¬ (x < 0) → AW l D tc own cc nL ret R n0 mc ms Q (pc + 3) (L) (rest) n h cells slots) : AW l D tc own cc nL ret R n0 mc ms Q (pc) (L) (.int x :: rest) n h cells slots :=
  fun p e s m args below meth c H locs ls A ad ad0 X Y => lv_if_lt X.1 X.2.1 d ht (fun q => kt q p e s m args below meth c H locs ls A ad ad0 X Y) (fun q => kf q p e s m args below meth c H locs ls A ad ad0 X Y)
theorem aw_icmp_ge {x y : Int32} {off : Int} {tgt : Nat} (d : decode cc pc = .ok (.if_icmp .ge off, 3)) (ht : (pc : Int) + off = (tgt : Int)) (kt : y ≤ x → AW l D tc own cc nL ret R n0 mc ms Q (tgt) (L) (rest) n h cells slots) (kf : ¬ (y ≤ x) → AW l D tc own cc nL ret R n0 mc ms Q (pc + 3) (L) (rest) n h cells slots) : AW l D tc own cc nL ret R n0 mc ms Q (pc) (L) (.int y :: .int x :: rest) n h cells slots :=
  fun p e s m args below meth c H locs ls A ad ad0 X Y => lv_icmp_ge X.1 X.2.1 d ht (fun q => kt q p e s m args below meth c H locs ls A ad ad0 X Y) (fun q => kf q p e s m args below meth c H locs ls A ad ad0 X Y)
theorem aw_if_ge {x : Int32} {off : Int} {tgt : Nat} (d : decode cc pc = .ok (.ifCond .ge off, 3)) (ht : (pc : Int) + off = (tgt : Int)) (kt : 0 ≤ x → AW l D tc own cc nL ret R n0 mc ms Q (tgt) (L) (rest) n h cells slots) (kf : ¬ (0 ≤ x) → AW l D tc own cc nL ret R n0 mc ms Q (pc + 3) (L) (rest) n h cells slots) : AW l D tc own cc nL ret R n0 mc ms Q (pc) (L) (.int x :: rest) n h cells slots :=
  fun p e s m args below meth c H locs ls A ad ad0 X Y => lv_if_ge X.1 X.2.1 d ht (fun q => kt q p e s m args below meth c H locs ls A ad ad0 X Y) (fun q => kf q p e s m args below meth c H locs ls A ad ad0 X Y)
theorem aw_icmp_gt {x y : Int32} {off : Int} {tgt : Nat} (d : decode cc pc = .ok (.if_icmp .gt off, 3)) (ht : (pc : Int) + off = (tgt : Int)) (kt : y < x → AW l D tc own cc nL ret R n0 mc ms Q (tgt) (L) (rest) n h cells slots) (kf : ¬ (y < x) → AW l D tc own cc nL ret R n0 mc ms Q (pc + 3) (L) (rest) n h cells slots) : AW l D tc own cc nL ret R n0 mc ms Q (pc) (L) (.int y :: .int x :: rest) n h cells slots :=
  fun p e s m args below meth c H locs ls A ad ad0 X Y => lv_icmp_gt X.1 X.2.1 d ht (fun q => kt q p e s m args below meth c H locs ls A ad ad0 X Y) (fun q => kf q p e s m args below meth c H locs ls A ad ad0 X Y)
theorem aw_if_gt {x : Int32} {off : Int} {tgt : Nat} (d : decode cc pc = .ok (.ifCond .gt off, 3)) (ht : (pc : Int) + off = (tgt : Int)) (kt : 0 < x → AW l D tc own cc nL ret R n0 mc ms Q (tgt) (L) (rest) n h cells slots) (kf : ¬ (0 < x) → AW l D tc own cc nL ret R n0 mc ms Q (pc + 3) (L) (rest) n h cells slots) : AW l D tc own cc nL ret R n0 mc ms Q (pc) (L) (.int x :: rest) n h cells slots :=
  fun p e s m args below meth c H locs ls A ad ad0 X Y => lv_if_gt X.1 X.2.1 d ht (fun q => kt q p e s m args below meth c H locs ls A ad ad0 X Y) (fun q => kf q p e s m args below meth c H locs ls A ad ad0 X Y)
theorem aw_icmp_le {x y : Int32} {off : Int} {tgt : Nat} (d : decode cc pc = .ok (.if_icmp .le off, 3)) (ht : (pc : Int) + off = (tgt : Int)) (kt : x ≤ y → AW l D tc own cc nL ret R n0 mc ms Q (tgt) (L) (rest) n h cells slots) (kf : ¬ (x ≤ y) → AW l D tc own cc nL ret R n0 mc ms Q (pc + 3) (L) (rest) n h cells slots) : AW l D tc own cc nL ret R n0 mc ms Q (pc) (L) (.int y :: .int x :: rest) n h cells slots :=
  fun p e s m args below meth c H locs ls A ad ad0 X Y => lv_icmp_le X.1 X.2.1 d ht (fun q => kt q p e s m args below meth c H locs ls A ad ad0 X Y) (fun q => kf q p e s m args below meth c H locs ls A ad ad0 X Y)
theorem aw_if_le {x : Int32} {off : Int} {tgt : Nat} (d : decode cc pc = .ok (.ifCond .le off, 3)) (ht : (pc : Int) + off = (tgt : Int)) (kt : x ≤ 0 → AW l D tc own cc nL ret R n0 mc ms Q (tgt) (L) (rest) n h cells slots) (kf : ¬ (x ≤ 0) → AW l D tc own cc nL ret R n0 mc ms Q (pc + 3) (L) (rest) n h cells slots) : AW l D tc own cc nL ret R n0 mc ms Q (pc) (L) (.int x :: rest) n h cells slots :=
  fun p e s m args below meth c H locs ls A ad ad0 X Y => lv_if_le X.1 X.2.1 d ht (fun q => kt q p e s m args below meth c H locs ls A ad ad0 X Y) (fun q => kf q p e s m args below meth c H locs ls A ad ad0 X Y)
theorem aw_goto {off : Int} {tgt : Nat} (d : decode cc pc = .ok (.goto off, 3)) (ht : (pc : Int) + off = (tgt : Int)) (k : AW l D tc own cc nL ret R n0 mc ms Q (tgt) (L) (st) n h cells slots) : AW l D tc own cc nL ret R n0 mc ms Q (pc) (L) (st) n h cells slots :=
  fun p e s m args below meth c H locs ls A ad ad0 X Y => lv_goto X.1 X.2.1 d ht (k p e s m args below meth c H locs ls A ad ad0 X Y)
theorem aw_ifnonnull {x : Nat} {off : Int} {tgt : Nat} (d : decode cc pc = .ok (.ifnonnull off, 3)) (ht : (pc : Int) + off = (tgt : Int)) (k : AW l D tc own cc nL ret R n0 mc ms Q (tgt) (L) (rest) n h cells slots) : AW l D tc own cc nL ret R n0 mc ms Q (pc) (L) (.ref x :: rest) n h cells slots :=
  fun p e s m args below meth c H locs ls A ad ad0 X Y => lv_ifnonnull X.1 X.2.1 d ht (k p e s m args below meth c H locs ls A ad ad0 X Y)
theorem aw_ifnonnullN {off : Int} (d : decode cc pc = .ok (.ifnonnull off, 3)) (k : AW l D tc own cc nL ret R n0 mc ms Q (pc + 3) (L) (rest) n h cells slots) : AW l D tc own cc nL ret R n0 mc ms Q (pc) (L) (.null :: rest) n h cells slots :=
  fun p e s m args below meth c H locs ls A ad ad0 X Y => lv_ifnonnullN X.1 X.2.1 d (k p e s m args below meth c H locs ls A ad ad0 X Y)
theorem aw_ifnull {x : Nat} {off : Int} (d : decode cc pc = .ok (.ifnull off, 3)) (k : AW l D tc own cc nL ret R n0 mc ms Q (pc + 3) (L) (rest) n h cells slots) : AW l D tc own cc nL ret R n0 mc ms Q (pc) (L) (.ref x :: rest) n h cells slots :=
  fun p e s m args below meth c H locs ls A ad ad0 X Y => lv_ifnull X.1 X.2.1 d (k p e s m args below meth c H locs ls A ad ad0 X Y)
theorem aw_ifnullN {off : Int} {tgt : Nat} (d : decode cc pc = .ok (.ifnull off, 3)) (ht : (pc : Int) + off = (tgt : Int)) (k : AW l D tc own cc nL ret R n0 mc ms Q (tgt) (L) (rest) n h cells slots) : AW l D tc own cc nL ret R n0 mc ms Q (pc) (L) (.null :: rest) n h cells slots :=
  fun p e s m args below meth c H locs ls A ad ad0 X Y => lv_ifnullN X.1 X.2.1 d ht (k p e s m args below meth c H locs ls A ad ad0 X Y)
theorem aw_tableOut {dflt lo hi : Int} {offs : Array Int} {len : Nat} {x : Int32} {tgt : Nat} (d : decode cc pc = .ok (.tableswitch dflt lo hi offs, len)) (hx : x.toInt < lo ∨ hi < x.toInt) (ht : (pc : Int) + dflt = (tgt : Int)) (k : AW l D tc own cc nL ret R n0 mc ms Q (tgt) (L) (rest) n h cells slots) : AW l D tc own cc nL ret R n0 mc ms Q (pc) (L) (.int x :: rest) n h cells slots :=
  fun p e s m args below meth c H locs ls A ad ad0 X Y => lv_tableOut X.1 X.2.1 d hx ht (k p e s m args below meth c H locs ls A ad ad0 X Y)
theorem aw_tableIn {dflt lo hi : Int} {offs : Array Int} {len : Nat} {x : Int32} {off : Int} {tgt : Nat} (d : decode cc pc = .ok (.tableswitch dflt lo hi offs, len)) (h1 : ¬ x.toInt < lo) (h2 : ¬ hi < x.toInt) (ho : offs[(x.toInt - lo).toNat]? = some off) (ht : (pc : Int) + off = (tgt : Int)) (k : AW l D tc own cc nL ret R n0 mc ms Q (tgt) (L) (rest) n h cells slots) : AW l D tc own cc nL ret R n0 mc ms Q (pc) (L) (.int x :: rest) n h cells slots :=
  fun p e s m args below meth c H locs ls A ad ad0 X Y => lv_tableIn X.1 X.2.1 d h1 h2 ho ht (k p e s m args below meth c H locs ls A ad ad0 X Y)
theorem aw_lookup {dflt : Int} {ps : Array (Int × Int)} {len : Nat} {x : Int32} {off : Int} {tgt : Nat} (d : decode cc pc = .ok (.lookupswitch dflt ps, len)) (hp : (ps.toList.zip (ps.toList.drop 1)).all (fun (a, next) => a.1 < next.1) = true) (ho : Op.lookupswitch.offset ps.toList dflt x.toInt = off) (ht : (pc : Int) + off = (tgt : Int)) (k : AW l D tc own cc nL ret R n0 mc ms Q (tgt) (L) (rest) n h cells slots) : AW l D tc own cc nL ret R n0 mc ms Q (pc) (L) (.int x :: rest) n h cells slots :=
  fun p e s m args below meth c H locs ls A ad ad0 X Y => lv_lookup X.1 X.2.1 d hp ho ht (k p e s m args below meth c H locs ls A ad ad0 X Y)
theorem aw_iret {v : Int32} (d : decode cc pc = .ok (.ireturn, 1)) (hc : cells ≤ mc) (hs : slots ≤ ms) (hq : Q (some (.int v)) n h) : AW l D tc own cc nL (some .int) R n0 mc ms Q pc L [.int v] n h cells slots := by
  intro p e s m args below meth c H locs ls A ad ad0 X Y
  obtain ⟨hx, hb, hr, hml, hown, hts, hlocks, hK, hA⟩ := X
  obtain ⟨hn, had, hP, hD, hS, hL⟩ := Y
  refine W.widen hc hs ?_
  exact W.iret hx hb hr (fun t ht hW => ⟨⟨(some (.int v)), n, h, ad, rfl, hq, hn, had, by rw [ht]; exact hP, hD⟩, hS.F ht⟩) hS.2.2 d hlocks
theorem aw_zret {v : Int32} (d : decode cc pc = .ok (.ireturn, 1)) (hn9 : narrow .boolean (.int v) = .int v) (hc : cells ≤ mc) (hs : slots ≤ ms) (hq : Q (some (.int v)) n h) : AW l D tc own cc nL (some .boolean) R n0 mc ms Q pc L [.int v] n h cells slots := by
  intro p e s m args below meth c H locs ls A ad ad0 X Y
  obtain ⟨hx, hb, hr, hml, hown, hts, hlocks, hK, hA⟩ := X
  obtain ⟨hn, had, hP, hD, hS, hL⟩ := Y
  refine W.widen hc hs ?_
  exact W.zret hx hb hr hn9 (fun t ht hW => ⟨⟨(some (.int v)), n, h, ad, rfl, hq, hn, had, by rw [ht]; exact hP, hD⟩, hS.F ht⟩) hS.2.2 d hlocks
theorem aw_lret {v : Int64} (d : decode cc pc = .ok (.lreturn, 1)) (hc : cells ≤ mc) (hs : slots ≤ ms) (hq : Q (some (.long v)) n h) : AW l D tc own cc nL (some .long) R n0 mc ms Q pc L [.long v] n h cells slots := by
  intro p e s m args below meth c H locs ls A ad ad0 X Y
  obtain ⟨hx, hb, hr, hml, hown, hts, hlocks, hK, hA⟩ := X
  obtain ⟨hn, had, hP, hD, hS, hL⟩ := Y
  refine W.widen hc hs ?_
  exact W.lret hx hb hr (fun t ht hW => ⟨⟨(some (.long v)), n, h, ad, rfl, hq, hn, had, by rw [ht]; exact hP, hD⟩, hS.F ht⟩) hS.2.2 d hlocks
theorem aw_vret  (d : decode cc pc = .ok (.return_, 1)) (hc : cells ≤ mc) (hs : slots ≤ ms) (hq : Q none n h) : AW l D tc own cc nL none R n0 mc ms Q pc L [] n h cells slots := by
  intro p e s m args below meth c H locs ls A ad ad0 X Y
  obtain ⟨hx, hb, hr, hml, hown, hts, hlocks, hK, hA⟩ := X
  obtain ⟨hn, had, hP, hD, hS, hL⟩ := Y
  refine W.widen hc hs ?_
  exact W.vret hx hb hr (fun t ht hW => ⟨⟨none, n, h, ad, rfl, hq, hn, had, by rw [ht]; exact hP, hD⟩, hS.F ht⟩) hS.2.2 d hlocks
theorem aw_aret {rt : FieldType} {v : Value} (d : decode cc pc = .ok (.areturn, 1)) (hrt : (∃ z, rt = .object z) ∨ ∃ t, rt = .array t) (hv : v = .null ∨ ∃ a, v = .ref a) (hc : cells ≤ mc) (hs : slots ≤ ms) (hq : Q (some v) n h) : AW l D tc own cc nL (some rt) R n0 mc ms Q pc L [v] n h cells slots := by
  intro p e s m args below meth c H locs ls A ad ad0 X Y
  obtain ⟨hx, hb, hr, hml, hown, hts, hlocks, hK, hA⟩ := X
  obtain ⟨hn, had, hP, hD, hS, hL⟩ := Y
  refine W.widen hc hs ?_
  exact W.aret (v := aw_mv ad v) hx hb hr hrt (by rcases hv with rfl | ⟨a, rfl⟩; exact Or.inl rfl; exact Or.inr ⟨_, rfl⟩) (fun t ht hW => ⟨⟨some v, n, h, ad, rfl, hq, hn, had, by rw [ht]; exact hP, hD⟩, hS.F ht⟩) hS.2.2 d hlocks
/-- a field of a reference's place: the tables' words of it -/
def aw_fd (own : String) (idx ci k : Nat) (C : String) (T : u_T) (N : Nat) : Prop := (∀ w ∈ u_ws C T N, w ∈ aw_gw) ∧ vwCl[ci]? = some (C, T, N) ∧ k < N ∧ Cond.fieldLink own idx (T k).1 (T k).2.1 (T k).2.2.1 ∈ aw_gw
theorem aw_get {o idx ci k0 : Nat} {C : String} {T : u_T} {N : Nat} {fs : List Value} {v : Value} (hf : aw_fd own idx ci k0 C T N) (d : decode cc pc = .ok (.getfield idx, 3)) (ho : o < n) (he : h o = .inr (ci, fs)) (hv : fs[k0]? = some v) (k : AW l D tc own cc nL ret R n0 mc ms Q (pc + 3) (L) (v :: rest) n h cells slots) : AW l D tc own cc nL ret R n0 mc ms Q (pc) (L) (.ref o :: rest) n h cells slots := by
  intro p e s m args below meth c H locs ls A ad ad0 X Y
  have hw := aw_ws_at (tc := tc) (ad := ad) (h := h) ho
  rw [he] at hw
  exact va_get X.1 X.2.1 X.2.2.2.2.2.1 hf.1 X.2.2.2.2.1 X.2.2.2.2.2.2.2.1.1 Y.2.2.1 o hw hf.2.1 k0 hf.2.2.1 (X.2.2.2.2.2.1 _ hf.2.2.2) (fun _ h9 => h9) (by rw [List.getElem?_map, hv]; rfl) d (k p e s m args below meth c H locs ls A ad ad0 X Y)
def aw_fp (own : String) (idx ci k : Nat) (C : String) (T : u_T) (N : Nat) (ty : FieldType) : Prop := aw_fd own idx ci k C T N ∧ (∃ ty0 : Nat → FieldType, ∀ k, k < N → parseFieldDescriptor (T k).2.2.1 = some (ty0 k)) ∧ (∀ a, a < N → ∀ b, b < N → a ≠ b → (T a).2.1 ≠ (T b).2.1) ∧ (T k).2.2.2 = false ∧ parseFieldDescriptor (T k).2.2.1 = some ty
theorem aw_put {o idx ci k0 : Nat} {C : String} {T : u_T} {N : Nat} {ty : FieldType} {fs : List Value} {x : Int32} {h' : aw_H} (hf : aw_fp own idx ci k0 C T N ty) (d : decode cc pc = .ok (.putfield idx, 3)) (ho : o < n) (he : h o = .inr (ci, fs)) (hn9 : narrow ty (.int x) = .int x) (hfit : fits ty (.int x) = true) (hl : k0 < fs.length) (hh : aw_up h o (.inr (ci, fs.set k0 (.int x))) = h') (k : AW l D tc own cc nL ret R n0 mc ms Q (pc + 3) L rest n h' cells slots) : AW l D tc own cc nL ret R n0 mc ms Q (pc) (L) (.int x :: .ref o :: rest) n h cells slots := by
  subst hh
  intro p e s m args below meth c H locs ls A ad ad0 X Y
  have hw := aw_ws_at (tc := tc) (ad := ad) (h := h) ho
  rw [he] at hw
  obtain ⟨hfd, ⟨ty0, hty⟩, hnm, hfin, hd⟩ := hf
  have hset : (aw_ws tc ad n h).set o (ad o, .inr (ci, (fs.map (aw_mv ad)).set k0 (.int x))) = aw_ws tc ad n (aw_up h o (.inr (ci, fs.set k0 (.int x)))) := by
    rw [← aw_ws_set]
    show _ = (aw_ws tc ad n h).set o (ad o, Sum.inr (ci, (fs.set k0 (.int x)).map (aw_mv ad)))
    rw [List.map_set]
    rfl
  refine va_put X.1 X.2.1 X.2.2.2.2.2.1 hfd.1 ty0 hty hnm X.2.2.2.2.1 X.2.2.2.2.2.2.2.1.1 Y.2.2.1 Y.2.2.2.1 Y.2.2.2.2.1 o hw hfd.2.1 k0 hfd.2.2.1 (X.2.2.2.2.2.1 _ hfd.2.2.2) (fun _ h9 => h9) hfin hd hn9 hfit (by rw [List.length_map]; exact hl) d (fun H1 locs1 hP1 hD1 hS1 => ?_)
  have hP1 := (show va_P D vwCl (aw_ws tc ad n _) H1 by rw [← hset]; exact hP1)
  have hD1 := (show va_D A (aw_ws tc ad n _) by rw [← hset]; exact hD1)
  exact k p e s m args below meth c H1 locs1 ls A ad ad0 X ⟨Y.1, Y.2.1, hP1, hD1, hS1, Y.2.2.2.2.2⟩
theorem aw_iald {o len : Nat} {f : Nat → Int32} {i : Int32} (d : decode cc pc = .ok (.iaload, 1)) (ho : o < n) (he : h o = .inl (0, len, .inl f)) (hin : vp_in i len) (k : AW l D tc own cc nL ret R n0 mc ms Q (pc + 1) (L) (.int (f i.toNatClampNeg) :: rest) n h cells slots) : AW l D tc own cc nL ret R n0 mc ms Q (pc) (L) (.int i :: .ref o :: rest) n h cells slots := by
  intro p e s m args below meth c H locs ls A ad ad0 X Y
  have hw := aw_ws_at (tc := tc) (ad := ad) (h := h) ho
  rw [he] at hw
  exact va_iald X.1 X.2.1 X.2.2.2.2.2.2.2.1.1 Y.2.2.1 o 0 hw rfl hin d (k p e s m args below meth c H locs ls A ad ad0 X Y)
theorem aw_zald {o len : Nat} {f : Nat → Int32} {i : Int32} (d : decode cc pc = .ok (.baload, 1)) (ho : o < n) (he : h o = .inl (1, len, .inl f)) (hin : vp_in i len) (k : AW l D tc own cc nL ret R n0 mc ms Q (pc + 1) (L) (.int (f i.toNatClampNeg) :: rest) n h cells slots) : AW l D tc own cc nL ret R n0 mc ms Q (pc) (L) (.int i :: .ref o :: rest) n h cells slots := by
  intro p e s m args below meth c H locs ls A ad ad0 X Y
  have hw := aw_ws_at (tc := tc) (ad := ad) (h := h) ho
  rw [he] at hw
  exact va_zald X.1 X.2.1 X.2.2.2.2.2.2.2.1.1 Y.2.2.1 o 1 hw rfl hin d (k p e s m args below meth c H locs ls A ad ad0 X Y)
theorem aw_iast {o len : Nat} {f : Nat → Int32} {i x : Int32} {h' : aw_H} (d : decode cc pc = .ok (.iastore, 1)) (ho : o < n) (he : h o = .inl (0, len, .inl f)) (hin : vp_in i len) (hh : aw_up h o (.inl (0, len, .inl (upd f i.toNatClampNeg x))) = h') (k : AW l D tc own cc nL ret R n0 mc ms Q (pc + 1) L rest n h' cells slots) : AW l D tc own cc nL ret R n0 mc ms Q (pc) (L) (.int x :: .int i :: .ref o :: rest) n h cells slots := by
  subst hh
  intro p e s m args below meth c H locs ls A ad ad0 X Y
  have hw := aw_ws_at (tc := tc) (ad := ad) (h := h) ho
  rw [he] at hw
  refine va_iast X.1 X.2.1 X.2.2.2.2.2.2.2.1.1 Y.2.2.1 Y.2.2.2.1 Y.2.2.2.2.1 o 0 hw rfl hin d (fun H1 locs1 hP1 hD1 hS1 => ?_)
  have hset : (aw_ws tc ad n h).set o (ad o, .inl (tc 0, len, .inl (upd f i.toNatClampNeg x))) = aw_ws tc ad n (aw_up h o (.inl (0, len, .inl (upd f i.toNatClampNeg x)))) := (aw_ws_set (e := .inl (0, len, .inl (upd f i.toNatClampNeg x))))
  have hP1 := (show va_P D vwCl (aw_ws tc ad n _) H1 by rw [← hset]; exact hP1)
  have hD1 := (show va_D A (aw_ws tc ad n _) by rw [← hset]; exact hD1)
  exact k p e s m args below meth c H1 locs1 ls A ad ad0 X ⟨Y.1, Y.2.1, hP1, hD1, hS1, Y.2.2.2.2.2⟩
theorem aw_zast {o len : Nat} {f : Nat → Int32} {i x : Int32} {h' : aw_H} (d : decode cc pc = .ok (.bastore, 1)) (ho : o < n) (he : h o = .inl (1, len, .inl f)) (hin : vp_in i len) (hh : aw_up h o (.inl (1, len, .inl (upd f i.toNatClampNeg (vp_nar .boolean x)))) = h') (k : AW l D tc own cc nL ret R n0 mc ms Q (pc + 1) L rest n h' cells slots) : AW l D tc own cc nL ret R n0 mc ms Q (pc) (L) (.int x :: .int i :: .ref o :: rest) n h cells slots := by
  subst hh
  intro p e s m args below meth c H locs ls A ad ad0 X Y
  have hw := aw_ws_at (tc := tc) (ad := ad) (h := h) ho
  rw [he] at hw
  refine va_zast X.1 X.2.1 X.2.2.2.2.2.2.2.1.1 Y.2.2.1 Y.2.2.2.1 Y.2.2.2.2.1 o 1 hw rfl hin d (fun H1 locs1 hP1 hD1 hS1 => ?_)
  have hset : (aw_ws tc ad n h).set o (ad o, .inl (tc 1, len, .inl (upd f i.toNatClampNeg (vp_nar .boolean x)))) = aw_ws tc ad n (aw_up h o (.inl (1, len, .inl (upd f i.toNatClampNeg (vp_nar .boolean x))))) := (aw_ws_set (e := .inl (1, len, .inl (upd f i.toNatClampNeg (vp_nar .boolean x)))))
  have hP1 := (show va_P D vwCl (aw_ws tc ad n _) H1 by rw [← hset]; exact hP1)
  have hD1 := (show va_D A (aw_ws tc ad n _) by rw [← hset]; exact hD1)
  exact k p e s m args below meth c H1 locs1 ls A ad ad0 X ⟨Y.1, Y.2.1, hP1, hD1, hS1, Y.2.2.2.2.2⟩
theorem aw_rf (ad : Nat → Nat) (r : Option Nat) : va_rf (r.map ad) = aw_mv ad (va_rf r) := by cases r <;> rfl
theorem aw_aald2 {o len : Nat} {f : Nat → Option Nat} {i : Int32} (d : decode cc pc = .ok (.aaload, 1)) (ho : o < n) (he : h o = .inl (2, len, .inr (.inr (.inr (.inr f))))) (hin : vp_in i len) (k : AW l D tc own cc nL ret R n0 mc ms Q (pc + 1) (L) (va_rf (f i.toNatClampNeg) :: rest) n h cells slots) : AW l D tc own cc nL ret R n0 mc ms Q (pc) (L) (.int i :: .ref o :: rest) n h cells slots := by
  intro p e s m args below meth c H locs ls A ad ad0 X Y
  have hw := aw_ws_at (tc := tc) (ad := ad) (h := h) ho
  rw [he] at hw
  refine va_aldq X.1 X.2.1 X.2.2.2.2.2.2.2.1.1 Y.2.2.1 o 2 (C := RX6) hw rfl hin d ?_
  show W _ _ _ _ _ _ _ _ _ _ _ _ _ _ _ (F0 m (pc + 1) ls (va_rf ((f i.toNatClampNeg).map ad) :: rest.map (aw_mv ad)))
  rw [aw_rf]
  exact (k p e s m args below meth c H locs ls A ad ad0 X Y)
theorem aw_aald3 {o len : Nat} {f : Nat → Option Nat} {i : Int32} (d : decode cc pc = .ok (.aaload, 1)) (ho : o < n) (he : h o = .inl (3, len, .inr (.inr (.inr (.inr f))))) (hin : vp_in i len) (k : AW l D tc own cc nL ret R n0 mc ms Q (pc + 1) (L) (va_rf (f i.toNatClampNeg) :: rest) n h cells slots) : AW l D tc own cc nL ret R n0 mc ms Q (pc) (L) (.int i :: .ref o :: rest) n h cells slots := by
  intro p e s m args below meth c H locs ls A ad ad0 X Y
  have hw := aw_ws_at (tc := tc) (ad := ad) (h := h) ho
  rw [he] at hw
  refine va_aldq X.1 X.2.1 X.2.2.2.2.2.2.2.1.1 Y.2.2.1 o 3 (C := RX3) hw rfl hin d ?_
  show W _ _ _ _ _ _ _ _ _ _ _ _ _ _ _ (F0 m (pc + 1) ls (va_rf ((f i.toNatClampNeg).map ad) :: rest.map (aw_mv ad)))
  rw [aw_rf]
  exact (k p e s m args below meth c H locs ls A ad ad0 X Y)
theorem aw_aald4 {o len : Nat} {f : Nat → Option Nat} {i : Int32} (d : decode cc pc = .ok (.aaload, 1)) (ho : o < n) (he : h o = .inl (4, len, .inr (.inr (.inr (.inr f))))) (hin : vp_in i len) (k : AW l D tc own cc nL ret R n0 mc ms Q (pc + 1) (L) (va_rf (f i.toNatClampNeg) :: rest) n h cells slots) : AW l D tc own cc nL ret R n0 mc ms Q (pc) (L) (.int i :: .ref o :: rest) n h cells slots := by
  intro p e s m args below meth c H locs ls A ad ad0 X Y
  have hw := aw_ws_at (tc := tc) (ad := ad) (h := h) ho
  rw [he] at hw
  have hlt : i.toNatClampNeg < len := Nat.not_le.mp fun q => hin (Or.inr q)
  refine W.aald (v := va_rf ((f i.toNatClampNeg).map ad)) (ty := .array .int) X.1 X.2.1 (Y.2.2.1 o _ hw) ((X.2.2.2.2.2.2.2.1.1.2 4 _ rfl).1 len (fun j => va_rf ((f j).map ad))) rfl (fun q => by cases q) (by show ¬ (i < 0 ∨ (arrV _ _ _).slots.size ≤ _); rw [arrV_size]; exact hin) (by show (arrV _ _ _).slots[_]? = _; rw [arrV_read _ _ hlt]) rfl rfl d ?_
  rw [aw_rf]
  exact (k p e s m args below meth c H locs ls A ad ad0 X Y)
theorem aw_alen {o len : Nat} {f : Nat → Int32} {v : Int32} (d : decode cc pc = .ok (.arraylength, 1)) (ho : o < n) (he : h o = .inl (0, len, .inl f)) (hv : Int32.ofNat len = v) (k : AW l D tc own cc nL ret R n0 mc ms Q (pc + 1) (L) (.int v :: rest) n h cells slots) : AW l D tc own cc nL ret R n0 mc ms Q (pc) (L) (.ref o :: rest) n h cells slots := by
  intro p e s m args below meth c H locs ls A ad ad0 X Y
  have hw := aw_ws_at (tc := tc) (ad := ad) (h := h) ho
  rw [he] at hw
  exact va_alen X.1 X.2.1 X.2.2.2.2.2.2.2.1.1 Y.2.2.1 o 0 hw rfl hv d (k p e s m args below meth c H locs ls A ad ad0 X Y)
end AWR
section AWC
variable {p : Program} {l : Launch} {e : Env} {R : Room} {s : State} {m : MethodId} {args args' : Array Value} {below : List Frame} {meth : Method} {c : Code} {H : Heap} {locs : List Loc} {cells slots mc' ms' : Nat} {QQ : State → Prop} {D : va_G} {tc : Nat → ClassId} {pc : Nat} {ls : Array Slot} {st0 rest' : List Value} {n : Nat} {ad : Nat → Nat} {A : Nat → Prop} {Q' : Option Value → Nat → aw_H → Prop}
theorem aw_cont (hr : va_Run p l e R s m args below meth c H locs cells slots mc' ms' (F0 m pc ls st0) rest' (aw_Q D tc n ad A Q' args') A) (hS : va_S A s.heap H locs)
    (kk : ∀ (v : Option Value) (n1 : Nat) (h1 : aw_H) (ad1 : Nat → Nat) (H1 : Heap) (locs1 : List Loc), Q' v n1 h1 → n ≤ n1 → (∀ k, ¬ (n ≤ k ∧ k < n1) → ad1 k = ad k) → va_P D vwCl (aw_ws tc ad1 n1 h1) H1 → va_D A (aw_ws tc ad1 n1 h1) → va_S A s.heap H1 locs1 →
      W p l e R s m args below meth c H1 locs1 (cells + mc') (slots + ms') QQ (F0 m (pc + 3) ls ((v.map (aw_mv ad1)).toList ++ rest'))) : W p l e R s m args below meth c H locs cells slots QQ (F0 m pc ls st0) := by
  intro T hT X
  obtain ⟨v, st₀, t, T', L, h0, X', hL, e1, e2, ⟨⟨v', n1, h1, ad1, hv, hq, hn, had, hP, hD⟩, hz, hk⟩, st⟩ := hr T hT X
  cases hv
  rw [h0] at hz hk
  obtain ⟨t2, a1, b1⟩ := kk v' n1 h1 ad1 T'.heap (locs ++ L) hq hn had (by rw [e1]; exact hP) hD
    ⟨Nat.le_trans hS.1 (by rw [e1]; exact hz), fun q g1 g2 => by rw [e1, hk q (Nat.lt_of_lt_of_le g1 hS.1) g2]; exact hS.2.1 q g1 g2, fun q hq => by
      rcases List.mem_append.mp hq with g | g
      · exact hS.2.2 q g
      · exact hL q g⟩ T' rfl X'
  exact ⟨t2, st t2 a1, b1⟩
end AWC
section AWK
variable {l : Launch} {D : va_G} {tc : Nat → ClassId} {own : String} {cc : ByteArray} {nL : Nat} {ret : Option FieldType} {R : Room} {n0 mc ms : Nat} {Q : Option Value → Nat → aw_H → Prop} {pc : Nat} {L : List (Option Value)} {st rest : List Value} {n : Nat} {h : aw_H} {cells slots : Nat}
/-- the words of a method that is called -/
def aw_cw (y : MethodName) (cc' : ByteArray) (nL' : Nat) (ret' : Option FieldType) (nA : Nat) : Prop := Cond.initialized y.cls ∈ aw_gw ∧ Cond.code y cc' nL' ret' ∈ aw_gw ∧ y.cls ≠ "java/lang/invoke/MethodHandle" ∧ y.cls ≠ "java/lang/invoke/VarHandle" ∧ (parseMethodDescriptor y.desc).map (fun d => d.parameters.length) = some nA
theorem aw_cats (ad : Nat → Nat) (r : List Value) : ((r.map (aw_mv ad)).map fun v => v.category) = r.map fun v => v.category := by
  rw [List.map_map]
  exact List.map_congr_left (fun v _ => aw_mv_cat ad v)
theorem aw_stk (ad : Nat → Nat) (v : Option Value) (r : List Value) : (v.map (aw_mv ad)).toList ++ r.map (aw_mv ad) = (v.toList ++ r).map (aw_mv ad) := by cases v <;> simp
theorem aw_callS {y : MethodName} {cc' : ByteArray} {nL' nA fr' lo' idx : Nat} {ret' : Option FieldType} {Q' : Option Value → aw_H → Prop} {av : List Value} (hcw : aw_cw y cc' nL' ret' nA) (hl : Cond.methodLink own idx y ∈ aw_gw) (hs : Cond.static y ∈ aw_gw) (hM : AM l D tc y cc' nL' ret' fr' lo' 0 0 av n h (fun v n1 h1 => n1 = n ∧ Q' v h1)) (hR : fr' + 1 ≤ R.frames ∧ 8 + (nL' + 11) + lo' ≤ R.locals) (hc : cells ≤ R.cells ∧ slots ≤ R.slots) (hn : av.length = nA) (hst : av.reverse ++ rest = st) (hw : (rest.map fun v => v.category).sum ≤ 8) (d : decode cc pc = .ok (.invokestatic idx, 3)) (k : ∀ (v : Option Value) (h1 : aw_H), Q' v h1 → AW l D tc own cc nL ret R n0 mc ms Q (pc + 3) L (v.toList ++ rest) n h1 cells slots) : AW l D tc own cc nL ret R n0 mc ms Q (pc) (L) (st) n h cells slots := by
  subst hst
  intro p e s m args below meth c H locs ls A ad ad0 X Y
  obtain ⟨hx, hb, hr0, hml, hown, hts, hlk, hK, hA⟩ := id X
  obtain ⟨hn0, had, hP, hD, hS, hL⟩ := Y
  obtain ⟨w3, w4, g1, g2, g3⟩ := hcw
  have hM' := hM ad A H.size (fun q hq => hA q (Nat.le_trans hS.1 hq))
  have hB := callB_of (R := R) (own := own) (index := idx) (mc := 0) (ms := 0) (rm := { frames := fr', cells := 0, slots := 0, locals := lo' }) nA hts (aw_good w4) rfl rfl rfl (hts _ w3) (hts _ hl) ⟨g1, g2, g3⟩ hR
  have hr := va_runS (R := R) (e := e) (below := below) (meth := meth) (locs := locs) (cells := cells) (slots := slots) (As := av.map (aw_mv ad)) (rest := rest.map (aw_mv ad)) (g := F0 m pc ls ((av.reverse ++ rest).map (aw_mv ad))) ⟨hx, hb, hml, hown, hts⟩ hM' ⟨hB, hts _ hs⟩ ⟨aw_blind, fun U hU hW => ⟨rfl, by rw [hU], aw_K.warm hW hK, by rw [hU]; exact hP, hD⟩⟩ rfl (by rw [List.length_map]; exact hn) hL.1 (by simp [List.map_reverse]) (lv_room (by rw [aw_cats]; exact hw)) d ⟨hc.1, hc.2⟩
  refine aw_cont hr hS (fun v n1 h1 ad1 H1 locs1 hq hn1 had1 hP1 hD1 hS1 => ?_)
  obtain ⟨e9, hq⟩ := hq
  subst e9
  have e8 : ad1 = ad := funext fun k9 => had1 k9 (fun q => by omega)
  subst e8
  rw [aw_stk]
  exact k v h1 hq p e s m args below meth c H1 locs1 ls A ad1 ad0 X ⟨hn0, had, hP1, hD1, hS1, hL⟩
theorem aw_callSN {y : MethodName} {cc' : ByteArray} {nL' nA fr' lo' idx : Nat} {ret' : Option FieldType} {Q' : Option Value → aw_H → Prop} {av : List Value} {host : String} (hcw : aw_cw y cc' nL' ret' nA) (hl : Cond.methodLinkNest own idx y host ∈ aw_nw) (hs : Cond.static y ∈ aw_gw) (hM : AM l D tc y cc' nL' ret' fr' lo' 0 0 av n h (fun v n1 h1 => n1 = n ∧ Q' v h1)) (hR : fr' + 1 ≤ R.frames ∧ 8 + (nL' + 11) + lo' ≤ R.locals) (hc : cells ≤ R.cells ∧ slots ≤ R.slots) (hn : av.length = nA) (hst : av.reverse ++ rest = st) (hw : (rest.map fun v => v.category).sum ≤ 8) (d : decode cc pc = .ok (.invokestatic idx, 3)) (k : ∀ (v : Option Value) (h1 : aw_H), Q' v h1 → AW l D tc own cc nL ret R n0 mc ms Q (pc + 3) L (v.toList ++ rest) n h1 cells slots) : AW l D tc own cc nL ret R n0 mc ms Q (pc) (L) (st) n h cells slots := by
  subst hst
  intro p e s m args below meth c H locs ls A ad ad0 X Y
  obtain ⟨hx, hb, hr0, hml, hown, hts, hlk, hK, hA⟩ := id X
  obtain ⟨hn0, had, hP, hD, hS, hL⟩ := Y
  obtain ⟨w3, w4, g1, g2, g3⟩ := hcw
  have hM' := hM ad A H.size (fun q hq => hA q (Nat.le_trans hS.1 hq))
  have hB := va_cnB (R := R) (own := own) (index := idx) (host := host) (mc := 0) (ms := 0) (rm := { frames := fr', cells := 0, slots := 0, locals := lo' }) nA hts (aw_good w4) rfl rfl rfl (hK.2.1 _ hl) (hts _ w3) ⟨g1, g2, g3⟩ hR
  have hr := va_runSN (R := R) (e := e) (below := below) (meth := meth) (locs := locs) (cells := cells) (slots := slots) (As := av.map (aw_mv ad)) (rest := rest.map (aw_mv ad)) (g := F0 m pc ls ((av.reverse ++ rest).map (aw_mv ad))) ⟨hx, hb, hml, hown, hts⟩ hM' ⟨hB, hts _ hs, trivial⟩ ⟨aw_blind, fun U hU hW => ⟨rfl, by rw [hU], aw_K.warm hW hK, by rw [hU]; exact hP, hD⟩⟩ rfl (by rw [List.length_map]; exact hn) hL.1 (by simp [List.map_reverse]) (lv_room (by rw [aw_cats]; exact hw)) d ⟨hc.1, hc.2⟩
  refine aw_cont hr hS (fun v n1 h1 ad1 H1 locs1 hq hn1 had1 hP1 hD1 hS1 => ?_)
  obtain ⟨e9, hq⟩ := hq
  subst e9
  have e8 : ad1 = ad := funext fun k9 => had1 k9 (fun q => by omega)
  subst e8
  rw [aw_stk]
  exact k v h1 hq p e s m args below meth c H1 locs1 ls A ad1 ad0 X ⟨hn0, had, hP1, hD1, hS1, hL⟩
theorem aw_callV {y : MethodName} {cc' : ByteArray} {nL' nA fr' lo' idx : Nat} {ret' : Option FieldType} {Q' : Option Value → aw_H → Prop} {av : List Value} {o ci : Nat} {C : String} {T : u_T} {N : Nat} {fs : List Value} (hcw : aw_cw y cc' nL' ret' nA) (hl : Cond.methodLink own idx y ∈ aw_gw) (hi : Cond.instanceMethod y ∈ aw_gw) (hs : Cond.selects C y y ∈ aw_gw) (hcl : vwCl[ci]? = some (C, T, N)) (ho : o < n) (he : h o = .inr (ci, fs)) (hM : AM l D tc y cc' nL' ret' fr' lo' 0 0 (.ref o :: av) n h (fun v n1 h1 => n1 = n ∧ Q' v h1)) (hR : fr' + 1 ≤ R.frames ∧ 8 + (nL' + 11) + lo' ≤ R.locals) (hc : cells ≤ R.cells ∧ slots ≤ R.slots) (hn : av.length = nA) (hst : av.reverse ++ .ref o :: rest = st) (hw : (rest.map fun v => v.category).sum ≤ 8) (d : decode cc pc = .ok (.invokevirtual idx, 3)) (k : ∀ (v : Option Value) (h1 : aw_H), Q' v h1 → AW l D tc own cc nL ret R n0 mc ms Q (pc + 3) L (v.toList ++ rest) n h1 cells slots) : AW l D tc own cc nL ret R n0 mc ms Q (pc) (L) (st) n h cells slots := by
  subst hst
  intro p e s m args below meth c H locs ls A ad ad0 X Y
  obtain ⟨hx, hb, hr0, hml, hown, hts, hlk, hK, hA⟩ := id X
  obtain ⟨hn0, had, hP, hD, hS, hL⟩ := Y
  obtain ⟨w3, w4, g1, g2, g3⟩ := hcw
  have hM' := hM ad A H.size (fun q hq => hA q (Nat.le_trans hS.1 hq))
  have hw9 := aw_ws_at (tc := tc) (ad := ad) (h := h) ho
  rw [he] at hw9
  have hB := callB_of (R := R) (own := own) (index := idx) (mc := 0) (ms := 0) (rm := { frames := fr', cells := 0, slots := 0, locals := lo' }) nA hts (aw_good w4) rfl rfl rfl (hts _ w3) (hts _ hl) ⟨g1, g2, g3⟩ hR
  have hr := va_runV (C := C) (b := ad o) (R := R) (e := e) (below := below) (meth := meth) (locs := locs) (cells := cells) (slots := slots) (As := av.map (aw_mv ad)) (rest := rest.map (aw_mv ad)) (g := F0 m pc ls ((av.reverse ++ .ref o :: rest).map (aw_mv ad))) ⟨hx, hb, hml, hown, hts⟩ hM' ⟨hB, hts _ hi, hts _ hs⟩ ⟨aw_blind, va_recv hK.1 hP hcl hw9, fun U hU hW => ⟨rfl, by rw [hU], aw_K.warm hW hK, by rw [hU]; exact hP, hD⟩⟩ rfl (by rw [List.length_map]; exact hn) hL.1 (by simp [List.map_reverse, aw_mv]) (lv_room (by rw [aw_cats]; exact hw)) d ⟨hc.1, hc.2⟩
  refine aw_cont hr hS (fun v n1 h1 ad1 H1 locs1 hq hn1 had1 hP1 hD1 hS1 => ?_)
  obtain ⟨e9, hq⟩ := hq
  subst e9
  have e8 : ad1 = ad := funext fun k9 => had1 k9 (fun q => by omega)
  subst e8
  rw [aw_stk]
  exact k v h1 hq p e s m args below meth c H1 locs1 ls A ad1 ad0 X ⟨hn0, had, hP1, hD1, hS1, hL⟩
/-- a call whose named method x is another than the one y that runs (owner: who declares x) -/
theorem aw_callO {y : MethodName} {cc' : ByteArray} {nL' nA fr' lo' idx : Nat} {ret' : Option FieldType} {Q' : Option Value → aw_H → Prop} {x : MethodName} {owner : String} {b0 : ByteArray} {m0 : Nat} {r0 : Option FieldType} {av : List Value} {o ci : Nat} {C : String} {T : u_T} {N : Nat} {fs : List Value} (hcw : aw_cw y cc' nL' ret' nA) (hl : Cond.methodLink own idx x ∈ aw_gw) (hsm : Cond.sameMethod x.cls owner x.name x.desc ∈ aw_gw) (hi0 : Cond.instanceMethod ⟨owner, x.name, x.desc⟩ ∈ aw_gw) (h0 : Cond.code ⟨owner, x.name, x.desc⟩ b0 m0 r0 ∈ aw_gw) (hi : Cond.instanceMethod y ∈ aw_gw) (hs : Cond.selects C x y ∈ aw_gw) (ho1 : owner ≠ "java/lang/invoke/MethodHandle" ∧ owner ≠ "java/lang/invoke/VarHandle" ∧ (parseMethodDescriptor x.desc).map (fun d => d.parameters.length) = some nA) (hcl : vwCl[ci]? = some (C, T, N)) (ho : o < n) (he : h o = .inr (ci, fs)) (hM : AM l D tc y cc' nL' ret' fr' lo' 0 0 (.ref o :: av) n h (fun v n1 h1 => n1 = n ∧ Q' v h1)) (hR : fr' + 1 ≤ R.frames ∧ 8 + (nL' + 11) + lo' ≤ R.locals) (hc : cells ≤ R.cells ∧ slots ≤ R.slots) (hn : av.length = nA) (hst : av.reverse ++ .ref o :: rest = st) (hw : (rest.map fun v => v.category).sum ≤ 8) (d : decode cc pc = .ok (.invokevirtual idx, 3)) (k : ∀ (v : Option Value) (h1 : aw_H), Q' v h1 → AW l D tc own cc nL ret R n0 mc ms Q (pc + 3) L (v.toList ++ rest) n h1 cells slots) : AW l D tc own cc nL ret R n0 mc ms Q (pc) (L) (st) n h cells slots := by
  subst hst
  intro p e s m args below meth c H locs ls A ad ad0 X Y
  obtain ⟨hx, hb, hr0, hml, hown, hts, hlk, hK, hA⟩ := id X
  obtain ⟨hn0, had, hP, hD, hS, hL⟩ := Y
  obtain ⟨w3, w4, g1, g2, g3⟩ := hcw
  have hM' := hM ad A H.size (fun q hq => hA q (Nat.le_trans hS.1 hq))
  have hw9 := aw_ws_at (tc := tc) (ad := ad) (h := h) ho
  rw [he] at hw9
  have hG : GoodIn aw_gw (va_wsO own idx C owner x y (Cond.code y cc' nL' ret' :: aw_gw)) := by
    intro w hw1
    have hm : w ∈ aw_gw := by
      unfold va_wsO at hw1
      simp only [List.cons_append, List.nil_append, List.mem_cons] at hw1
      rcases hw1 with rfl | rfl | rfl | rfl | rfl | rfl | rfl | hw1
      all_goals assumption
    exact ⟨hm, good_of_word (List.mem_filter.mp hm).2⟩
  have hB := va_cwO (R := R) (own := own) (index := idx) (C := C) (owner := owner) (x := x) (y := y) (mc := 0) (ms := 0) (rm := { frames := fr', cells := 0, slots := 0, locals := lo' }) nA hts hG rfl rfl rfl h0 ho1 hR
  have hr := va_runU (C := C) (b := ad o) (R := R) (e := e) (below := below) (meth := meth) (locs := locs) (cells := cells) (slots := slots) (As := av.map (aw_mv ad)) (rest := rest.map (aw_mv ad)) (g := F0 m pc ls ((av.reverse ++ .ref o :: rest).map (aw_mv ad))) ⟨hx, hb, hml, hown, hts⟩ hM' hB ⟨aw_blind, va_recv hK.1 hP hcl hw9, fun U hU hW => ⟨rfl, by rw [hU], aw_K.warm hW hK, by rw [hU]; exact hP, hD⟩⟩ rfl (by rw [List.length_map]; exact hn) hL.1 (by simp [List.map_reverse, aw_mv]) (lv_room (by rw [aw_cats]; exact hw)) d ⟨hc.1, hc.2⟩
  refine aw_cont hr hS (fun v n1 h1 ad1 H1 locs1 hq hn1 had1 hP1 hD1 hS1 => ?_)
  obtain ⟨e9, hq⟩ := hq
  subst e9
  have e8 : ad1 = ad := funext fun k9 => had1 k9 (fun q => by omega)
  subst e8
  rw [aw_stk]
  exact k v h1 hq p e s m args below meth c H1 locs1 ls A ad1 ad0 X ⟨hn0, had, hP1, hD1, hS1, hL⟩
end AWK
end
section
theorem sl_X8_X8_sheetAt : Cond.selects RX8 yX8_sheetAt yX8_sheetAt ∈ aw_gw := aw_at 0 (by decide +kernel) (by decide +kernel)
theorem sl_X8_X8_faulted : Cond.selects RX8 yX8_faulted yX8_faulted ∈ aw_gw := aw_at 1 (by decide +kernel) (by decide +kernel)
theorem sl_X8_X8_takeText : Cond.selects RX8 yX8_takeText yX8_takeText ∈ aw_gw := aw_at 2 (by decide +kernel) (by decide +kernel)
theorem sl_X8_X8_everybody : Cond.selects RX8 yX8_everybody yX8_everybody ∈ aw_gw := aw_at 3 (by decide +kernel) (by decide +kernel)
theorem sl_X8_X8_personAt : Cond.selects RX8 yX8_personAt yX8_personAt ∈ aw_gw := aw_at 4 (by decide +kernel) (by decide +kernel)
theorem sl_X8_X8_mayGo : Cond.selects RX8 yX8_mayGo yX8_mayGo ∈ aw_gw := aw_at 5 (by decide +kernel) (by decide +kernel)
theorem sl_X8_X8_maysNow : Cond.selects RX8 yX8_maysNow yX8_maysNow ∈ aw_gw := aw_at 6 (by decide +kernel) (by decide +kernel)
theorem sl_X2_X2_goesRound : Cond.selects RX2 yX2_goesRound yX2_goesRound ∈ aw_gw := aw_at 7 (by decide +kernel) (by decide +kernel)
theorem sl_X8_X8_areTwo : Cond.selects RX8 yX8_areTwo yX8_areTwo ∈ aw_gw := aw_at 8 (by decide +kernel) (by decide +kernel)
theorem sl_X8_X8_allNameSomebody : Cond.selects RX8 yX8_allNameSomebody yX8_allNameSomebody ∈ aw_gw := aw_at 9 (by decide +kernel) (by decide +kernel)
theorem sl_X8_X8_callsTold : Cond.selects RX8 yX8_callsTold yX8_callsTold ∈ aw_gw := aw_at 10 (by decide +kernel) (by decide +kernel)
theorem sl_X8_X8_howManyGoOn : Cond.selects RX8 yX8_howManyGoOn yX8_howManyGoOn ∈ aw_gw := aw_at 11 (by decide +kernel) (by decide +kernel)
theorem sl_X8_X8_lossOfOrder : Cond.selects RX8 yX8_lossOfOrder yX8_lossOfOrder ∈ aw_gw := aw_at 12 (by decide +kernel) (by decide +kernel)
theorem sl_X8_X8_hasteOf : Cond.selects RX8 yX8_hasteOf yX8_hasteOf ∈ aw_gw := aw_at 13 (by decide +kernel) (by decide +kernel)
theorem sl_X8_X8_leastLoss : Cond.selects RX8 yX8_leastLoss yX8_leastLoss ∈ aw_gw := aw_at 14 (by decide +kernel) (by decide +kernel)
theorem sl_X0_X0_mostGroups : Cond.selects RX0 yX0_mostGroups yX0_mostGroups ∈ aw_gw := aw_at 15 (by decide +kernel) (by decide +kernel)
theorem sl_X6_X6_cut : Cond.selects RX6 yX6_cut yX6_cut ∈ aw_gw := aw_at 16 (by decide +kernel) (by decide +kernel)
theorem sl_X9_X9_against : Cond.selects RX9 yX9_against yX9_against ∈ aw_gw := aw_at 17 (by decide +kernel) (by decide +kernel)
theorem sl_X9_X9_fails : Cond.selects RX9 yX9_fails yX9_fails ∈ aw_gw := aw_at 18 (by decide +kernel) (by decide +kernel)
theorem sl_X9_X9_readLine : Cond.selects RX9 yX9_readLine yX9_readLine ∈ aw_gw := aw_at 19 (by decide +kernel) (by decide +kernel)
theorem sl_X9_X9_isSign : Cond.selects RX9 yX9_isSign yX9_isSign ∈ aw_gw := aw_at 20 (by decide +kernel) (by decide +kernel)
theorem sl_X9_X9_digit : Cond.selects RX9 yX9_digit yX9_digit ∈ aw_gw := aw_at 21 (by decide +kernel) (by decide +kernel)
theorem sl_X9_X9_readPerson : Cond.selects RX9 yX9_readPerson yX9_readPerson ∈ aw_gw := aw_at 22 (by decide +kernel) (by decide +kernel)
theorem sl_X9_X9_takeLine : Cond.selects RX9 yX9_takeLine yX9_takeLine ∈ aw_gw := aw_at 23 (by decide +kernel) (by decide +kernel)
theorem sl_X9_X9_isPerson : Cond.selects RX9 yX9_isPerson yX9_isPerson ∈ aw_gw := aw_at 24 (by decide +kernel) (by decide +kernel)
theorem sl_X9_X9_wouldOf : Cond.selects RX9 yX9_wouldOf yX9_wouldOf ∈ aw_gw := aw_at 25 (by decide +kernel) (by decide +kernel)
theorem sl_X9_X9_mayOf : Cond.selects RX9 yX9_mayOf yX9_mayOf ∈ aw_gw := aw_at 26 (by decide +kernel) (by decide +kernel)
theorem sl_X9_X9_sumOf : Cond.selects RX9 yX9_sumOf yX9_sumOf ∈ aw_gw := aw_at 27 (by decide +kernel) (by decide +kernel)
theorem sl_X9_X9_callOf : Cond.selects RX9 yX9_callOf yX9_callOf ∈ aw_gw := aw_at 28 (by decide +kernel) (by decide +kernel)
theorem sl_X9_X9_areTwo : Cond.selects RX9 yX9_areTwo yX9_areTwo ∈ aw_gw := aw_at 29 (by decide +kernel) (by decide +kernel)
theorem sl_X9_X9_goCalls : Cond.selects RX9 yX9_goCalls yX9_goCalls ∈ aw_gw := aw_at 30 (by decide +kernel) (by decide +kernel)
theorem sl_X9_X9_wouldGoOn : Cond.selects RX9 yX9_wouldGoOn yX9_wouldGoOn ∈ aw_gw := aw_at 31 (by decide +kernel) (by decide +kernel)
theorem sl_X9_X9_findOrder : Cond.selects RX9 yX9_findOrder yX9_findOrder ∈ aw_gw := aw_at 32 (by decide +kernel) (by decide +kernel)
theorem sl_X9_X9_leastLoss : Cond.selects RX9 yX9_leastLoss yX9_leastLoss ∈ aw_gw := aw_at 33 (by decide +kernel) (by decide +kernel)
theorem sl_X9_X9_balanceOf : Cond.selects RX9 yX9_balanceOf yX9_balanceOf ∈ aw_gw := aw_at 34 (by decide +kernel) (by decide +kernel)
theorem sl_X9_X9_mostGroups : Cond.selects RX9 yX9_mostGroups yX9_mostGroups ∈ aw_gw := aw_at 35 (by decide +kernel) (by decide +kernel)
theorem sl_X9_X9_isEven : Cond.selects RX9 yX9_isEven yX9_isEven ∈ aw_gw := aw_at 36 (by decide +kernel) (by decide +kernel)
theorem sl_X9_X9_areSo : Cond.selects RX9 yX9_areSo yX9_areSo ∈ aw_gw := aw_at 37 (by decide +kernel) (by decide +kernel)
theorem sl_X9_X9_lost : Cond.selects RX9 yX9_lost yX9_lost ∈ aw_gw := aw_at 38 (by decide +kernel) (by decide +kernel)
theorem sl_X9_X9_begins : Cond.selects RX9 yX9_begins yX9_begins ∈ aw_gw := aw_at 39 (by decide +kernel) (by decide +kernel)
theorem in_L : Cond.initialized RL ∈ aw_gw := aw_at 40 (by decide +kernel) (by decide +kernel)
theorem in_X8 : Cond.initialized RX8 ∈ aw_gw := aw_at 41 (by decide +kernel) (by decide +kernel)
theorem in_X2 : Cond.initialized RX2 ∈ aw_gw := aw_at 42 (by decide +kernel) (by decide +kernel)
theorem in_X0 : Cond.initialized RX0 ∈ aw_gw := aw_at 43 (by decide +kernel) (by decide +kernel)
theorem in_X5 : Cond.initialized RX5 ∈ aw_gw := aw_at 44 (by decide +kernel) (by decide +kernel)
theorem in_X7 : Cond.initialized RX7 ∈ aw_gw := aw_at 45 (by decide +kernel) (by decide +kernel)
theorem in_X6 : Cond.initialized RX6 ∈ aw_gw := aw_at 46 (by decide +kernel) (by decide +kernel)
theorem in_X9 : Cond.initialized RX9 ∈ aw_gw := aw_at 47 (by decide +kernel) (by decide +kernel)
theorem in_J9 : Cond.initialized RJ9 ∈ aw_gw := aw_at 48 (by decide +kernel) (by decide +kernel)
theorem in_X3 : Cond.initialized RX3 ∈ aw_gw := aw_at 49 (by decide +kernel) (by decide +kernel)
theorem in_X4 : Cond.initialized RX4 ∈ aw_gw := aw_at 50 (by decide +kernel) (by decide +kernel)
theorem in_X1 : Cond.initialized RX1 ∈ aw_gw := aw_at 51 (by decide +kernel) (by decide +kernel)
theorem in_J6 : Cond.initialized RJ6 ∈ aw_gw := aw_at 52 (by decide +kernel) (by decide +kernel)
theorem in_J10 : Cond.initialized RJ10 ∈ aw_gw := aw_at 53 (by decide +kernel) (by decide +kernel)
theorem cl_L_7 : Cond.classLink RL 7 RX8 ∈ aw_gw := aw_at 54 (by decide +kernel) (by decide +kernel)
theorem it_X8 : Cond.instantiable RX8 12 ∈ aw_gw := aw_at 55 (by decide +kernel) (by decide +kernel)
theorem ml_L_9 : Cond.methodLink RL 9 yX8_init ∈ aw_gw := aw_at 56 (by decide +kernel) (by decide +kernel)
theorem im_X8_init : Cond.instanceMethod yX8_init ∈ aw_gw := aw_at 57 (by decide +kernel) (by decide +kernel)
theorem ml_X8_3 : Cond.methodLink RX8 3 objectInit ∈ aw_gw := aw_at 59 (by decide +kernel) (by decide +kernel)
theorem im_objectInit : Cond.instanceMethod objectInit ∈ aw_gw := aw_at 60 (by decide +kernel) (by decide +kernel)
theorem cl_X8_11 : Cond.classLink RX8 11 RX6 ∈ aw_gw := aw_at 62 (by decide +kernel) (by decide +kernel)
theorem cl_X8_17 : Cond.classLink RX8 17 RX3 ∈ aw_gw := aw_at 64 (by decide +kernel) (by decide +kernel)
theorem cl_X8_27 : Cond.classLink RX8 27 RX2 ∈ aw_gw := aw_at 66 (by decide +kernel) (by decide +kernel)
theorem it_X2 : Cond.instantiable RX2 5 ∈ aw_gw := aw_at 67 (by decide +kernel) (by decide +kernel)
theorem im_X2_init : Cond.instanceMethod yX2_init ∈ aw_gw := aw_at 69 (by decide +kernel) (by decide +kernel)
theorem ml_X2_3 : Cond.methodLink RX2 3 objectInit ∈ aw_gw := aw_at 71 (by decide +kernel) (by decide +kernel)
theorem fl_X2_9 : Cond.fieldLink RX2 9 "StepBack$Lift" "whoWent" "[I" ∈ aw_gw := aw_at 72 (by decide +kernel) (by decide +kernel)
theorem fl_X8_177 : Cond.fieldLink RX8 177 "StepBack$Lift" "whoWent" "[I" ∈ aw_gw := aw_at 73 (by decide +kernel) (by decide +kernel)
theorem fl_X2_15 : Cond.fieldLink RX2 15 "StepBack$Lift" "stepsGone" "[I" ∈ aw_gw := aw_at 74 (by decide +kernel) (by decide +kernel)
theorem fl_X8_180 : Cond.fieldLink RX8 180 "StepBack$Lift" "stepsGone" "[I" ∈ aw_gw := aw_at 75 (by decide +kernel) (by decide +kernel)
theorem fl_X2_18 : Cond.fieldLink RX2 18 "StepBack$Lift" "far" "I" ∈ aw_gw := aw_at 76 (by decide +kernel) (by decide +kernel)
theorem fl_X8_143 : Cond.fieldLink RX8 143 "StepBack$Lift" "far" "I" ∈ aw_gw := aw_at 77 (by decide +kernel) (by decide +kernel)
theorem fl_X2_22 : Cond.fieldLink RX2 22 "StepBack$Lift" "head" "I" ∈ aw_gw := aw_at 78 (by decide +kernel) (by decide +kernel)
theorem fl_X2_25 : Cond.fieldLink RX2 25 "StepBack$Lift" "second" "I" ∈ aw_gw := aw_at 79 (by decide +kernel) (by decide +kernel)
theorem fl_X8_140 : Cond.fieldLink RX8 140 "StepBack$Lift" "second" "I" ∈ aw_gw := aw_at 80 (by decide +kernel) (by decide +kernel)
theorem su_X2 : Cond.superclass RX2 "java/lang/Object" ∈ aw_gw := aw_at 91 (by decide +kernel) (by decide +kernel)
theorem cl_X8_34 : Cond.classLink RX8 34 RX0 ∈ aw_gw := aw_at 93 (by decide +kernel) (by decide +kernel)
theorem it_X0 : Cond.instantiable RX0 3 ∈ aw_gw := aw_at 94 (by decide +kernel) (by decide +kernel)
theorem im_X0_init : Cond.instanceMethod yX0_init ∈ aw_gw := aw_at 96 (by decide +kernel) (by decide +kernel)
theorem ml_X0_3 : Cond.methodLink RX0 3 objectInit ∈ aw_gw := aw_at 98 (by decide +kernel) (by decide +kernel)
theorem cl_X0_9 : Cond.classLink RX0 9 "[[I" ∈ aw_gw := aw_at 99 (by decide +kernel) (by decide +kernel)
theorem fl_X0_11 : Cond.fieldLink RX0 11 "StepBack$Debts" "owed" "[[I" ∈ aw_gw := aw_at 101 (by decide +kernel) (by decide +kernel)
theorem fl_X0_16 : Cond.fieldLink RX0 16 "StepBack$Debts" "balances" "[I" ∈ aw_gw := aw_at 102 (by decide +kernel) (by decide +kernel)
theorem fl_X0_20 : Cond.fieldLink RX0 20 "StepBack$Debts" "groups" "[I" ∈ aw_gw := aw_at 103 (by decide +kernel) (by decide +kernel)
theorem su_X0 : Cond.superclass RX0 "java/lang/Object" ∈ aw_gw := aw_at 110 (by decide +kernel) (by decide +kernel)
theorem cl_X8_41 : Cond.classLink RX8 41 RX5 ∈ aw_gw := aw_at 111 (by decide +kernel) (by decide +kernel)
theorem it_X5 : Cond.instantiable RX5 4 ∈ aw_gw := aw_at 112 (by decide +kernel) (by decide +kernel)
theorem im_X5_init : Cond.instanceMethod yX5_init ∈ aw_gw := aw_at 114 (by decide +kernel) (by decide +kernel)
theorem ml_X5_3 : Cond.methodLink RX5 3 objectInit ∈ aw_gw := aw_at 116 (by decide +kernel) (by decide +kernel)
theorem fl_X5_9 : Cond.fieldLink RX5 9 "StepBack$Readings" "who" "[I" ∈ aw_gw := aw_at 117 (by decide +kernel) (by decide +kernel)
theorem fl_X5_15 : Cond.fieldLink RX5 15 "StepBack$Readings" "far" "[I" ∈ aw_gw := aw_at 118 (by decide +kernel) (by decide +kernel)
theorem fl_X5_18 : Cond.fieldLink RX5 18 "StepBack$Readings" "on" "[Z" ∈ aw_gw := aw_at 119 (by decide +kernel) (by decide +kernel)
theorem fl_X5_22 : Cond.fieldLink RX5 22 "StepBack$Readings" "count" "I" ∈ aw_gw := aw_at 120 (by decide +kernel) (by decide +kernel)
theorem fl_X8_202 : Cond.fieldLink RX8 202 "StepBack$Readings" "count" "I" ∈ aw_gw := aw_at 121 (by decide +kernel) (by decide +kernel)
theorem su_X5 : Cond.superclass RX5 "java/lang/Object" ∈ aw_gw := aw_at 130 (by decide +kernel) (by decide +kernel)
theorem cl_X8_48 : Cond.classLink RX8 48 RX7 ∈ aw_gw := aw_at 132 (by decide +kernel) (by decide +kernel)
theorem it_X7 : Cond.instantiable RX7 1 ∈ aw_gw := aw_at 133 (by decide +kernel) (by decide +kernel)
theorem im_X7_init : Cond.instanceMethod yX7_init ∈ aw_gw := aw_at 135 (by decide +kernel) (by decide +kernel)
theorem ml_X7_1 : Cond.methodLink RX7 1 objectInit ∈ aw_gw := aw_at 137 (by decide +kernel) (by decide +kernel)
theorem fl_X7_7 : Cond.fieldLink RX7 7 "StepBack$Trace" "value" "I" ∈ aw_gw := aw_at 138 (by decide +kernel) (by decide +kernel)
theorem fl_X8_252 : Cond.fieldLink RX8 252 "StepBack$Trace" "value" "I" ∈ aw_gw := aw_at 139 (by decide +kernel) (by decide +kernel)
theorem su_X7 : Cond.superclass RX7 "java/lang/Object" ∈ aw_gw := aw_at 142 (by decide +kernel) (by decide +kernel)
theorem it_X6 : Cond.instantiable RX6 4 ∈ aw_gw := aw_at 143 (by decide +kernel) (by decide +kernel)
theorem im_X6_init : Cond.instanceMethod yX6_init ∈ aw_gw := aw_at 145 (by decide +kernel) (by decide +kernel)
theorem ml_X6_3 : Cond.methodLink RX6 3 objectInit ∈ aw_gw := aw_at 147 (by decide +kernel) (by decide +kernel)
theorem fl_X6_9 : Cond.fieldLink RX6 9 "StepBack$Row" "cells" "[I" ∈ aw_gw := aw_at 148 (by decide +kernel) (by decide +kernel)
theorem fl_X8_232 : Cond.fieldLink RX8 232 "StepBack$Row" "cells" "[I" ∈ aw_gw := aw_at 149 (by decide +kernel) (by decide +kernel)
theorem fl_X6_15 : Cond.fieldLink RX6 15 "StepBack$Row" "isThere" "Z" ∈ aw_gw := aw_at 150 (by decide +kernel) (by decide +kernel)
theorem fl_X8_216 : Cond.fieldLink RX8 216 "StepBack$Row" "isThere" "Z" ∈ aw_gw := aw_at 151 (by decide +kernel) (by decide +kernel)
theorem fl_X6_19 : Cond.fieldLink RX6 19 "StepBack$Row" "lane" "I" ∈ aw_gw := aw_at 152 (by decide +kernel) (by decide +kernel)
theorem fl_X8_220 : Cond.fieldLink RX8 220 "StepBack$Row" "lane" "I" ∈ aw_gw := aw_at 153 (by decide +kernel) (by decide +kernel)
theorem fl_X6_32 : Cond.fieldLink RX6 32 "StepBack$Row" "size" "I" ∈ aw_gw := aw_at 154 (by decide +kernel) (by decide +kernel)
theorem su_X6 : Cond.superclass RX6 "java/lang/Object" ∈ aw_gw := aw_at 163 (by decide +kernel) (by decide +kernel)
theorem fl_X8_13 : Cond.fieldLink RX8 13 "StepBack" "sheets" "[LStepBack$Row;" ∈ aw_gw := aw_at 164 (by decide +kernel) (by decide +kernel)
theorem fl_X8_19 : Cond.fieldLink RX8 19 "StepBack" "people" "[LStepBack$Plain;" ∈ aw_gw := aw_at 165 (by decide +kernel) (by decide +kernel)
theorem fl_X8_23 : Cond.fieldLink RX8 23 "StepBack" "mays" "[I" ∈ aw_gw := aw_at 166 (by decide +kernel) (by decide +kernel)
theorem fl_X8_30 : Cond.fieldLink RX8 30 "StepBack" "lift" "LStepBack$Lift;" ∈ aw_gw := aw_at 167 (by decide +kernel) (by decide +kernel)
theorem fl_X8_37 : Cond.fieldLink RX8 37 "StepBack" "debts" "LStepBack$Debts;" ∈ aw_gw := aw_at 168 (by decide +kernel) (by decide +kernel)
theorem fl_X8_44 : Cond.fieldLink RX8 44 "StepBack" "readings" "LStepBack$Readings;" ∈ aw_gw := aw_at 169 (by decide +kernel) (by decide +kernel)
theorem fl_X8_51 : Cond.fieldLink RX8 51 "StepBack" "traceLeft" "LStepBack$Trace;" ∈ aw_gw := aw_at 170 (by decide +kernel) (by decide +kernel)
theorem fl_X8_84 : Cond.fieldLink RX8 84 "StepBack" "count" "I" ∈ aw_gw := aw_at 171 (by decide +kernel) (by decide +kernel)
theorem fl_X8_126 : Cond.fieldLink RX8 126 "StepBack" "ground" "I" ∈ aw_gw := aw_at 172 (by decide +kernel) (by decide +kernel)
theorem fl_X8_109 : Cond.fieldLink RX8 109 "StepBack" "there" "I" ∈ aw_gw := aw_at 173 (by decide +kernel) (by decide +kernel)
theorem fl_X8_158 : Cond.fieldLink RX8 158 "StepBack" "mornings" "I" ∈ aw_gw := aw_at 174 (by decide +kernel) (by decide +kernel)
theorem fl_X8_56 : Cond.fieldLink RX8 56 "StepBack" "latestFault" "I" ∈ aw_gw := aw_at 175 (by decide +kernel) (by decide +kernel)
theorem su_X8 : Cond.superclass RX8 "java/lang/Object" ∈ aw_gw := aw_at 200 (by decide +kernel) (by decide +kernel)
theorem ml_L_13 : Cond.methodLink RL 13 yX8_line ∈ aw_gw := aw_at 201 (by decide +kernel) (by decide +kernel)
theorem im_X8_line : Cond.instanceMethod yX8_line ∈ aw_gw := aw_at 202 (by decide +kernel) (by decide +kernel)
theorem sl_X8_X8_line : Cond.selects RX8 yX8_line yX8_line ∈ aw_gw := aw_at 203 (by decide +kernel) (by decide +kernel)
theorem ml_X8_60 : Cond.methodLink RX8 60 yX8_sheetAt ∈ aw_gw := aw_at 205 (by decide +kernel) (by decide +kernel)
theorem im_X8_sheetAt : Cond.instanceMethod yX8_sheetAt ∈ aw_gw := aw_at 207 (by decide +kernel) (by decide +kernel)
theorem ml_X8_64 : Cond.methodLink RX8 64 yX8_isLane ∈ aw_gw := aw_at 209 (by decide +kernel) (by decide +kernel)
theorem sm_X8_isLane : Cond.static yX8_isLane ∈ aw_gw := aw_at 210 (by decide +kernel) (by decide +kernel)
theorem ml_X8_122 : Cond.methodLink RX8 122 yX8_isWithin ∈ aw_gw := aw_at 212 (by decide +kernel) (by decide +kernel)
theorem sm_X8_isWithin : Cond.static yX8_isWithin ∈ aw_gw := aw_at 213 (by decide +kernel) (by decide +kernel)
theorem ml_X8_68 : Cond.methodLink RX8 68 yX8_faultOfTaking ∈ aw_gw := aw_at 215 (by decide +kernel) (by decide +kernel)
theorem sm_X8_faultOfTaking : Cond.static yX8_faultOfTaking ∈ aw_gw := aw_at 216 (by decide +kernel) (by decide +kernel)
theorem ml_X8_229 : Cond.methodLink RX8 229 yX6_hasCells ∈ aw_gw := aw_at 218 (by decide +kernel) (by decide +kernel)
theorem im_X6_hasCells : Cond.instanceMethod yX6_hasCells ∈ aw_gw := aw_at 219 (by decide +kernel) (by decide +kernel)
theorem sl_X6_X6_hasCells : Cond.selects RX6 yX6_hasCells yX6_hasCells ∈ aw_gw := aw_at 220 (by decide +kernel) (by decide +kernel)
theorem ml_X8_72 : Cond.methodLink RX8 72 yX8_faulted ∈ aw_gw := aw_at 222 (by decide +kernel) (by decide +kernel)
theorem im_X8_faulted : Cond.instanceMethod yX8_faulted ∈ aw_gw := aw_at 224 (by decide +kernel) (by decide +kernel)
theorem ml_X8_76 : Cond.methodLink RX8 76 yX8_firstFault ∈ aw_gw := aw_at 226 (by decide +kernel) (by decide +kernel)
theorem sm_X8_firstFault : Cond.static yX8_firstFault ∈ aw_gw := aw_at 227 (by decide +kernel) (by decide +kernel)
theorem ml_X8_226 : Cond.methodLink RX8 226 yX6_read ∈ aw_gw := aw_at 229 (by decide +kernel) (by decide +kernel)
theorem im_X6_read : Cond.instanceMethod yX6_read ∈ aw_gw := aw_at 230 (by decide +kernel) (by decide +kernel)
theorem sl_X6_X6_read : Cond.selects RX6 yX6_read yX6_read ∈ aw_gw := aw_at 231 (by decide +kernel) (by decide +kernel)
theorem ml_X6_35 : Cond.methodLink RX6 35 yX6_hasCells ∈ aw_gw := aw_at 233 (by decide +kernel) (by decide +kernel)
theorem ml_X8_264 : Cond.methodLink RX8 264 yX8_isFit ∈ aw_gw := aw_at 234 (by decide +kernel) (by decide +kernel)
theorem sm_X8_isFit : Cond.static yX8_isFit ∈ aw_gw := aw_at 235 (by decide +kernel) (by decide +kernel)
theorem ml_X8_267 : Cond.methodLink RX8 267 yX8_isDigit ∈ aw_gw := aw_at 237 (by decide +kernel) (by decide +kernel)
theorem sm_X8_isDigit : Cond.static yX8_isDigit ∈ aw_gw := aw_at 238 (by decide +kernel) (by decide +kernel)
theorem ml_X8_80 : Cond.methodLink RX8 80 yX8_takeText ∈ aw_gw := aw_at 240 (by decide +kernel) (by decide +kernel)
theorem im_X8_takeText : Cond.instanceMethod yX8_takeText ∈ aw_gw := aw_at 242 (by decide +kernel) (by decide +kernel)
theorem ml_X8_259 : Cond.methodLink RX8 259 Lib.Math.min.name ∈ aw_gw := aw_at 244 (by decide +kernel) (by decide +kernel)
theorem sm_Math_min : Cond.static Lib.Math.min.name ∈ aw_gw := aw_at 245 (by decide +kernel) (by decide +kernel)
theorem ml_X8_270 : Cond.methodLink RX8 270 yX8_newPerson ∈ aw_gw := aw_at 247 (by decide +kernel) (by decide +kernel)
theorem sm_X8_newPerson : Cond.static yX8_newPerson ∈ aw_gw := aw_at 248 (by decide +kernel) (by decide +kernel)
theorem cl_X8_255 : Cond.classLink RX8 255 RX4 ∈ aw_gw := aw_at 250 (by decide +kernel) (by decide +kernel)
theorem it_X4 : Cond.instantiable RX4 3 ∈ aw_gw := aw_at 251 (by decide +kernel) (by decide +kernel)
theorem ml_X8_277 : Cond.methodLink RX8 277 yX4_init ∈ aw_gw := aw_at 252 (by decide +kernel) (by decide +kernel)
theorem im_X4_init : Cond.instanceMethod yX4_init ∈ aw_gw := aw_at 253 (by decide +kernel) (by decide +kernel)
theorem ml_X4_3 : Cond.methodLink RX4 3 yX3_init ∈ aw_gw := aw_at 255 (by decide +kernel) (by decide +kernel)
theorem im_X3_init : Cond.instanceMethod yX3_init ∈ aw_gw := aw_at 256 (by decide +kernel) (by decide +kernel)
theorem ml_X3_3 : Cond.methodLink RX3 3 objectInit ∈ aw_gw := aw_at 258 (by decide +kernel) (by decide +kernel)
theorem fl_X3_9 : Cond.fieldLink RX3 9 "StepBack$Plain" "number" "I" ∈ aw_gw := aw_at 259 (by decide +kernel) (by decide +kernel)
theorem fl_X3_15 : Cond.fieldLink RX3 15 "StepBack$Plain" "haste" "I" ∈ aw_gw := aw_at 260 (by decide +kernel) (by decide +kernel)
theorem fl_X8_95 : Cond.fieldLink RX8 95 "StepBack$Plain" "haste" "I" ∈ aw_gw := aw_at 261 (by decide +kernel) (by decide +kernel)
theorem fl_X3_18 : Cond.fieldLink RX3 18 "StepBack$Plain" "room" "I" ∈ aw_gw := aw_at 262 (by decide +kernel) (by decide +kernel)
theorem fl_X8_98 : Cond.fieldLink RX8 98 "StepBack$Plain" "room" "I" ∈ aw_gw := aw_at 263 (by decide +kernel) (by decide +kernel)
theorem su_X4 : Cond.superclass RX4 RX3 ∈ aw_gw := aw_at 270 (by decide +kernel) (by decide +kernel)
theorem cl_X8_257 : Cond.classLink RX8 257 RX1 ∈ aw_gw := aw_at 271 (by decide +kernel) (by decide +kernel)
theorem it_X1 : Cond.instantiable RX1 3 ∈ aw_gw := aw_at 272 (by decide +kernel) (by decide +kernel)
theorem ml_X8_279 : Cond.methodLink RX8 279 yX1_init ∈ aw_gw := aw_at 273 (by decide +kernel) (by decide +kernel)
theorem im_X1_init : Cond.instanceMethod yX1_init ∈ aw_gw := aw_at 274 (by decide +kernel) (by decide +kernel)
theorem ml_X1_3 : Cond.methodLink RX1 3 yX4_init ∈ aw_gw := aw_at 276 (by decide +kernel) (by decide +kernel)
theorem su_X1 : Cond.superclass RX1 RX4 ∈ aw_gw := aw_at 280 (by decide +kernel) (by decide +kernel)
theorem it_X3 : Cond.instantiable RX3 3 ∈ aw_gw := aw_at 281 (by decide +kernel) (by decide +kernel)
theorem ml_X8_280 : Cond.methodLink RX8 280 yX3_init ∈ aw_gw := aw_at 282 (by decide +kernel) (by decide +kernel)
theorem su_X3 : Cond.superclass RX3 "java/lang/Object" ∈ aw_gw := aw_at 286 (by decide +kernel) (by decide +kernel)
theorem ml_X8_155 : Cond.methodLink RX8 155 yX8_everybody ∈ aw_gw := aw_at 287 (by decide +kernel) (by decide +kernel)
theorem im_X8_everybody : Cond.instanceMethod yX8_everybody ∈ aw_gw := aw_at 289 (by decide +kernel) (by decide +kernel)
theorem ml_X8_137 : Cond.methodLink RX8 137 yX8_bit ∈ aw_gw := aw_at 291 (by decide +kernel) (by decide +kernel)
theorem sm_X8_bit : Cond.static yX8_bit ∈ aw_gw := aw_at 292 (by decide +kernel) (by decide +kernel)
theorem ml_X8_274 : Cond.methodLink RX8 274 yX0_forget ∈ aw_gw := aw_at 294 (by decide +kernel) (by decide +kernel)
theorem im_X0_forget : Cond.instanceMethod yX0_forget ∈ aw_gw := aw_at 295 (by decide +kernel) (by decide +kernel)
theorem sl_X0_X0_forget : Cond.selects RX0 yX0_forget yX0_forget ∈ aw_gw := aw_at 296 (by decide +kernel) (by decide +kernel)
theorem ml_L_18 : Cond.methodLink RL 18 yX8_ofPerson ∈ aw_gw := aw_at 298 (by decide +kernel) (by decide +kernel)
theorem im_X8_ofPerson : Cond.instanceMethod yX8_ofPerson ∈ aw_gw := aw_at 299 (by decide +kernel) (by decide +kernel)
theorem sl_X8_X8_ofPerson : Cond.selects RX8 yX8_ofPerson yX8_ofPerson ∈ aw_gw := aw_at 300 (by decide +kernel) (by decide +kernel)
theorem ml_X8_87 : Cond.methodLink RX8 87 yX8_personAt ∈ aw_gw := aw_at 302 (by decide +kernel) (by decide +kernel)
theorem im_X8_personAt : Cond.instanceMethod yX8_personAt ∈ aw_gw := aw_at 304 (by decide +kernel) (by decide +kernel)
theorem ml_X8_91 : Cond.methodLink RX8 91 yX3_kind ∈ aw_gw := aw_at 306 (by decide +kernel) (by decide +kernel)
theorem im_X3_kind : Cond.instanceMethod yX3_kind ∈ aw_gw := aw_at 307 (by decide +kernel) (by decide +kernel)
theorem sl_X3_X3_kind : Cond.selects RX3 yX3_kind yX3_kind ∈ aw_gw := aw_at 308 (by decide +kernel) (by decide +kernel)
theorem sa_X3_X3_kind : Cond.sameMethod "StepBack$Plain" "StepBack$Plain" "kind" "()I" ∈ aw_gw := aw_at 309 (by decide +kernel) (by decide +kernel)
theorem so_X1_X3_kind_X1_kind : Cond.selects RX1 yX3_kind yX1_kind ∈ aw_gw := aw_at 310 (by decide +kernel) (by decide +kernel)
theorem im_X1_kind : Cond.instanceMethod yX1_kind ∈ aw_gw := aw_at 311 (by decide +kernel) (by decide +kernel)
theorem so_X4_X3_kind_X4_kind : Cond.selects RX4 yX3_kind yX4_kind ∈ aw_gw := aw_at 313 (by decide +kernel) (by decide +kernel)
theorem im_X4_kind : Cond.instanceMethod yX4_kind ∈ aw_gw := aw_at 314 (by decide +kernel) (by decide +kernel)
theorem ml_X8_101 : Cond.methodLink RX8 101 yX8_wouldGo ∈ aw_gw := aw_at 317 (by decide +kernel) (by decide +kernel)
theorem sm_X8_wouldGo : Cond.static yX8_wouldGo ∈ aw_gw := aw_at 318 (by decide +kernel) (by decide +kernel)
theorem ml_X8_105 : Cond.methodLink RX8 105 yX8_mayGo ∈ aw_gw := aw_at 320 (by decide +kernel) (by decide +kernel)
theorem im_X8_mayGo : Cond.instanceMethod yX8_mayGo ∈ aw_gw := aw_at 322 (by decide +kernel) (by decide +kernel)
theorem ml_X8_112 : Cond.methodLink RX8 112 yX8_has ∈ aw_gw := aw_at 324 (by decide +kernel) (by decide +kernel)
theorem sm_X8_has : Cond.static yX8_has ∈ aw_gw := aw_at 325 (by decide +kernel) (by decide +kernel)
theorem ml_X8_116 : Cond.methodLink RX8 116 yX0_owedBy ∈ aw_gw := aw_at 327 (by decide +kernel) (by decide +kernel)
theorem im_X0_owedBy : Cond.instanceMethod yX0_owedBy ∈ aw_gw := aw_at 328 (by decide +kernel) (by decide +kernel)
theorem sl_X0_X0_owedBy : Cond.selects RX0 yX0_owedBy yX0_owedBy ∈ aw_gw := aw_at 329 (by decide +kernel) (by decide +kernel)
theorem ml_X0_31 : Cond.methodLink RX0 31 yX0_between ∈ aw_gw := aw_at 331 (by decide +kernel) (by decide +kernel)
theorem im_X0_between : Cond.instanceMethod yX0_between ∈ aw_gw := aw_at 332 (by decide +kernel) (by decide +kernel)
theorem sl_X0_X0_between : Cond.selects RX0 yX0_between yX0_between ∈ aw_gw := aw_at 333 (by decide +kernel) (by decide +kernel)
theorem ml_X0_27 : Cond.methodLink RX0 27 yX0_areNumbers ∈ aw_gw := aw_at 335 (by decide +kernel) (by decide +kernel)
theorem sm_X0_areNumbers : Cond.static yX0_areNumbers ∈ aw_gw := aw_at 336 (by decide +kernel) (by decide +kernel)
theorem ml_X8_119 : Cond.methodLink RX8 119 yX0_owedTo ∈ aw_gw := aw_at 339 (by decide +kernel) (by decide +kernel)
theorem im_X0_owedTo : Cond.instanceMethod yX0_owedTo ∈ aw_gw := aw_at 340 (by decide +kernel) (by decide +kernel)
theorem sl_X0_X0_owedTo : Cond.selects RX0 yX0_owedTo yX0_owedTo ∈ aw_gw := aw_at 341 (by decide +kernel) (by decide +kernel)
theorem ml_L_23 : Cond.methodLink RL 23 yX8_hurry ∈ aw_gw := aw_at 343 (by decide +kernel) (by decide +kernel)
theorem im_X8_hurry : Cond.instanceMethod yX8_hurry ∈ aw_gw := aw_at 344 (by decide +kernel) (by decide +kernel)
theorem sl_X8_X8_hurry : Cond.selects RX8 yX8_hurry yX8_hurry ∈ aw_gw := aw_at 345 (by decide +kernel) (by decide +kernel)
theorem ml_L_27 : Cond.methodLink RL 27 yX8_wall ∈ aw_gw := aw_at 347 (by decide +kernel) (by decide +kernel)
theorem im_X8_wall : Cond.instanceMethod yX8_wall ∈ aw_gw := aw_at 348 (by decide +kernel) (by decide +kernel)
theorem sl_X8_X8_wall : Cond.selects RX8 yX8_wall yX8_wall ∈ aw_gw := aw_at 349 (by decide +kernel) (by decide +kernel)
theorem ml_L_31 : Cond.methodLink RL 31 yX8_lease ∈ aw_gw := aw_at 351 (by decide +kernel) (by decide +kernel)
theorem im_X8_lease : Cond.instanceMethod yX8_lease ∈ aw_gw := aw_at 352 (by decide +kernel) (by decide +kernel)
theorem sl_X8_X8_lease : Cond.selects RX8 yX8_lease yX8_lease ∈ aw_gw := aw_at 353 (by decide +kernel) (by decide +kernel)
theorem ml_L_36 : Cond.methodLink RL 36 yX8_go ∈ aw_gw := aw_at 355 (by decide +kernel) (by decide +kernel)
theorem im_X8_go : Cond.instanceMethod yX8_go ∈ aw_gw := aw_at 356 (by decide +kernel) (by decide +kernel)
theorem sl_X8_X8_go : Cond.selects RX8 yX8_go yX8_go ∈ aw_gw := aw_at 357 (by decide +kernel) (by decide +kernel)
theorem ml_X8_129 : Cond.methodLink RX8 129 yX8_maysNow ∈ aw_gw := aw_at 359 (by decide +kernel) (by decide +kernel)
theorem im_X8_maysNow : Cond.instanceMethod yX8_maysNow ∈ aw_gw := aw_at 361 (by decide +kernel) (by decide +kernel)
theorem ml_X8_133 : Cond.methodLink RX8 133 yX2_letDown ∈ aw_gw := aw_at 363 (by decide +kernel) (by decide +kernel)
theorem im_X2_letDown : Cond.instanceMethod yX2_letDown ∈ aw_gw := aw_at 364 (by decide +kernel) (by decide +kernel)
theorem sl_X2_X2_letDown : Cond.selects RX2 yX2_letDown yX2_letDown ∈ aw_gw := aw_at 365 (by decide +kernel) (by decide +kernel)
theorem ml_X2_28 : Cond.methodLink RX2 28 yX2_goesRound ∈ aw_gw := aw_at 367 (by decide +kernel) (by decide +kernel)
theorem im_X2_goesRound : Cond.instanceMethod yX2_goesRound ∈ aw_gw := aw_at 369 (by decide +kernel) (by decide +kernel)
theorem ml_X2_32 : Cond.methodLink RX2 32 yX2_leastOf ∈ aw_gw := aw_at 372 (by decide +kernel) (by decide +kernel)
theorem sm_X2_leastOf : Cond.static yX2_leastOf ∈ aw_gw := aw_at 373 (by decide +kernel) (by decide +kernel)
theorem ml_X8_146 : Cond.methodLink RX8 146 yX0_add ∈ aw_gw := aw_at 375 (by decide +kernel) (by decide +kernel)
theorem im_X0_add : Cond.instanceMethod yX0_add ∈ aw_gw := aw_at 376 (by decide +kernel) (by decide +kernel)
theorem sl_X0_X0_add : Cond.selects RX0 yX0_add yX0_add ∈ aw_gw := aw_at 377 (by decide +kernel) (by decide +kernel)
theorem ml_L_41 : Cond.methodLink RL 41 yX8_morning ∈ aw_gw := aw_at 379 (by decide +kernel) (by decide +kernel)
theorem im_X8_morning : Cond.instanceMethod yX8_morning ∈ aw_gw := aw_at 380 (by decide +kernel) (by decide +kernel)
theorem sl_X8_X8_morning : Cond.selects RX8 yX8_morning yX8_morning ∈ aw_gw := aw_at 381 (by decide +kernel) (by decide +kernel)
theorem ml_X8_150 : Cond.methodLink RX8 150 yJ6_bitCount_0f7a4 ∈ aw_gw := aw_at 383 (by decide +kernel) (by decide +kernel)
theorem sm_J6_bitCount_0f7a4 : Cond.static yJ6_bitCount_0f7a4 ∈ aw_gw := aw_at 384 (by decide +kernel) (by decide +kernel)
theorem ct_J6_265 : Cond.constant RJ6 265 (1431655765) ∈ aw_gw := aw_at 386 (by decide +kernel) (by decide +kernel)
theorem ct_J6_266 : Cond.constant RJ6 266 (858993459) ∈ aw_gw := aw_at 387 (by decide +kernel) (by decide +kernel)
theorem ct_J6_267 : Cond.constant RJ6 267 (252645135) ∈ aw_gw := aw_at 388 (by decide +kernel) (by decide +kernel)
theorem ml_L_45 : Cond.methodLink RL 45 yX8_owes ∈ aw_gw := aw_at 389 (by decide +kernel) (by decide +kernel)
theorem im_X8_owes : Cond.instanceMethod yX8_owes ∈ aw_gw := aw_at 390 (by decide +kernel) (by decide +kernel)
theorem sl_X8_X8_owes : Cond.selects RX8 yX8_owes yX8_owes ∈ aw_gw := aw_at 391 (by decide +kernel) (by decide +kernel)
theorem ml_X8_161 : Cond.methodLink RX8 161 yX8_areTwo ∈ aw_gw := aw_at 393 (by decide +kernel) (by decide +kernel)
theorem im_X8_areTwo : Cond.instanceMethod yX8_areTwo ∈ aw_gw := aw_at 395 (by decide +kernel) (by decide +kernel)
theorem ml_X8_164 : Cond.methodLink RX8 164 yX0_between ∈ aw_gw := aw_at 397 (by decide +kernel) (by decide +kernel)
theorem ml_L_49 : Cond.methodLink RL 49 yX8_pays ∈ aw_gw := aw_at 398 (by decide +kernel) (by decide +kernel)
theorem im_X8_pays : Cond.instanceMethod yX8_pays ∈ aw_gw := aw_at 399 (by decide +kernel) (by decide +kernel)
theorem sl_X8_X8_pays : Cond.selects RX8 yX8_pays yX8_pays ∈ aw_gw := aw_at 400 (by decide +kernel) (by decide +kernel)
theorem ml_L_54 : Cond.methodLink RL 54 yX8_calls ∈ aw_gw := aw_at 402 (by decide +kernel) (by decide +kernel)
theorem im_X8_calls : Cond.instanceMethod yX8_calls ∈ aw_gw := aw_at 403 (by decide +kernel) (by decide +kernel)
theorem sl_X8_X8_calls : Cond.selects RX8 yX8_calls yX8_calls ∈ aw_gw := aw_at 404 (by decide +kernel) (by decide +kernel)
theorem ml_X8_167 : Cond.methodLink RX8 167 yX8_allNameSomebody ∈ aw_gw := aw_at 406 (by decide +kernel) (by decide +kernel)
theorem im_X8_allNameSomebody : Cond.instanceMethod yX8_allNameSomebody ∈ aw_gw := aw_at 408 (by decide +kernel) (by decide +kernel)
theorem ml_X8_171 : Cond.methodLink RX8 171 yX8_callsTold ∈ aw_gw := aw_at 410 (by decide +kernel) (by decide +kernel)
theorem im_X8_callsTold : Cond.instanceMethod yX8_callsTold ∈ aw_gw := aw_at 412 (by decide +kernel) (by decide +kernel)
theorem ml_X8_281 : Cond.methodLink RX8 281 yX8_howManyGoOn ∈ aw_gw := aw_at 414 (by decide +kernel) (by decide +kernel)
theorem im_X8_howManyGoOn : Cond.instanceMethod yX8_howManyGoOn ∈ aw_gw := aw_at 416 (by decide +kernel) (by decide +kernel)
theorem ml_L_59 : Cond.methodLink RL 59 yX8_order ∈ aw_gw := aw_at 418 (by decide +kernel) (by decide +kernel)
theorem im_X8_order : Cond.instanceMethod yX8_order ∈ aw_gw := aw_at 419 (by decide +kernel) (by decide +kernel)
theorem sl_X8_X8_order : Cond.selects RX8 yX8_order yX8_order ∈ aw_gw := aw_at 420 (by decide +kernel) (by decide +kernel)
theorem ml_X8_174 : Cond.methodLink RX8 174 yX2_goThroughAll ∈ aw_gw := aw_at 422 (by decide +kernel) (by decide +kernel)
theorem im_X2_goThroughAll : Cond.instanceMethod yX2_goThroughAll ∈ aw_gw := aw_at 423 (by decide +kernel) (by decide +kernel)
theorem sl_X2_X2_goThroughAll : Cond.selects RX2 yX2_goThroughAll yX2_goThroughAll ∈ aw_gw := aw_at 424 (by decide +kernel) (by decide +kernel)
theorem ml_X2_40 : Cond.methodLink RX2 40 yX2_letDown ∈ aw_gw := aw_at 426 (by decide +kernel) (by decide +kernel)
theorem ml_L_63 : Cond.methodLink RL 63 yX8_loss ∈ aw_gw := aw_at 428 (by decide +kernel) (by decide +kernel)
theorem im_X8_loss : Cond.instanceMethod yX8_loss ∈ aw_gw := aw_at 429 (by decide +kernel) (by decide +kernel)
theorem sl_X8_X8_loss : Cond.selects RX8 yX8_loss yX8_loss ∈ aw_gw := aw_at 430 (by decide +kernel) (by decide +kernel)
theorem ml_X8_183 : Cond.methodLink RX8 183 yX8_lossOfOrder ∈ aw_gw := aw_at 432 (by decide +kernel) (by decide +kernel)
theorem im_X8_lossOfOrder : Cond.instanceMethod yX8_lossOfOrder ∈ aw_gw := aw_at 434 (by decide +kernel) (by decide +kernel)
theorem ml_X8_285 : Cond.methodLink RX8 285 yX8_hasteOf ∈ aw_gw := aw_at 436 (by decide +kernel) (by decide +kernel)
theorem im_X8_hasteOf : Cond.instanceMethod yX8_hasteOf ∈ aw_gw := aw_at 438 (by decide +kernel) (by decide +kernel)
theorem ml_X8_186 : Cond.methodLink RX8 186 yX8_leastLoss ∈ aw_gw := aw_at 440 (by decide +kernel) (by decide +kernel)
theorem im_X8_leastLoss : Cond.instanceMethod yX8_leastLoss ∈ aw_gw := aw_at 442 (by decide +kernel) (by decide +kernel)
theorem ml_L_67 : Cond.methodLink RL 67 yX8_let ∈ aw_gw := aw_at 444 (by decide +kernel) (by decide +kernel)
theorem im_X8_let : Cond.instanceMethod yX8_let ∈ aw_gw := aw_at 445 (by decide +kernel) (by decide +kernel)
theorem sl_X8_X8_let : Cond.selects RX8 yX8_let yX8_let ∈ aw_gw := aw_at 446 (by decide +kernel) (by decide +kernel)
theorem ml_X8_189 : Cond.methodLink RX8 189 yX2_placeOf ∈ aw_gw := aw_at 448 (by decide +kernel) (by decide +kernel)
theorem im_X2_placeOf : Cond.instanceMethod yX2_placeOf ∈ aw_gw := aw_at 449 (by decide +kernel) (by decide +kernel)
theorem sl_X2_X2_placeOf : Cond.selects RX2 yX2_placeOf yX2_placeOf ∈ aw_gw := aw_at 450 (by decide +kernel) (by decide +kernel)
theorem ml_X2_47 : Cond.methodLink RX2 47 yX2_goThroughAll ∈ aw_gw := aw_at 452 (by decide +kernel) (by decide +kernel)
theorem ml_L_71 : Cond.methodLink RL 71 yX8_balance ∈ aw_gw := aw_at 453 (by decide +kernel) (by decide +kernel)
theorem im_X8_balance : Cond.instanceMethod yX8_balance ∈ aw_gw := aw_at 454 (by decide +kernel) (by decide +kernel)
theorem sl_X8_X8_balance : Cond.selects RX8 yX8_balance yX8_balance ∈ aw_gw := aw_at 455 (by decide +kernel) (by decide +kernel)
theorem ml_X8_193 : Cond.methodLink RX8 193 yX0_balanceOf ∈ aw_gw := aw_at 457 (by decide +kernel) (by decide +kernel)
theorem im_X0_balanceOf : Cond.instanceMethod yX0_balanceOf ∈ aw_gw := aw_at 458 (by decide +kernel) (by decide +kernel)
theorem sl_X0_X0_balanceOf : Cond.selects RX0 yX0_balanceOf yX0_balanceOf ∈ aw_gw := aw_at 459 (by decide +kernel) (by decide +kernel)
theorem ml_X0_35 : Cond.methodLink RX0 35 yX0_owedTo ∈ aw_gw := aw_at 461 (by decide +kernel) (by decide +kernel)
theorem ml_X0_39 : Cond.methodLink RX0 39 yX0_owedBy ∈ aw_gw := aw_at 462 (by decide +kernel) (by decide +kernel)
theorem ml_L_75 : Cond.methodLink RL 75 yX8_cleared ∈ aw_gw := aw_at 463 (by decide +kernel) (by decide +kernel)
theorem im_X8_cleared : Cond.instanceMethod yX8_cleared ∈ aw_gw := aw_at 464 (by decide +kernel) (by decide +kernel)
theorem sl_X8_X8_cleared : Cond.selects RX8 yX8_cleared yX8_cleared ∈ aw_gw := aw_at 465 (by decide +kernel) (by decide +kernel)
theorem ml_X8_196 : Cond.methodLink RX8 196 yX0_leastSteps ∈ aw_gw := aw_at 467 (by decide +kernel) (by decide +kernel)
theorem im_X0_leastSteps : Cond.instanceMethod yX0_leastSteps ∈ aw_gw := aw_at 468 (by decide +kernel) (by decide +kernel)
theorem sl_X0_X0_leastSteps : Cond.selects RX0 yX0_leastSteps yX0_leastSteps ∈ aw_gw := aw_at 469 (by decide +kernel) (by decide +kernel)
theorem ml_X0_42 : Cond.methodLink RX0 42 yX0_balanceOf ∈ aw_gw := aw_at 471 (by decide +kernel) (by decide +kernel)
theorem ml_X0_45 : Cond.methodLink RX0 45 Lib.Math.max.name ∈ aw_gw := aw_at 472 (by decide +kernel) (by decide +kernel)
theorem sm_Math_max : Cond.static Lib.Math.max.name ∈ aw_gw := aw_at 473 (by decide +kernel) (by decide +kernel)
theorem ml_X8_199 : Cond.methodLink RX8 199 yX0_leastPayments ∈ aw_gw := aw_at 475 (by decide +kernel) (by decide +kernel)
theorem im_X0_leastPayments : Cond.instanceMethod yX0_leastPayments ∈ aw_gw := aw_at 476 (by decide +kernel) (by decide +kernel)
theorem sl_X0_X0_leastPayments : Cond.selects RX0 yX0_leastPayments yX0_leastPayments ∈ aw_gw := aw_at 477 (by decide +kernel) (by decide +kernel)
theorem ml_X0_50 : Cond.methodLink RX0 50 yX0_mostGroups ∈ aw_gw := aw_at 479 (by decide +kernel) (by decide +kernel)
theorem im_X0_mostGroups : Cond.instanceMethod yX0_mostGroups ∈ aw_gw := aw_at 481 (by decide +kernel) (by decide +kernel)
theorem ml_L_79 : Cond.methodLink RL 79 yX8_were ∈ aw_gw := aw_at 485 (by decide +kernel) (by decide +kernel)
theorem im_X8_were : Cond.instanceMethod yX8_were ∈ aw_gw := aw_at 486 (by decide +kernel) (by decide +kernel)
theorem sl_X8_X8_were : Cond.selects RX8 yX8_were yX8_were ∈ aw_gw := aw_at 487 (by decide +kernel) (by decide +kernel)
theorem ml_L_83 : Cond.methodLink RL 83 yX8_reading ∈ aw_gw := aw_at 489 (by decide +kernel) (by decide +kernel)
theorem im_X8_reading : Cond.instanceMethod yX8_reading ∈ aw_gw := aw_at 490 (by decide +kernel) (by decide +kernel)
theorem sl_X8_X8_reading : Cond.selects RX8 yX8_reading yX8_reading ∈ aw_gw := aw_at 491 (by decide +kernel) (by decide +kernel)
theorem ml_X8_203 : Cond.methodLink RX8 203 yX5_add ∈ aw_gw := aw_at 493 (by decide +kernel) (by decide +kernel)
theorem im_X5_add : Cond.instanceMethod yX5_add ∈ aw_gw := aw_at 494 (by decide +kernel) (by decide +kernel)
theorem sl_X5_X5_add : Cond.selects RX5 yX5_add yX5_add ∈ aw_gw := aw_at 495 (by decide +kernel) (by decide +kernel)
theorem ml_L_87 : Cond.methodLink RL 87 yX8_back ∈ aw_gw := aw_at 498 (by decide +kernel) (by decide +kernel)
theorem im_X8_back : Cond.instanceMethod yX8_back ∈ aw_gw := aw_at 499 (by decide +kernel) (by decide +kernel)
theorem sl_X8_X8_back : Cond.selects RX8 yX8_back yX8_back ∈ aw_gw := aw_at 500 (by decide +kernel) (by decide +kernel)
theorem ml_L_91 : Cond.methodLink RL 91 yX8_hastes ∈ aw_gw := aw_at 502 (by decide +kernel) (by decide +kernel)
theorem im_X8_hastes : Cond.instanceMethod yX8_hastes ∈ aw_gw := aw_at 503 (by decide +kernel) (by decide +kernel)
theorem sl_X8_X8_hastes : Cond.selects RX8 yX8_hastes yX8_hastes ∈ aw_gw := aw_at 504 (by decide +kernel) (by decide +kernel)
theorem ml_X8_206 : Cond.methodLink RX8 206 yX5_areSo ∈ aw_gw := aw_at 506 (by decide +kernel) (by decide +kernel)
theorem im_X5_areSo : Cond.instanceMethod yX5_areSo ∈ aw_gw := aw_at 507 (by decide +kernel) (by decide +kernel)
theorem sl_X5_X5_areSo : Cond.selects RX5 yX5_areSo yX5_areSo ∈ aw_gw := aw_at 508 (by decide +kernel) (by decide +kernel)
theorem ml_L_95 : Cond.methodLink RL 95 yX8_rooms ∈ aw_gw := aw_at 510 (by decide +kernel) (by decide +kernel)
theorem im_X8_rooms : Cond.instanceMethod yX8_rooms ∈ aw_gw := aw_at 511 (by decide +kernel) (by decide +kernel)
theorem sl_X8_X8_rooms : Cond.selects RX8 yX8_rooms yX8_rooms ∈ aw_gw := aw_at 512 (by decide +kernel) (by decide +kernel)
theorem ml_L_99 : Cond.methodLink RL 99 yX8_kinds ∈ aw_gw := aw_at 514 (by decide +kernel) (by decide +kernel)
theorem im_X8_kinds : Cond.instanceMethod yX8_kinds ∈ aw_gw := aw_at 515 (by decide +kernel) (by decide +kernel)
theorem sl_X8_X8_kinds : Cond.selects RX8 yX8_kinds yX8_kinds ∈ aw_gw := aw_at 516 (by decide +kernel) (by decide +kernel)
theorem ml_L_103 : Cond.methodLink RL 103 yX8_odds ∈ aw_gw := aw_at 518 (by decide +kernel) (by decide +kernel)
theorem im_X8_odds : Cond.instanceMethod yX8_odds ∈ aw_gw := aw_at 519 (by decide +kernel) (by decide +kernel)
theorem sl_X8_X8_odds : Cond.selects RX8 yX8_odds yX8_odds ∈ aw_gw := aw_at 520 (by decide +kernel) (by decide +kernel)
theorem ct_X8_210 : Cond.constantLong RX8 210 (-9223372036854775808) ∈ aw_gw := aw_at 522 (by decide +kernel) (by decide +kernel)
theorem ml_L_108 : Cond.methodLink RL 108 yX8_sheet ∈ aw_gw := aw_at 523 (by decide +kernel) (by decide +kernel)
theorem im_X8_sheet : Cond.instanceMethod yX8_sheet ∈ aw_gw := aw_at 524 (by decide +kernel) (by decide +kernel)
theorem sl_X8_X8_sheet : Cond.selects RX8 yX8_sheet yX8_sheet ∈ aw_gw := aw_at 525 (by decide +kernel) (by decide +kernel)
theorem ml_X8_212 : Cond.methodLink RX8 212 yX6_renew ∈ aw_gw := aw_at 527 (by decide +kernel) (by decide +kernel)
theorem im_X6_renew : Cond.instanceMethod yX6_renew ∈ aw_gw := aw_at 528 (by decide +kernel) (by decide +kernel)
theorem sl_X6_X6_renew : Cond.selects RX6 yX6_renew yX6_renew ∈ aw_gw := aw_at 529 (by decide +kernel) (by decide +kernel)
theorem ml_X6_23 : Cond.methodLink RX6 23 Lib.Math.min.name ∈ aw_gw := aw_at 531 (by decide +kernel) (by decide +kernel)
theorem ml_X6_29 : Cond.methodLink RX6 29 Lib.Math.max.name ∈ aw_gw := aw_at 532 (by decide +kernel) (by decide +kernel)
theorem ml_L_112 : Cond.methodLink RL 112 yX8_lose ∈ aw_gw := aw_at 533 (by decide +kernel) (by decide +kernel)
theorem im_X8_lose : Cond.instanceMethod yX8_lose ∈ aw_gw := aw_at 534 (by decide +kernel) (by decide +kernel)
theorem sl_X8_X8_lose : Cond.selects RX8 yX8_lose yX8_lose ∈ aw_gw := aw_at 535 (by decide +kernel) (by decide +kernel)
theorem ml_L_116 : Cond.methodLink RL 116 yX8_put ∈ aw_gw := aw_at 537 (by decide +kernel) (by decide +kernel)
theorem im_X8_put : Cond.instanceMethod yX8_put ∈ aw_gw := aw_at 538 (by decide +kernel) (by decide +kernel)
theorem sl_X8_X8_put : Cond.selects RX8 yX8_put yX8_put ∈ aw_gw := aw_at 539 (by decide +kernel) (by decide +kernel)
theorem ml_X8_223 : Cond.methodLink RX8 223 yX6_write ∈ aw_gw := aw_at 541 (by decide +kernel) (by decide +kernel)
theorem im_X6_write : Cond.instanceMethod yX6_write ∈ aw_gw := aw_at 542 (by decide +kernel) (by decide +kernel)
theorem sl_X6_X6_write : Cond.selects RX6 yX6_write yX6_write ∈ aw_gw := aw_at 543 (by decide +kernel) (by decide +kernel)
theorem ml_X6_39 : Cond.methodLink RX6 39 yX6_cut ∈ aw_gw := aw_at 545 (by decide +kernel) (by decide +kernel)
theorem im_X6_cut : Cond.instanceMethod yX6_cut ∈ aw_gw := aw_at 547 (by decide +kernel) (by decide +kernel)
theorem ml_L_120 : Cond.methodLink RL 120 yX8_cell ∈ aw_gw := aw_at 549 (by decide +kernel) (by decide +kernel)
theorem im_X8_cell : Cond.instanceMethod yX8_cell ∈ aw_gw := aw_at 550 (by decide +kernel) (by decide +kernel)
theorem sl_X8_X8_cell : Cond.selects RX8 yX8_cell yX8_cell ∈ aw_gw := aw_at 551 (by decide +kernel) (by decide +kernel)
theorem ml_L_125 : Cond.methodLink RL 125 yX8_copy ∈ aw_gw := aw_at 553 (by decide +kernel) (by decide +kernel)
theorem im_X8_copy : Cond.instanceMethod yX8_copy ∈ aw_gw := aw_at 554 (by decide +kernel) (by decide +kernel)
theorem sl_X8_X8_copy : Cond.selects RX8 yX8_copy yX8_copy ∈ aw_gw := aw_at 555 (by decide +kernel) (by decide +kernel)
theorem ml_X8_235 : Cond.methodLink RX8 235 ⟨"java/lang/System", "arraycopy", "(Ljava/lang/Object;ILjava/lang/Object;II)V"⟩ ∈ aw_gw := aw_at 557 (by decide +kernel) (by decide +kernel)
theorem sm_J10_arraycopy : Cond.static ⟨"java/lang/System", "arraycopy", "(Ljava/lang/Object;ILjava/lang/Object;II)V"⟩ ∈ aw_gw := aw_at 558 (by decide +kernel) (by decide +kernel)
theorem nt_arraycopy : Cond.native arraycopyName ∈ aw_gw := aw_at 559 (by decide +kernel) (by decide +kernel)
theorem ml_L_129 : Cond.methodLink RL 129 yX8_tell ∈ aw_gw := aw_at 560 (by decide +kernel) (by decide +kernel)
theorem im_X8_tell : Cond.instanceMethod yX8_tell ∈ aw_gw := aw_at 561 (by decide +kernel) (by decide +kernel)
theorem sl_X8_X8_tell : Cond.selects RX8 yX8_tell yX8_tell ∈ aw_gw := aw_at 562 (by decide +kernel) (by decide +kernel)
theorem ml_X8_241 : Cond.methodLink RX8 241 yX3_telling ∈ aw_gw := aw_at 564 (by decide +kernel) (by decide +kernel)
theorem im_X3_telling : Cond.instanceMethod yX3_telling ∈ aw_gw := aw_at 565 (by decide +kernel) (by decide +kernel)
theorem sl_X3_X3_telling : Cond.selects RX3 yX3_telling yX3_telling ∈ aw_gw := aw_at 566 (by decide +kernel) (by decide +kernel)
theorem sa_X3_X3_telling : Cond.sameMethod "StepBack$Plain" "StepBack$Plain" "telling" "(LStepBack$Trace;)I" ∈ aw_gw := aw_at 567 (by decide +kernel) (by decide +kernel)
theorem so_X1_X3_telling_X1_telling : Cond.selects RX1 yX3_telling yX1_telling ∈ aw_gw := aw_at 568 (by decide +kernel) (by decide +kernel)
theorem im_X1_telling : Cond.instanceMethod yX1_telling ∈ aw_gw := aw_at 569 (by decide +kernel) (by decide +kernel)
theorem ml_X1_9 : Cond.methodLink RX1 9 yX7_leave ∈ aw_gw := aw_at 571 (by decide +kernel) (by decide +kernel)
theorem im_X7_leave : Cond.instanceMethod yX7_leave ∈ aw_gw := aw_at 572 (by decide +kernel) (by decide +kernel)
theorem sl_X7_X7_leave : Cond.selects RX7 yX7_leave yX7_leave ∈ aw_gw := aw_at 573 (by decide +kernel) (by decide +kernel)
theorem ml_X1_15 : Cond.methodLink RX1 15 yX4_telling ∈ aw_gw := aw_at 575 (by decide +kernel) (by decide +kernel)
theorem im_X4_telling : Cond.instanceMethod yX4_telling ∈ aw_gw := aw_at 576 (by decide +kernel) (by decide +kernel)
theorem ml_X4_9 : Cond.methodLink RX4 9 yX7_leave ∈ aw_gw := aw_at 578 (by decide +kernel) (by decide +kernel)
theorem ml_X4_15 : Cond.methodLink RX4 15 ⟨"StepBack$Proud", "plainTelling", "(LStepBack$Trace;)I"⟩ ∈ aw_gw := aw_at 579 (by decide +kernel) (by decide +kernel)
theorem sa_X4_X3_plainTelling : Cond.sameMethod "StepBack$Proud" "StepBack$Plain" "plainTelling" "(LStepBack$Trace;)I" ∈ aw_gw := aw_at 580 (by decide +kernel) (by decide +kernel)
theorem so_X1_X4_plainTelling_X3_plainTelling : Cond.selects RX1 ⟨"StepBack$Proud", "plainTelling", "(LStepBack$Trace;)I"⟩ yX3_plainTelling ∈ aw_gw := aw_at 582 (by decide +kernel) (by decide +kernel)
theorem so_X4_X4_plainTelling_X3_plainTelling : Cond.selects RX4 ⟨"StepBack$Proud", "plainTelling", "(LStepBack$Trace;)I"⟩ yX3_plainTelling ∈ aw_gw := aw_at 583 (by decide +kernel) (by decide +kernel)
theorem im_X3_plainTelling : Cond.instanceMethod yX3_plainTelling ∈ aw_gw := aw_at 584 (by decide +kernel) (by decide +kernel)
theorem ml_X3_25 : Cond.methodLink RX3 25 yX7_leave ∈ aw_gw := aw_at 586 (by decide +kernel) (by decide +kernel)
theorem ml_X1_19 : Cond.methodLink RX1 19 ⟨"StepBack$Lame", "plainTelling", "(LStepBack$Trace;)I"⟩ ∈ aw_gw := aw_at 587 (by decide +kernel) (by decide +kernel)
theorem sa_X1_X3_plainTelling : Cond.sameMethod "StepBack$Lame" "StepBack$Plain" "plainTelling" "(LStepBack$Trace;)I" ∈ aw_gw := aw_at 588 (by decide +kernel) (by decide +kernel)
theorem so_X1_X1_plainTelling_X3_plainTelling : Cond.selects RX1 ⟨"StepBack$Lame", "plainTelling", "(LStepBack$Trace;)I"⟩ yX3_plainTelling ∈ aw_gw := aw_at 589 (by decide +kernel) (by decide +kernel)
theorem so_X4_X3_telling_X4_telling : Cond.selects RX4 yX3_telling yX4_telling ∈ aw_gw := aw_at 590 (by decide +kernel) (by decide +kernel)
theorem ml_X3_21 : Cond.methodLink RX3 21 yX3_plainTelling ∈ aw_gw := aw_at 592 (by decide +kernel) (by decide +kernel)
theorem ml_L_133 : Cond.methodLink RL 133 yX8_hear ∈ aw_gw := aw_at 593 (by decide +kernel) (by decide +kernel)
theorem im_X8_hear : Cond.instanceMethod yX8_hear ∈ aw_gw := aw_at 594 (by decide +kernel) (by decide +kernel)
theorem sl_X8_X8_hear : Cond.selects RX8 yX8_hear yX8_hear ∈ aw_gw := aw_at 595 (by decide +kernel) (by decide +kernel)
theorem ml_X8_245 : Cond.methodLink RX8 245 yX3_heardAs ∈ aw_gw := aw_at 597 (by decide +kernel) (by decide +kernel)
theorem im_X3_heardAs : Cond.instanceMethod yX3_heardAs ∈ aw_gw := aw_at 598 (by decide +kernel) (by decide +kernel)
theorem sl_X3_X3_heardAs : Cond.selects RX3 yX3_heardAs yX3_heardAs ∈ aw_gw := aw_at 599 (by decide +kernel) (by decide +kernel)
theorem sa_X3_X3_heardAs : Cond.sameMethod "StepBack$Plain" "StepBack$Plain" "heardAs" "(LStepBack$Trace;)I" ∈ aw_gw := aw_at 600 (by decide +kernel) (by decide +kernel)
theorem so_X1_X3_heardAs_X1_heardAs : Cond.selects RX1 yX3_heardAs yX1_heardAs ∈ aw_gw := aw_at 601 (by decide +kernel) (by decide +kernel)
theorem im_X1_heardAs : Cond.instanceMethod yX1_heardAs ∈ aw_gw := aw_at 602 (by decide +kernel) (by decide +kernel)
theorem sl_X4_X3_heardAs : Cond.selects RX4 yX3_heardAs yX3_heardAs ∈ aw_gw := aw_at 604 (by decide +kernel) (by decide +kernel)
theorem ml_L_137 : Cond.methodLink RL 137 yX8_as ∈ aw_gw := aw_at 606 (by decide +kernel) (by decide +kernel)
theorem im_X8_as : Cond.instanceMethod yX8_as ∈ aw_gw := aw_at 607 (by decide +kernel) (by decide +kernel)
theorem sl_X8_X8_as : Cond.selects RX8 yX8_as yX8_as ∈ aw_gw := aw_at 608 (by decide +kernel) (by decide +kernel)
theorem ml_X8_248 : Cond.methodLink RX8 248 yX8_isOneOf ∈ aw_gw := aw_at 610 (by decide +kernel) (by decide +kernel)
theorem sm_X8_isOneOf : Cond.static yX8_isOneOf ∈ aw_gw := aw_at 611 (by decide +kernel) (by decide +kernel)
theorem ml_L_141 : Cond.methodLink RL 141 yX8_trace ∈ aw_gw := aw_at 613 (by decide +kernel) (by decide +kernel)
theorem im_X8_trace : Cond.instanceMethod yX8_trace ∈ aw_gw := aw_at 614 (by decide +kernel) (by decide +kernel)
theorem sl_X8_X8_trace : Cond.selects RX8 yX8_trace yX8_trace ∈ aw_gw := aw_at 615 (by decide +kernel) (by decide +kernel)
theorem ml_L_145 : Cond.methodLink RL 145 yX8_fault ∈ aw_gw := aw_at 617 (by decide +kernel) (by decide +kernel)
theorem im_X8_fault : Cond.instanceMethod yX8_fault ∈ aw_gw := aw_at 618 (by decide +kernel) (by decide +kernel)
theorem sl_X8_X8_fault : Cond.selects RX8 yX8_fault yX8_fault ∈ aw_gw := aw_at 619 (by decide +kernel) (by decide +kernel)
theorem ml_L_149 : Cond.methodLink RL 149 yX8_many ∈ aw_gw := aw_at 621 (by decide +kernel) (by decide +kernel)
theorem im_X8_many : Cond.instanceMethod yX8_many ∈ aw_gw := aw_at 622 (by decide +kernel) (by decide +kernel)
theorem sl_X8_X8_many : Cond.selects RX8 yX8_many yX8_many ∈ aw_gw := aw_at 623 (by decide +kernel) (by decide +kernel)
theorem cl_L_10 : Cond.classLink RL 10 RX9 ∈ aw_gw := aw_at 625 (by decide +kernel) (by decide +kernel)
theorem it_X9 : Cond.instantiable RX9 28 ∈ aw_gw := aw_at 626 (by decide +kernel) (by decide +kernel)
theorem ml_L_12 : Cond.methodLink RL 12 yX9_init ∈ aw_gw := aw_at 627 (by decide +kernel) (by decide +kernel)
theorem im_X9_init : Cond.instanceMethod yX9_init ∈ aw_gw := aw_at 628 (by decide +kernel) (by decide +kernel)
theorem ml_X9_1 : Cond.methodLink RX9 1 objectInit ∈ aw_gw := aw_at 630 (by decide +kernel) (by decide +kernel)
theorem fl_X9_52 : Cond.fieldLink RX9 52 "StepBackModel" "fault" "I" ∈ aw_gw := aw_at 631 (by decide +kernel) (by decide +kernel)
theorem fl_X9_192 : Cond.fieldLink RX9 192 "StepBackModel" "trace" "I" ∈ aw_gw := aw_at 632 (by decide +kernel) (by decide +kernel)
theorem fl_X9_9 : Cond.fieldLink RX9 9 "StepBackModel" "sorts" "[I" ∈ aw_gw := aw_at 633 (by decide +kernel) (by decide +kernel)
theorem fl_X9_13 : Cond.fieldLink RX9 13 "StepBackModel" "sheetLong" "[I" ∈ aw_gw := aw_at 634 (by decide +kernel) (by decide +kernel)
theorem fl_X9_16 : Cond.fieldLink RX9 16 "StepBackModel" "cells" "[I" ∈ aw_gw := aw_at 635 (by decide +kernel) (by decide +kernel)
theorem fl_X9_62 : Cond.fieldLink RX9 62 "StepBackModel" "people" "I" ∈ aw_gw := aw_at 636 (by decide +kernel) (by decide +kernel)
theorem fl_X9_92 : Cond.fieldLink RX9 92 "StepBackModel" "ground" "I" ∈ aw_gw := aw_at 637 (by decide +kernel) (by decide +kernel)
theorem fl_X9_98 : Cond.fieldLink RX9 98 "StepBackModel" "isThere" "I" ∈ aw_gw := aw_at 638 (by decide +kernel) (by decide +kernel)
theorem fl_X9_101 : Cond.fieldLink RX9 101 "StepBackModel" "mornings" "I" ∈ aw_gw := aw_at 639 (by decide +kernel) (by decide +kernel)
theorem fl_X9_19 : Cond.fieldLink RX9 19 "StepBackModel" "kind" "[I" ∈ aw_gw := aw_at 640 (by decide +kernel) (by decide +kernel)
theorem fl_X9_22 : Cond.fieldLink RX9 22 "StepBackModel" "haste" "[I" ∈ aw_gw := aw_at 641 (by decide +kernel) (by decide +kernel)
theorem fl_X9_25 : Cond.fieldLink RX9 25 "StepBackModel" "room" "[I" ∈ aw_gw := aw_at 642 (by decide +kernel) (by decide +kernel)
theorem fl_X9_28 : Cond.fieldLink RX9 28 "StepBackModel" "owed" "[I" ∈ aw_gw := aw_at 643 (by decide +kernel) (by decide +kernel)
theorem fl_X9_65 : Cond.fieldLink RX9 65 "StepBackModel" "at" "I" ∈ aw_gw := aw_at 644 (by decide +kernel) (by decide +kernel)
theorem fl_X9_89 : Cond.fieldLink RX9 89 "StepBackModel" "readGround" "I" ∈ aw_gw := aw_at 645 (by decide +kernel) (by decide +kernel)
theorem fl_X9_95 : Cond.fieldLink RX9 95 "StepBackModel" "readPeople" "I" ∈ aw_gw := aw_at 646 (by decide +kernel) (by decide +kernel)
theorem fl_X9_31 : Cond.fieldLink RX9 31 "StepBackModel" "read" "[I" ∈ aw_gw := aw_at 647 (by decide +kernel) (by decide +kernel)
theorem fl_X9_130 : Cond.fieldLink RX9 130 "StepBackModel" "far" "I" ∈ aw_gw := aw_at 648 (by decide +kernel) (by decide +kernel)
theorem fl_X9_133 : Cond.fieldLink RX9 133 "StepBackModel" "heads" "I" ∈ aw_gw := aw_at 649 (by decide +kernel) (by decide +kernel)
theorem fl_X9_136 : Cond.fieldLink RX9 136 "StepBackModel" "second" "I" ∈ aw_gw := aw_at 650 (by decide +kernel) (by decide +kernel)
theorem fl_X9_34 : Cond.fieldLink RX9 34 "StepBackModel" "orderWho" "[I" ∈ aw_gw := aw_at 651 (by decide +kernel) (by decide +kernel)
theorem fl_X9_37 : Cond.fieldLink RX9 37 "StepBackModel" "orderFar" "[I" ∈ aw_gw := aw_at 652 (by decide +kernel) (by decide +kernel)
theorem fl_X9_162 : Cond.fieldLink RX9 162 "StepBackModel" "orderLong" "I" ∈ aw_gw := aw_at 653 (by decide +kernel) (by decide +kernel)
theorem fl_X9_40 : Cond.fieldLink RX9 40 "StepBackModel" "groups" "[I" ∈ aw_gw := aw_at 654 (by decide +kernel) (by decide +kernel)
theorem fl_X9_104 : Cond.fieldLink RX9 104 "StepBackModel" "readings" "I" ∈ aw_gw := aw_at 655 (by decide +kernel) (by decide +kernel)
theorem fl_X9_43 : Cond.fieldLink RX9 43 "StepBackModel" "readWho" "[I" ∈ aw_gw := aw_at 656 (by decide +kernel) (by decide +kernel)
theorem fl_X9_46 : Cond.fieldLink RX9 46 "StepBackModel" "readFar" "[I" ∈ aw_gw := aw_at 657 (by decide +kernel) (by decide +kernel)
theorem fl_X9_49 : Cond.fieldLink RX9 49 "StepBackModel" "readOn" "[I" ∈ aw_gw := aw_at 658 (by decide +kernel) (by decide +kernel)
theorem su_X9 : Cond.superclass RX9 "java/lang/Object" ∈ aw_gw := aw_at 715 (by decide +kernel) (by decide +kernel)
theorem ml_L_17 : Cond.methodLink RL 17 yX9_line ∈ aw_gw := aw_at 716 (by decide +kernel) (by decide +kernel)
theorem im_X9_line : Cond.instanceMethod yX9_line ∈ aw_gw := aw_at 717 (by decide +kernel) (by decide +kernel)
theorem sl_X9_X9_line : Cond.selects RX9 yX9_line yX9_line ∈ aw_gw := aw_at 718 (by decide +kernel) (by decide +kernel)
theorem ml_X9_68 : Cond.methodLink RX9 68 yX9_isSheet ∈ aw_gw := aw_at 720 (by decide +kernel) (by decide +kernel)
theorem sm_X9_isSheet : Cond.static yX9_isSheet ∈ aw_gw := aw_at 721 (by decide +kernel) (by decide +kernel)
theorem ml_X9_58 : Cond.methodLink RX9 58 yX9_within ∈ aw_gw := aw_at 723 (by decide +kernel) (by decide +kernel)
theorem sm_X9_within : Cond.static yX9_within ∈ aw_gw := aw_at 724 (by decide +kernel) (by decide +kernel)
theorem ml_X9_72 : Cond.methodLink RX9 72 yX9_isSort ∈ aw_gw := aw_at 726 (by decide +kernel) (by decide +kernel)
theorem sm_X9_isSort : Cond.static yX9_isSort ∈ aw_gw := aw_at 727 (by decide +kernel) (by decide +kernel)
theorem ml_X9_75 : Cond.methodLink RX9 75 yX9_against ∈ aw_gw := aw_at 729 (by decide +kernel) (by decide +kernel)
theorem im_X9_against : Cond.instanceMethod yX9_against ∈ aw_gw := aw_at 731 (by decide +kernel) (by decide +kernel)
theorem ml_X9_79 : Cond.methodLink RX9 79 yX9_fails ∈ aw_gw := aw_at 733 (by decide +kernel) (by decide +kernel)
theorem im_X9_fails : Cond.instanceMethod yX9_fails ∈ aw_gw := aw_at 735 (by decide +kernel) (by decide +kernel)
theorem ml_X9_83 : Cond.methodLink RX9 83 yX9_readLine ∈ aw_gw := aw_at 737 (by decide +kernel) (by decide +kernel)
theorem im_X9_readLine : Cond.instanceMethod yX9_readLine ∈ aw_gw := aw_at 739 (by decide +kernel) (by decide +kernel)
theorem ml_X9_107 : Cond.methodLink RX9 107 yX9_isSign ∈ aw_gw := aw_at 741 (by decide +kernel) (by decide +kernel)
theorem im_X9_isSign : Cond.instanceMethod yX9_isSign ∈ aw_gw := aw_at 743 (by decide +kernel) (by decide +kernel)
theorem ml_X9_111 : Cond.methodLink RX9 111 yX9_digit ∈ aw_gw := aw_at 745 (by decide +kernel) (by decide +kernel)
theorem im_X9_digit : Cond.instanceMethod yX9_digit ∈ aw_gw := aw_at 747 (by decide +kernel) (by decide +kernel)
theorem ml_X9_114 : Cond.methodLink RX9 114 yX9_readPerson ∈ aw_gw := aw_at 749 (by decide +kernel) (by decide +kernel)
theorem im_X9_readPerson : Cond.instanceMethod yX9_readPerson ∈ aw_gw := aw_at 751 (by decide +kernel) (by decide +kernel)
theorem ml_X9_86 : Cond.methodLink RX9 86 yX9_takeLine ∈ aw_gw := aw_at 753 (by decide +kernel) (by decide +kernel)
theorem im_X9_takeLine : Cond.instanceMethod yX9_takeLine ∈ aw_gw := aw_at 755 (by decide +kernel) (by decide +kernel)
theorem ml_L_22 : Cond.methodLink RL 22 yX9_ofPerson ∈ aw_gw := aw_at 757 (by decide +kernel) (by decide +kernel)
theorem im_X9_ofPerson : Cond.instanceMethod yX9_ofPerson ∈ aw_gw := aw_at 758 (by decide +kernel) (by decide +kernel)
theorem sl_X9_X9_ofPerson : Cond.selects RX9 yX9_ofPerson yX9_ofPerson ∈ aw_gw := aw_at 759 (by decide +kernel) (by decide +kernel)
theorem ml_X9_120 : Cond.methodLink RX9 120 yX9_isPerson ∈ aw_gw := aw_at 761 (by decide +kernel) (by decide +kernel)
theorem im_X9_isPerson : Cond.instanceMethod yX9_isPerson ∈ aw_gw := aw_at 763 (by decide +kernel) (by decide +kernel)
theorem ml_X9_117 : Cond.methodLink RX9 117 yX9_wouldOf ∈ aw_gw := aw_at 765 (by decide +kernel) (by decide +kernel)
theorem im_X9_wouldOf : Cond.instanceMethod yX9_wouldOf ∈ aw_gw := aw_at 767 (by decide +kernel) (by decide +kernel)
theorem ml_X9_123 : Cond.methodLink RX9 123 yX9_mayOf ∈ aw_gw := aw_at 769 (by decide +kernel) (by decide +kernel)
theorem im_X9_mayOf : Cond.instanceMethod yX9_mayOf ∈ aw_gw := aw_at 771 (by decide +kernel) (by decide +kernel)
theorem ml_X9_126 : Cond.methodLink RX9 126 yX9_sumOf ∈ aw_gw := aw_at 773 (by decide +kernel) (by decide +kernel)
theorem im_X9_sumOf : Cond.instanceMethod yX9_sumOf ∈ aw_gw := aw_at 775 (by decide +kernel) (by decide +kernel)
theorem ml_L_26 : Cond.methodLink RL 26 yX9_hurry ∈ aw_gw := aw_at 777 (by decide +kernel) (by decide +kernel)
theorem im_X9_hurry : Cond.instanceMethod yX9_hurry ∈ aw_gw := aw_at 778 (by decide +kernel) (by decide +kernel)
theorem sl_X9_X9_hurry : Cond.selects RX9 yX9_hurry yX9_hurry ∈ aw_gw := aw_at 779 (by decide +kernel) (by decide +kernel)
theorem ml_L_30 : Cond.methodLink RL 30 yX9_wall ∈ aw_gw := aw_at 781 (by decide +kernel) (by decide +kernel)
theorem im_X9_wall : Cond.instanceMethod yX9_wall ∈ aw_gw := aw_at 782 (by decide +kernel) (by decide +kernel)
theorem sl_X9_X9_wall : Cond.selects RX9 yX9_wall yX9_wall ∈ aw_gw := aw_at 783 (by decide +kernel) (by decide +kernel)
theorem ml_L_35 : Cond.methodLink RL 35 yX9_lease ∈ aw_gw := aw_at 785 (by decide +kernel) (by decide +kernel)
theorem im_X9_lease : Cond.instanceMethod yX9_lease ∈ aw_gw := aw_at 786 (by decide +kernel) (by decide +kernel)
theorem sl_X9_X9_lease : Cond.selects RX9 yX9_lease yX9_lease ∈ aw_gw := aw_at 787 (by decide +kernel) (by decide +kernel)
theorem ml_L_40 : Cond.methodLink RL 40 yX9_go ∈ aw_gw := aw_at 789 (by decide +kernel) (by decide +kernel)
theorem im_X9_go : Cond.instanceMethod yX9_go ∈ aw_gw := aw_at 790 (by decide +kernel) (by decide +kernel)
theorem sl_X9_X9_go : Cond.selects RX9 yX9_go yX9_go ∈ aw_gw := aw_at 791 (by decide +kernel) (by decide +kernel)
theorem ml_X9_145 : Cond.methodLink RX9 145 yX9_callOf ∈ aw_gw := aw_at 793 (by decide +kernel) (by decide +kernel)
theorem im_X9_callOf : Cond.instanceMethod yX9_callOf ∈ aw_gw := aw_at 795 (by decide +kernel) (by decide +kernel)
theorem ml_X9_139 : Cond.methodLink RX9 139 yX9_isOf ∈ aw_gw := aw_at 797 (by decide +kernel) (by decide +kernel)
theorem sm_X9_isOf : Cond.static yX9_isOf ∈ aw_gw := aw_at 798 (by decide +kernel) (by decide +kernel)
theorem ml_X9_142 : Cond.methodLink RX9 142 yX9_leastOf ∈ aw_gw := aw_at 800 (by decide +kernel) (by decide +kernel)
theorem sm_X9_leastOf : Cond.static yX9_leastOf ∈ aw_gw := aw_at 801 (by decide +kernel) (by decide +kernel)
theorem ml_L_44 : Cond.methodLink RL 44 yX9_morning ∈ aw_gw := aw_at 803 (by decide +kernel) (by decide +kernel)
theorem im_X9_morning : Cond.instanceMethod yX9_morning ∈ aw_gw := aw_at 804 (by decide +kernel) (by decide +kernel)
theorem sl_X9_X9_morning : Cond.selects RX9 yX9_morning yX9_morning ∈ aw_gw := aw_at 805 (by decide +kernel) (by decide +kernel)
theorem ml_X9_148 : Cond.methodLink RX9 148 yX9_size ∈ aw_gw := aw_at 807 (by decide +kernel) (by decide +kernel)
theorem sm_X9_size : Cond.static yX9_size ∈ aw_gw := aw_at 808 (by decide +kernel) (by decide +kernel)
theorem ml_L_48 : Cond.methodLink RL 48 yX9_owes ∈ aw_gw := aw_at 810 (by decide +kernel) (by decide +kernel)
theorem im_X9_owes : Cond.instanceMethod yX9_owes ∈ aw_gw := aw_at 811 (by decide +kernel) (by decide +kernel)
theorem sl_X9_X9_owes : Cond.selects RX9 yX9_owes yX9_owes ∈ aw_gw := aw_at 812 (by decide +kernel) (by decide +kernel)
theorem ml_X9_151 : Cond.methodLink RX9 151 yX9_areTwo ∈ aw_gw := aw_at 814 (by decide +kernel) (by decide +kernel)
theorem im_X9_areTwo : Cond.instanceMethod yX9_areTwo ∈ aw_gw := aw_at 816 (by decide +kernel) (by decide +kernel)
theorem ml_L_53 : Cond.methodLink RL 53 yX9_pays ∈ aw_gw := aw_at 818 (by decide +kernel) (by decide +kernel)
theorem im_X9_pays : Cond.instanceMethod yX9_pays ∈ aw_gw := aw_at 819 (by decide +kernel) (by decide +kernel)
theorem sl_X9_X9_pays : Cond.selects RX9 yX9_pays yX9_pays ∈ aw_gw := aw_at 820 (by decide +kernel) (by decide +kernel)
theorem ml_L_58 : Cond.methodLink RL 58 yX9_calls ∈ aw_gw := aw_at 822 (by decide +kernel) (by decide +kernel)
theorem im_X9_calls : Cond.instanceMethod yX9_calls ∈ aw_gw := aw_at 823 (by decide +kernel) (by decide +kernel)
theorem sl_X9_X9_calls : Cond.selects RX9 yX9_calls yX9_calls ∈ aw_gw := aw_at 824 (by decide +kernel) (by decide +kernel)
theorem ml_X9_154 : Cond.methodLink RX9 154 yX9_goCalls ∈ aw_gw := aw_at 826 (by decide +kernel) (by decide +kernel)
theorem im_X9_goCalls : Cond.instanceMethod yX9_goCalls ∈ aw_gw := aw_at 828 (by decide +kernel) (by decide +kernel)
theorem ml_X9_158 : Cond.methodLink RX9 158 yX9_wouldGoOn ∈ aw_gw := aw_at 830 (by decide +kernel) (by decide +kernel)
theorem im_X9_wouldGoOn : Cond.instanceMethod yX9_wouldGoOn ∈ aw_gw := aw_at 832 (by decide +kernel) (by decide +kernel)
theorem ml_L_62 : Cond.methodLink RL 62 yX9_order ∈ aw_gw := aw_at 834 (by decide +kernel) (by decide +kernel)
theorem im_X9_order : Cond.instanceMethod yX9_order ∈ aw_gw := aw_at 835 (by decide +kernel) (by decide +kernel)
theorem sl_X9_X9_order : Cond.selects RX9 yX9_order yX9_order ∈ aw_gw := aw_at 836 (by decide +kernel) (by decide +kernel)
theorem ml_X9_165 : Cond.methodLink RX9 165 yX9_findOrder ∈ aw_gw := aw_at 838 (by decide +kernel) (by decide +kernel)
theorem im_X9_findOrder : Cond.instanceMethod yX9_findOrder ∈ aw_gw := aw_at 840 (by decide +kernel) (by decide +kernel)
theorem ml_L_66 : Cond.methodLink RL 66 yX9_loss ∈ aw_gw := aw_at 842 (by decide +kernel) (by decide +kernel)
theorem im_X9_loss : Cond.instanceMethod yX9_loss ∈ aw_gw := aw_at 843 (by decide +kernel) (by decide +kernel)
theorem sl_X9_X9_loss : Cond.selects RX9 yX9_loss yX9_loss ∈ aw_gw := aw_at 844 (by decide +kernel) (by decide +kernel)
theorem ml_X9_168 : Cond.methodLink RX9 168 yX9_leastLoss ∈ aw_gw := aw_at 846 (by decide +kernel) (by decide +kernel)
theorem im_X9_leastLoss : Cond.instanceMethod yX9_leastLoss ∈ aw_gw := aw_at 848 (by decide +kernel) (by decide +kernel)
theorem ml_L_70 : Cond.methodLink RL 70 yX9_let ∈ aw_gw := aw_at 850 (by decide +kernel) (by decide +kernel)
theorem im_X9_let : Cond.instanceMethod yX9_let ∈ aw_gw := aw_at 851 (by decide +kernel) (by decide +kernel)
theorem sl_X9_X9_let : Cond.selects RX9 yX9_let yX9_let ∈ aw_gw := aw_at 852 (by decide +kernel) (by decide +kernel)
theorem ml_L_74 : Cond.methodLink RL 74 yX9_balance ∈ aw_gw := aw_at 854 (by decide +kernel) (by decide +kernel)
theorem im_X9_balance : Cond.instanceMethod yX9_balance ∈ aw_gw := aw_at 855 (by decide +kernel) (by decide +kernel)
theorem sl_X9_X9_balance : Cond.selects RX9 yX9_balance yX9_balance ∈ aw_gw := aw_at 856 (by decide +kernel) (by decide +kernel)
theorem ml_X9_171 : Cond.methodLink RX9 171 yX9_balanceOf ∈ aw_gw := aw_at 858 (by decide +kernel) (by decide +kernel)
theorem im_X9_balanceOf : Cond.instanceMethod yX9_balanceOf ∈ aw_gw := aw_at 860 (by decide +kernel) (by decide +kernel)
theorem ml_L_78 : Cond.methodLink RL 78 yX9_cleared ∈ aw_gw := aw_at 862 (by decide +kernel) (by decide +kernel)
theorem im_X9_cleared : Cond.instanceMethod yX9_cleared ∈ aw_gw := aw_at 863 (by decide +kernel) (by decide +kernel)
theorem sl_X9_X9_cleared : Cond.selects RX9 yX9_cleared yX9_cleared ∈ aw_gw := aw_at 864 (by decide +kernel) (by decide +kernel)
theorem ml_X9_177 : Cond.methodLink RX9 177 yX9_mostGroups ∈ aw_gw := aw_at 866 (by decide +kernel) (by decide +kernel)
theorem im_X9_mostGroups : Cond.instanceMethod yX9_mostGroups ∈ aw_gw := aw_at 868 (by decide +kernel) (by decide +kernel)
theorem ml_X9_174 : Cond.methodLink RX9 174 yX9_isEven ∈ aw_gw := aw_at 870 (by decide +kernel) (by decide +kernel)
theorem im_X9_isEven : Cond.instanceMethod yX9_isEven ∈ aw_gw := aw_at 872 (by decide +kernel) (by decide +kernel)
theorem ml_L_82 : Cond.methodLink RL 82 yX9_were ∈ aw_gw := aw_at 874 (by decide +kernel) (by decide +kernel)
theorem im_X9_were : Cond.instanceMethod yX9_were ∈ aw_gw := aw_at 875 (by decide +kernel) (by decide +kernel)
theorem sl_X9_X9_were : Cond.selects RX9 yX9_were yX9_were ∈ aw_gw := aw_at 876 (by decide +kernel) (by decide +kernel)
theorem ml_L_86 : Cond.methodLink RL 86 yX9_reading ∈ aw_gw := aw_at 878 (by decide +kernel) (by decide +kernel)
theorem im_X9_reading : Cond.instanceMethod yX9_reading ∈ aw_gw := aw_at 879 (by decide +kernel) (by decide +kernel)
theorem sl_X9_X9_reading : Cond.selects RX9 yX9_reading yX9_reading ∈ aw_gw := aw_at 880 (by decide +kernel) (by decide +kernel)
theorem ml_L_90 : Cond.methodLink RL 90 yX9_back ∈ aw_gw := aw_at 882 (by decide +kernel) (by decide +kernel)
theorem im_X9_back : Cond.instanceMethod yX9_back ∈ aw_gw := aw_at 883 (by decide +kernel) (by decide +kernel)
theorem sl_X9_X9_back : Cond.selects RX9 yX9_back yX9_back ∈ aw_gw := aw_at 884 (by decide +kernel) (by decide +kernel)
theorem ml_L_94 : Cond.methodLink RL 94 yX9_hastes ∈ aw_gw := aw_at 886 (by decide +kernel) (by decide +kernel)
theorem im_X9_hastes : Cond.instanceMethod yX9_hastes ∈ aw_gw := aw_at 887 (by decide +kernel) (by decide +kernel)
theorem sl_X9_X9_hastes : Cond.selects RX9 yX9_hastes yX9_hastes ∈ aw_gw := aw_at 888 (by decide +kernel) (by decide +kernel)
theorem ml_X9_180 : Cond.methodLink RX9 180 yX9_areSo ∈ aw_gw := aw_at 890 (by decide +kernel) (by decide +kernel)
theorem im_X9_areSo : Cond.instanceMethod yX9_areSo ∈ aw_gw := aw_at 892 (by decide +kernel) (by decide +kernel)
theorem ml_L_98 : Cond.methodLink RL 98 yX9_rooms ∈ aw_gw := aw_at 894 (by decide +kernel) (by decide +kernel)
theorem im_X9_rooms : Cond.instanceMethod yX9_rooms ∈ aw_gw := aw_at 895 (by decide +kernel) (by decide +kernel)
theorem sl_X9_X9_rooms : Cond.selects RX9 yX9_rooms yX9_rooms ∈ aw_gw := aw_at 896 (by decide +kernel) (by decide +kernel)
theorem ml_L_102 : Cond.methodLink RL 102 yX9_kinds ∈ aw_gw := aw_at 898 (by decide +kernel) (by decide +kernel)
theorem im_X9_kinds : Cond.instanceMethod yX9_kinds ∈ aw_gw := aw_at 899 (by decide +kernel) (by decide +kernel)
theorem sl_X9_X9_kinds : Cond.selects RX9 yX9_kinds yX9_kinds ∈ aw_gw := aw_at 900 (by decide +kernel) (by decide +kernel)
theorem ml_L_107 : Cond.methodLink RL 107 yX9_odds ∈ aw_gw := aw_at 902 (by decide +kernel) (by decide +kernel)
theorem im_X9_odds : Cond.instanceMethod yX9_odds ∈ aw_gw := aw_at 903 (by decide +kernel) (by decide +kernel)
theorem sl_X9_X9_odds : Cond.selects RX9 yX9_odds yX9_odds ∈ aw_gw := aw_at 904 (by decide +kernel) (by decide +kernel)
theorem ct_X9_56 : Cond.constantLong RX9 56 (-9223372036854775808) ∈ aw_gw := aw_at 906 (by decide +kernel) (by decide +kernel)
theorem ml_X9_184 : Cond.methodLink RX9 184 yX9_inLeastTerms ∈ aw_gw := aw_at 907 (by decide +kernel) (by decide +kernel)
theorem sm_X9_inLeastTerms : Cond.static yX9_inLeastTerms ∈ aw_gw := aw_at 908 (by decide +kernel) (by decide +kernel)
theorem ml_L_111 : Cond.methodLink RL 111 yX9_sheet ∈ aw_gw := aw_at 910 (by decide +kernel) (by decide +kernel)
theorem im_X9_sheet : Cond.instanceMethod yX9_sheet ∈ aw_gw := aw_at 911 (by decide +kernel) (by decide +kernel)
theorem sl_X9_X9_sheet : Cond.selects RX9 yX9_sheet yX9_sheet ∈ aw_gw := aw_at 912 (by decide +kernel) (by decide +kernel)
theorem ml_L_115 : Cond.methodLink RL 115 yX9_lose ∈ aw_gw := aw_at 914 (by decide +kernel) (by decide +kernel)
theorem im_X9_lose : Cond.instanceMethod yX9_lose ∈ aw_gw := aw_at 915 (by decide +kernel) (by decide +kernel)
theorem sl_X9_X9_lose : Cond.selects RX9 yX9_lose yX9_lose ∈ aw_gw := aw_at 916 (by decide +kernel) (by decide +kernel)
theorem ml_L_119 : Cond.methodLink RL 119 yX9_put ∈ aw_gw := aw_at 918 (by decide +kernel) (by decide +kernel)
theorem im_X9_put : Cond.instanceMethod yX9_put ∈ aw_gw := aw_at 919 (by decide +kernel) (by decide +kernel)
theorem sl_X9_X9_put : Cond.selects RX9 yX9_put yX9_put ∈ aw_gw := aw_at 920 (by decide +kernel) (by decide +kernel)
theorem ml_L_124 : Cond.methodLink RL 124 yX9_cell ∈ aw_gw := aw_at 922 (by decide +kernel) (by decide +kernel)
theorem im_X9_cell : Cond.instanceMethod yX9_cell ∈ aw_gw := aw_at 923 (by decide +kernel) (by decide +kernel)
theorem sl_X9_X9_cell : Cond.selects RX9 yX9_cell yX9_cell ∈ aw_gw := aw_at 924 (by decide +kernel) (by decide +kernel)
theorem ml_X9_188 : Cond.methodLink RX9 188 yX9_lost ∈ aw_gw := aw_at 926 (by decide +kernel) (by decide +kernel)
theorem im_X9_lost : Cond.instanceMethod yX9_lost ∈ aw_gw := aw_at 928 (by decide +kernel) (by decide +kernel)
theorem ml_L_128 : Cond.methodLink RL 128 yX9_copy ∈ aw_gw := aw_at 930 (by decide +kernel) (by decide +kernel)
theorem im_X9_copy : Cond.instanceMethod yX9_copy ∈ aw_gw := aw_at 931 (by decide +kernel) (by decide +kernel)
theorem sl_X9_X9_copy : Cond.selects RX9 yX9_copy yX9_copy ∈ aw_gw := aw_at 932 (by decide +kernel) (by decide +kernel)
theorem ml_L_132 : Cond.methodLink RL 132 yX9_tell ∈ aw_gw := aw_at 934 (by decide +kernel) (by decide +kernel)
theorem im_X9_tell : Cond.instanceMethod yX9_tell ∈ aw_gw := aw_at 935 (by decide +kernel) (by decide +kernel)
theorem sl_X9_X9_tell : Cond.selects RX9 yX9_tell yX9_tell ∈ aw_gw := aw_at 936 (by decide +kernel) (by decide +kernel)
theorem ml_X9_195 : Cond.methodLink RX9 195 yX9_begins ∈ aw_gw := aw_at 938 (by decide +kernel) (by decide +kernel)
theorem im_X9_begins : Cond.instanceMethod yX9_begins ∈ aw_gw := aw_at 940 (by decide +kernel) (by decide +kernel)
theorem ml_L_136 : Cond.methodLink RL 136 yX9_hear ∈ aw_gw := aw_at 942 (by decide +kernel) (by decide +kernel)
theorem im_X9_hear : Cond.instanceMethod yX9_hear ∈ aw_gw := aw_at 943 (by decide +kernel) (by decide +kernel)
theorem sl_X9_X9_hear : Cond.selects RX9 yX9_hear yX9_hear ∈ aw_gw := aw_at 944 (by decide +kernel) (by decide +kernel)
theorem ml_L_140 : Cond.methodLink RL 140 yX9_as ∈ aw_gw := aw_at 946 (by decide +kernel) (by decide +kernel)
theorem im_X9_as : Cond.instanceMethod yX9_as ∈ aw_gw := aw_at 947 (by decide +kernel) (by decide +kernel)
theorem sl_X9_X9_as : Cond.selects RX9 yX9_as yX9_as ∈ aw_gw := aw_at 948 (by decide +kernel) (by decide +kernel)
theorem ml_L_144 : Cond.methodLink RL 144 yX9_trace ∈ aw_gw := aw_at 950 (by decide +kernel) (by decide +kernel)
theorem im_X9_trace : Cond.instanceMethod yX9_trace ∈ aw_gw := aw_at 951 (by decide +kernel) (by decide +kernel)
theorem sl_X9_X9_trace : Cond.selects RX9 yX9_trace yX9_trace ∈ aw_gw := aw_at 952 (by decide +kernel) (by decide +kernel)
theorem ml_L_148 : Cond.methodLink RL 148 yX9_fault ∈ aw_gw := aw_at 954 (by decide +kernel) (by decide +kernel)
theorem im_X9_fault : Cond.instanceMethod yX9_fault ∈ aw_gw := aw_at 955 (by decide +kernel) (by decide +kernel)
theorem sl_X9_X9_fault : Cond.selects RX9 yX9_fault yX9_fault ∈ aw_gw := aw_at 956 (by decide +kernel) (by decide +kernel)
theorem ml_L_152 : Cond.methodLink RL 152 yX9_many ∈ aw_gw := aw_at 958 (by decide +kernel) (by decide +kernel)
theorem im_X9_many : Cond.instanceMethod yX9_many ∈ aw_gw := aw_at 959 (by decide +kernel) (by decide +kernel)
theorem sl_X9_X9_many : Cond.selects RX9 yX9_many yX9_many ∈ aw_gw := aw_at 960 (by decide +kernel) (by decide +kernel)
theorem sa_X4_X4_telling : Cond.sameMethod "StepBack$Proud" "StepBack$Proud" "telling" "(LStepBack$Trace;)I" ∈ aw_gw := aw_at 962 (by decide +kernel) (by decide +kernel)
theorem sa_X3_X3_plainTelling : Cond.sameMethod "StepBack$Plain" "StepBack$Plain" "plainTelling" "(LStepBack$Trace;)I" ∈ aw_gw := aw_at 963 (by decide +kernel) (by decide +kernel)
theorem sl_X1_X3_plainTelling : Cond.selects RX1 yX3_plainTelling yX3_plainTelling ∈ aw_gw := aw_at 964 (by decide +kernel) (by decide +kernel)
theorem sl_X3_X3_plainTelling : Cond.selects RX3 yX3_plainTelling yX3_plainTelling ∈ aw_gw := aw_at 965 (by decide +kernel) (by decide +kernel)
theorem sl_X4_X3_plainTelling : Cond.selects RX4 yX3_plainTelling yX3_plainTelling ∈ aw_gw := aw_at 966 (by decide +kernel) (by decide +kernel)
theorem cd_X8_init : Cond.code yX8_init cX8_init 2 none ∈ aw_gw := aw_at 58 (by decide +kernel) (by decide +kernel)
theorem cw_X8_init : aw_cw yX8_init cX8_init 2 none 0 := ⟨in_X8, cd_X8_init, by decide, by decide, by decide +kernel⟩
theorem cd_objectInit : Cond.code objectInit ⟨#[0xb1]⟩ 1 none ∈ aw_gw := aw_at 61 (by decide +kernel) (by decide +kernel)
theorem cd_X2_init : Cond.code yX2_init cX2_init 1 none ∈ aw_gw := aw_at 70 (by decide +kernel) (by decide +kernel)
theorem cw_X2_init : aw_cw yX2_init cX2_init 1 none 0 := ⟨in_X2, cd_X2_init, by decide, by decide, by decide +kernel⟩
theorem cd_X0_init : Cond.code yX0_init cX0_init 1 none ∈ aw_gw := aw_at 97 (by decide +kernel) (by decide +kernel)
theorem cw_X0_init : aw_cw yX0_init cX0_init 1 none 0 := ⟨in_X0, cd_X0_init, by decide, by decide, by decide +kernel⟩
theorem cd_X5_init : Cond.code yX5_init cX5_init 1 none ∈ aw_gw := aw_at 115 (by decide +kernel) (by decide +kernel)
theorem cw_X5_init : aw_cw yX5_init cX5_init 1 none 0 := ⟨in_X5, cd_X5_init, by decide, by decide, by decide +kernel⟩
theorem cd_X7_init : Cond.code yX7_init cX7_init 1 none ∈ aw_gw := aw_at 136 (by decide +kernel) (by decide +kernel)
theorem cw_X7_init : aw_cw yX7_init cX7_init 1 none 0 := ⟨in_X7, cd_X7_init, by decide, by decide, by decide +kernel⟩
theorem cd_X6_init : Cond.code yX6_init cX6_init 1 none ∈ aw_gw := aw_at 146 (by decide +kernel) (by decide +kernel)
theorem cw_X6_init : aw_cw yX6_init cX6_init 1 none 0 := ⟨in_X6, cd_X6_init, by decide, by decide, by decide +kernel⟩
theorem cd_X8_line : Cond.code yX8_line cX8_line 8 (some .int) ∈ aw_gw := aw_at 204 (by decide +kernel) (by decide +kernel)
theorem cw_X8_line : aw_cw yX8_line cX8_line 8 (some .int) 4 := ⟨in_X8, cd_X8_line, by decide, by decide, by decide +kernel⟩
theorem cd_X8_sheetAt : Cond.code yX8_sheetAt cX8_sheetAt 2 (some (.object "StepBack$Row")) ∈ aw_gw := aw_at 208 (by decide +kernel) (by decide +kernel)
theorem cw_X8_sheetAt : aw_cw yX8_sheetAt cX8_sheetAt 2 (some (.object "StepBack$Row")) 1 := ⟨in_X8, cd_X8_sheetAt, by decide, by decide, by decide +kernel⟩
theorem cd_X8_isLane : Cond.code yX8_isLane cX8_isLane 1 (some .boolean) ∈ aw_gw := aw_at 211 (by decide +kernel) (by decide +kernel)
theorem cw_X8_isLane : aw_cw yX8_isLane cX8_isLane 1 (some .boolean) 1 := ⟨in_X8, cd_X8_isLane, by decide, by decide, by decide +kernel⟩
theorem cd_X8_isWithin : Cond.code yX8_isWithin cX8_isWithin 3 (some .boolean) ∈ aw_gw := aw_at 214 (by decide +kernel) (by decide +kernel)
theorem cw_X8_isWithin : aw_cw yX8_isWithin cX8_isWithin 3 (some .boolean) 3 := ⟨in_X8, cd_X8_isWithin, by decide, by decide, by decide +kernel⟩
theorem cd_X8_faultOfTaking : Cond.code yX8_faultOfTaking cX8_faultOfTaking 4 (some .int) ∈ aw_gw := aw_at 217 (by decide +kernel) (by decide +kernel)
theorem cw_X8_faultOfTaking : aw_cw yX8_faultOfTaking cX8_faultOfTaking 4 (some .int) 4 := ⟨in_X8, cd_X8_faultOfTaking, by decide, by decide, by decide +kernel⟩
theorem cd_X6_hasCells : Cond.code yX6_hasCells cX6_hasCells 3 (some .boolean) ∈ aw_gw := aw_at 221 (by decide +kernel) (by decide +kernel)
theorem cw_X6_hasCells : aw_cw yX6_hasCells cX6_hasCells 3 (some .boolean) 2 := ⟨in_X6, cd_X6_hasCells, by decide, by decide, by decide +kernel⟩
theorem cd_X8_faulted : Cond.code yX8_faulted cX8_faulted 2 (some .int) ∈ aw_gw := aw_at 225 (by decide +kernel) (by decide +kernel)
theorem cw_X8_faulted : aw_cw yX8_faulted cX8_faulted 2 (some .int) 1 := ⟨in_X8, cd_X8_faulted, by decide, by decide, by decide +kernel⟩
theorem cd_X8_firstFault : Cond.code yX8_firstFault cX8_firstFault 4 (some .int) ∈ aw_gw := aw_at 228 (by decide +kernel) (by decide +kernel)
theorem cw_X8_firstFault : aw_cw yX8_firstFault cX8_firstFault 4 (some .int) 3 := ⟨in_X8, cd_X8_firstFault, by decide, by decide, by decide +kernel⟩
theorem cd_X6_read : Cond.code yX6_read cX6_read 2 (some .int) ∈ aw_gw := aw_at 232 (by decide +kernel) (by decide +kernel)
theorem cw_X6_read : aw_cw yX6_read cX6_read 2 (some .int) 1 := ⟨in_X6, cd_X6_read, by decide, by decide, by decide +kernel⟩
theorem cd_X8_isFit : Cond.code yX8_isFit cX8_isFit 2 (some .boolean) ∈ aw_gw := aw_at 236 (by decide +kernel) (by decide +kernel)
theorem cw_X8_isFit : aw_cw yX8_isFit cX8_isFit 2 (some .boolean) 2 := ⟨in_X8, cd_X8_isFit, by decide, by decide, by decide +kernel⟩
theorem cd_X8_isDigit : Cond.code yX8_isDigit cX8_isDigit 1 (some .boolean) ∈ aw_gw := aw_at 239 (by decide +kernel) (by decide +kernel)
theorem cw_X8_isDigit : aw_cw yX8_isDigit cX8_isDigit 1 (some .boolean) 1 := ⟨in_X8, cd_X8_isDigit, by decide, by decide, by decide +kernel⟩
theorem cd_X8_takeText : Cond.code yX8_takeText cX8_takeText 6 none ∈ aw_gw := aw_at 243 (by decide +kernel) (by decide +kernel)
theorem cw_X8_takeText : aw_cw yX8_takeText cX8_takeText 6 none 3 := ⟨in_X8, cd_X8_takeText, by decide, by decide, by decide +kernel⟩
theorem cd_Math_min : Cond.code Lib.Math.min.name Lib.Math.min.code 2 (some .int) ∈ aw_gw := aw_at 246 (by decide +kernel) (by decide +kernel)
theorem cw_Math_min : aw_cw Lib.Math.min.name Lib.Math.min.code 2 (some .int) 2 := ⟨in_J9, cd_Math_min, by decide, by decide, by decide +kernel⟩
theorem cd_X8_newPerson : Cond.code yX8_newPerson cX8_newPerson 4 (some (.object "StepBack$Plain")) ∈ aw_gw := aw_at 249 (by decide +kernel) (by decide +kernel)
theorem cw_X8_newPerson : aw_cw yX8_newPerson cX8_newPerson 4 (some (.object "StepBack$Plain")) 4 := ⟨in_X8, cd_X8_newPerson, by decide, by decide, by decide +kernel⟩
theorem cd_X4_init : Cond.code yX4_init cX4_init 4 none ∈ aw_gw := aw_at 254 (by decide +kernel) (by decide +kernel)
theorem cw_X4_init : aw_cw yX4_init cX4_init 4 none 3 := ⟨in_X4, cd_X4_init, by decide, by decide, by decide +kernel⟩
theorem cd_X3_init : Cond.code yX3_init cX3_init 4 none ∈ aw_gw := aw_at 257 (by decide +kernel) (by decide +kernel)
theorem cw_X3_init : aw_cw yX3_init cX3_init 4 none 3 := ⟨in_X3, cd_X3_init, by decide, by decide, by decide +kernel⟩
theorem cd_X1_init : Cond.code yX1_init cX1_init 4 none ∈ aw_gw := aw_at 275 (by decide +kernel) (by decide +kernel)
theorem cw_X1_init : aw_cw yX1_init cX1_init 4 none 3 := ⟨in_X1, cd_X1_init, by decide, by decide, by decide +kernel⟩
theorem cd_X8_everybody : Cond.code yX8_everybody cX8_everybody 1 (some .int) ∈ aw_gw := aw_at 290 (by decide +kernel) (by decide +kernel)
theorem cw_X8_everybody : aw_cw yX8_everybody cX8_everybody 1 (some .int) 0 := ⟨in_X8, cd_X8_everybody, by decide, by decide, by decide +kernel⟩
theorem cd_X8_bit : Cond.code yX8_bit cX8_bit 1 (some .int) ∈ aw_gw := aw_at 293 (by decide +kernel) (by decide +kernel)
theorem cw_X8_bit : aw_cw yX8_bit cX8_bit 1 (some .int) 1 := ⟨in_X8, cd_X8_bit, by decide, by decide, by decide +kernel⟩
theorem cd_X0_forget : Cond.code yX0_forget cX0_forget 3 none ∈ aw_gw := aw_at 297 (by decide +kernel) (by decide +kernel)
theorem cw_X0_forget : aw_cw yX0_forget cX0_forget 3 none 0 := ⟨in_X0, cd_X0_forget, by decide, by decide, by decide +kernel⟩
theorem cd_X8_ofPerson : Cond.code yX8_ofPerson cX8_ofPerson 4 (some .int) ∈ aw_gw := aw_at 301 (by decide +kernel) (by decide +kernel)
theorem cw_X8_ofPerson : aw_cw yX8_ofPerson cX8_ofPerson 4 (some .int) 2 := ⟨in_X8, cd_X8_ofPerson, by decide, by decide, by decide +kernel⟩
theorem cd_X8_personAt : Cond.code yX8_personAt cX8_personAt 2 (some (.object "StepBack$Plain")) ∈ aw_gw := aw_at 305 (by decide +kernel) (by decide +kernel)
theorem cw_X8_personAt : aw_cw yX8_personAt cX8_personAt 2 (some (.object "StepBack$Plain")) 1 := ⟨in_X8, cd_X8_personAt, by decide, by decide, by decide +kernel⟩
theorem cd_X1_kind : Cond.code yX1_kind cX1_kind 1 (some .int) ∈ aw_gw := aw_at 312 (by decide +kernel) (by decide +kernel)
theorem cw_X1_kind : aw_cw yX1_kind cX1_kind 1 (some .int) 0 := ⟨in_X1, cd_X1_kind, by decide, by decide, by decide +kernel⟩
theorem cd_X4_kind : Cond.code yX4_kind cX4_kind 1 (some .int) ∈ aw_gw := aw_at 315 (by decide +kernel) (by decide +kernel)
theorem cw_X4_kind : aw_cw yX4_kind cX4_kind 1 (some .int) 0 := ⟨in_X4, cd_X4_kind, by decide, by decide, by decide +kernel⟩
theorem cd_X3_kind : Cond.code yX3_kind cX3_kind 1 (some .int) ∈ aw_gw := aw_at 316 (by decide +kernel) (by decide +kernel)
theorem cw_X3_kind : aw_cw yX3_kind cX3_kind 1 (some .int) 0 := ⟨in_X3, cd_X3_kind, by decide, by decide, by decide +kernel⟩
theorem cd_X8_wouldGo : Cond.code yX8_wouldGo cX8_wouldGo 2 (some .int) ∈ aw_gw := aw_at 319 (by decide +kernel) (by decide +kernel)
theorem cw_X8_wouldGo : aw_cw yX8_wouldGo cX8_wouldGo 2 (some .int) 2 := ⟨in_X8, cd_X8_wouldGo, by decide, by decide, by decide +kernel⟩
theorem cd_X8_mayGo : Cond.code yX8_mayGo cX8_mayGo 4 (some .int) ∈ aw_gw := aw_at 323 (by decide +kernel) (by decide +kernel)
theorem cw_X8_mayGo : aw_cw yX8_mayGo cX8_mayGo 4 (some .int) 3 := ⟨in_X8, cd_X8_mayGo, by decide, by decide, by decide +kernel⟩
theorem cd_X8_has : Cond.code yX8_has cX8_has 2 (some .boolean) ∈ aw_gw := aw_at 326 (by decide +kernel) (by decide +kernel)
theorem cw_X8_has : aw_cw yX8_has cX8_has 2 (some .boolean) 2 := ⟨in_X8, cd_X8_has, by decide, by decide, by decide +kernel⟩
theorem cd_X0_owedBy : Cond.code yX0_owedBy cX0_owedBy 4 (some .int) ∈ aw_gw := aw_at 330 (by decide +kernel) (by decide +kernel)
theorem cw_X0_owedBy : aw_cw yX0_owedBy cX0_owedBy 4 (some .int) 1 := ⟨in_X0, cd_X0_owedBy, by decide, by decide, by decide +kernel⟩
theorem cd_X0_between : Cond.code yX0_between cX0_between 3 (some .int) ∈ aw_gw := aw_at 334 (by decide +kernel) (by decide +kernel)
theorem cw_X0_between : aw_cw yX0_between cX0_between 3 (some .int) 2 := ⟨in_X0, cd_X0_between, by decide, by decide, by decide +kernel⟩
theorem cd_X0_areNumbers : Cond.code yX0_areNumbers cX0_areNumbers 2 (some .boolean) ∈ aw_gw := aw_at 337 (by decide +kernel) (by decide +kernel)
theorem cw_X0_areNumbers : aw_cw yX0_areNumbers cX0_areNumbers 2 (some .boolean) 2 := ⟨in_X0, cd_X0_areNumbers, by decide, by decide, by decide +kernel⟩
theorem cd_X0_owedTo : Cond.code yX0_owedTo cX0_owedTo 4 (some .int) ∈ aw_gw := aw_at 342 (by decide +kernel) (by decide +kernel)
theorem cw_X0_owedTo : aw_cw yX0_owedTo cX0_owedTo 4 (some .int) 1 := ⟨in_X0, cd_X0_owedTo, by decide, by decide, by decide +kernel⟩
theorem cd_X8_hurry : Cond.code yX8_hurry cX8_hurry 5 (some .int) ∈ aw_gw := aw_at 346 (by decide +kernel) (by decide +kernel)
theorem cw_X8_hurry : aw_cw yX8_hurry cX8_hurry 5 (some .int) 2 := ⟨in_X8, cd_X8_hurry, by decide, by decide, by decide +kernel⟩
theorem cd_X8_wall : Cond.code yX8_wall cX8_wall 5 (some .int) ∈ aw_gw := aw_at 350 (by decide +kernel) (by decide +kernel)
theorem cw_X8_wall : aw_cw yX8_wall cX8_wall 5 (some .int) 2 := ⟨in_X8, cd_X8_wall, by decide, by decide, by decide +kernel⟩
theorem cd_X8_lease : Cond.code yX8_lease cX8_lease 3 (some .int) ∈ aw_gw := aw_at 354 (by decide +kernel) (by decide +kernel)
theorem cw_X8_lease : aw_cw yX8_lease cX8_lease 3 (some .int) 1 := ⟨in_X8, cd_X8_lease, by decide, by decide, by decide +kernel⟩
theorem cd_X8_go : Cond.code yX8_go cX8_go 2 (some .int) ∈ aw_gw := aw_at 358 (by decide +kernel) (by decide +kernel)
theorem cw_X8_go : aw_cw yX8_go cX8_go 2 (some .int) 0 := ⟨in_X8, cd_X8_go, by decide, by decide, by decide +kernel⟩
theorem cd_X8_maysNow : Cond.code yX8_maysNow cX8_maysNow 3 (some (.array .int)) ∈ aw_gw := aw_at 362 (by decide +kernel) (by decide +kernel)
theorem cw_X8_maysNow : aw_cw yX8_maysNow cX8_maysNow 3 (some (.array .int)) 0 := ⟨in_X8, cd_X8_maysNow, by decide, by decide, by decide +kernel⟩
theorem cd_X2_letDown : Cond.code yX2_letDown cX2_letDown 5 (some .int) ∈ aw_gw := aw_at 366 (by decide +kernel) (by decide +kernel)
theorem cw_X2_letDown : aw_cw yX2_letDown cX2_letDown 5 (some .int) 2 := ⟨in_X2, cd_X2_letDown, by decide, by decide, by decide +kernel⟩
theorem cd_X2_goesRound : Cond.code yX2_goesRound cX2_goesRound 5 (some .boolean) ∈ aw_gw := aw_at 370 (by decide +kernel) (by decide +kernel)
theorem cw_X2_goesRound : aw_cw yX2_goesRound cX2_goesRound 5 (some .boolean) 2 := ⟨in_X2, cd_X2_goesRound, by decide, by decide, by decide +kernel⟩
theorem cd_X2_leastOf : Cond.code yX2_leastOf cX2_leastOf 2 (some .int) ∈ aw_gw := aw_at 374 (by decide +kernel) (by decide +kernel)
theorem cw_X2_leastOf : aw_cw yX2_leastOf cX2_leastOf 2 (some .int) 1 := ⟨in_X2, cd_X2_leastOf, by decide, by decide, by decide +kernel⟩
theorem cd_X0_add : Cond.code yX0_add cX0_add 4 none ∈ aw_gw := aw_at 378 (by decide +kernel) (by decide +kernel)
theorem cw_X0_add : aw_cw yX0_add cX0_add 4 none 3 := ⟨in_X0, cd_X0_add, by decide, by decide, by decide +kernel⟩
theorem cd_X8_morning : Cond.code yX8_morning cX8_morning 2 (some .int) ∈ aw_gw := aw_at 382 (by decide +kernel) (by decide +kernel)
theorem cw_X8_morning : aw_cw yX8_morning cX8_morning 2 (some .int) 0 := ⟨in_X8, cd_X8_morning, by decide, by decide, by decide +kernel⟩
theorem cd_J6_bitCount_0f7a4 : Cond.code yJ6_bitCount_0f7a4 cJ6_bitCount_0f7a4 1 (some .int) ∈ aw_gw := aw_at 385 (by decide +kernel) (by decide +kernel)
theorem cw_J6_bitCount_0f7a4 : aw_cw yJ6_bitCount_0f7a4 cJ6_bitCount_0f7a4 1 (some .int) 1 := ⟨in_J6, cd_J6_bitCount_0f7a4, by decide, by decide, by decide +kernel⟩
theorem cd_X8_owes : Cond.code yX8_owes cX8_owes 3 (some .int) ∈ aw_gw := aw_at 392 (by decide +kernel) (by decide +kernel)
theorem cw_X8_owes : aw_cw yX8_owes cX8_owes 3 (some .int) 2 := ⟨in_X8, cd_X8_owes, by decide, by decide, by decide +kernel⟩
theorem cd_X8_areTwo : Cond.code yX8_areTwo cX8_areTwo 3 (some .boolean) ∈ aw_gw := aw_at 396 (by decide +kernel) (by decide +kernel)
theorem cw_X8_areTwo : aw_cw yX8_areTwo cX8_areTwo 3 (some .boolean) 2 := ⟨in_X8, cd_X8_areTwo, by decide, by decide, by decide +kernel⟩
theorem cd_X8_pays : Cond.code yX8_pays cX8_pays 4 (some .int) ∈ aw_gw := aw_at 401 (by decide +kernel) (by decide +kernel)
theorem cw_X8_pays : aw_cw yX8_pays cX8_pays 4 (some .int) 3 := ⟨in_X8, cd_X8_pays, by decide, by decide, by decide +kernel⟩
theorem cd_X8_calls : Cond.code yX8_calls cX8_calls 8 (some .int) ∈ aw_gw := aw_at 405 (by decide +kernel) (by decide +kernel)
theorem cw_X8_calls : aw_cw yX8_calls cX8_calls 8 (some .int) 5 := ⟨in_X8, cd_X8_calls, by decide, by decide, by decide +kernel⟩
theorem cd_X8_allNameSomebody : Cond.code yX8_allNameSomebody cX8_allNameSomebody 5 (some .boolean) ∈ aw_gw := aw_at 409 (by decide +kernel) (by decide +kernel)
theorem cw_X8_allNameSomebody : aw_cw yX8_allNameSomebody cX8_allNameSomebody 5 (some .boolean) 3 := ⟨in_X8, cd_X8_allNameSomebody, by decide, by decide, by decide +kernel⟩
theorem cd_X8_callsTold : Cond.code yX8_callsTold cX8_callsTold 11 (some .int) ∈ aw_gw := aw_at 413 (by decide +kernel) (by decide +kernel)
theorem cw_X8_callsTold : aw_cw yX8_callsTold cX8_callsTold 11 (some .int) 4 := ⟨in_X8, cd_X8_callsTold, by decide, by decide, by decide +kernel⟩
theorem cd_X8_howManyGoOn : Cond.code yX8_howManyGoOn cX8_howManyGoOn 6 (some .int) ∈ aw_gw := aw_at 417 (by decide +kernel) (by decide +kernel)
theorem cw_X8_howManyGoOn : aw_cw yX8_howManyGoOn cX8_howManyGoOn 6 (some .int) 3 := ⟨in_X8, cd_X8_howManyGoOn, by decide, by decide, by decide +kernel⟩
theorem cd_X8_order : Cond.code yX8_order cX8_order 4 (some .int) ∈ aw_gw := aw_at 421 (by decide +kernel) (by decide +kernel)
theorem cw_X8_order : aw_cw yX8_order cX8_order 4 (some .int) 2 := ⟨in_X8, cd_X8_order, by decide, by decide, by decide +kernel⟩
theorem cd_X2_goThroughAll : Cond.code yX2_goThroughAll cX2_goThroughAll 7 (some .int) ∈ aw_gw := aw_at 425 (by decide +kernel) (by decide +kernel)
theorem cw_X2_goThroughAll : aw_cw yX2_goThroughAll cX2_goThroughAll 7 (some .int) 2 := ⟨in_X2, cd_X2_goThroughAll, by decide, by decide, by decide +kernel⟩
theorem cd_X8_loss : Cond.code yX8_loss cX8_loss 2 (some .int) ∈ aw_gw := aw_at 431 (by decide +kernel) (by decide +kernel)
theorem cw_X8_loss : aw_cw yX8_loss cX8_loss 2 (some .int) 1 := ⟨in_X8, cd_X8_loss, by decide, by decide, by decide +kernel⟩
theorem cd_X8_lossOfOrder : Cond.code yX8_lossOfOrder cX8_lossOfOrder 4 (some .int) ∈ aw_gw := aw_at 435 (by decide +kernel) (by decide +kernel)
theorem cw_X8_lossOfOrder : aw_cw yX8_lossOfOrder cX8_lossOfOrder 4 (some .int) 0 := ⟨in_X8, cd_X8_lossOfOrder, by decide, by decide, by decide +kernel⟩
theorem cd_X8_hasteOf : Cond.code yX8_hasteOf cX8_hasteOf 3 (some .int) ∈ aw_gw := aw_at 439 (by decide +kernel) (by decide +kernel)
theorem cw_X8_hasteOf : aw_cw yX8_hasteOf cX8_hasteOf 3 (some .int) 1 := ⟨in_X8, cd_X8_hasteOf, by decide, by decide, by decide +kernel⟩
theorem cd_X8_leastLoss : Cond.code yX8_leastLoss cX8_leastLoss 5 (some .int) ∈ aw_gw := aw_at 443 (by decide +kernel) (by decide +kernel)
theorem cw_X8_leastLoss : aw_cw yX8_leastLoss cX8_leastLoss 5 (some .int) 0 := ⟨in_X8, cd_X8_leastLoss, by decide, by decide, by decide +kernel⟩
theorem cd_X8_let : Cond.code yX8_let cX8_let 6 (some .int) ∈ aw_gw := aw_at 447 (by decide +kernel) (by decide +kernel)
theorem cw_X8_let : aw_cw yX8_let cX8_let 6 (some .int) 2 := ⟨in_X8, cd_X8_let, by decide, by decide, by decide +kernel⟩
theorem cd_X2_placeOf : Cond.code yX2_placeOf cX2_placeOf 6 (some .int) ∈ aw_gw := aw_at 451 (by decide +kernel) (by decide +kernel)
theorem cw_X2_placeOf : aw_cw yX2_placeOf cX2_placeOf 6 (some .int) 3 := ⟨in_X2, cd_X2_placeOf, by decide, by decide, by decide +kernel⟩
theorem cd_X8_balance : Cond.code yX8_balance cX8_balance 2 (some .int) ∈ aw_gw := aw_at 456 (by decide +kernel) (by decide +kernel)
theorem cw_X8_balance : aw_cw yX8_balance cX8_balance 2 (some .int) 1 := ⟨in_X8, cd_X8_balance, by decide, by decide, by decide +kernel⟩
theorem cd_X0_balanceOf : Cond.code yX0_balanceOf cX0_balanceOf 2 (some .int) ∈ aw_gw := aw_at 460 (by decide +kernel) (by decide +kernel)
theorem cw_X0_balanceOf : aw_cw yX0_balanceOf cX0_balanceOf 2 (some .int) 1 := ⟨in_X0, cd_X0_balanceOf, by decide, by decide, by decide +kernel⟩
theorem cd_X8_cleared : Cond.code yX8_cleared cX8_cleared 2 (some .int) ∈ aw_gw := aw_at 466 (by decide +kernel) (by decide +kernel)
theorem cw_X8_cleared : aw_cw yX8_cleared cX8_cleared 2 (some .int) 1 := ⟨in_X8, cd_X8_cleared, by decide, by decide, by decide +kernel⟩
theorem cd_X0_leastSteps : Cond.code yX0_leastSteps cX0_leastSteps 3 (some .int) ∈ aw_gw := aw_at 470 (by decide +kernel) (by decide +kernel)
theorem cw_X0_leastSteps : aw_cw yX0_leastSteps cX0_leastSteps 3 (some .int) 0 := ⟨in_X0, cd_X0_leastSteps, by decide, by decide, by decide +kernel⟩
theorem cd_Math_max : Cond.code Lib.Math.max.name Lib.Math.max.code 2 (some .int) ∈ aw_gw := aw_at 474 (by decide +kernel) (by decide +kernel)
theorem cw_Math_max : aw_cw Lib.Math.max.name Lib.Math.max.code 2 (some .int) 2 := ⟨in_J9, cd_Math_max, by decide, by decide, by decide +kernel⟩
theorem cd_X0_leastPayments : Cond.code yX0_leastPayments cX0_leastPayments 2 (some .int) ∈ aw_gw := aw_at 478 (by decide +kernel) (by decide +kernel)
theorem cw_X0_leastPayments : aw_cw yX0_leastPayments cX0_leastPayments 2 (some .int) 0 := ⟨in_X0, cd_X0_leastPayments, by decide, by decide, by decide +kernel⟩
theorem cd_X0_mostGroups : Cond.code yX0_mostGroups cX0_mostGroups 5 (some .int) ∈ aw_gw := aw_at 482 (by decide +kernel) (by decide +kernel)
theorem cw_X0_mostGroups : aw_cw yX0_mostGroups cX0_mostGroups 5 (some .int) 1 := ⟨in_X0, cd_X0_mostGroups, by decide, by decide, by decide +kernel⟩
theorem cd_X8_were : Cond.code yX8_were cX8_were 9 (some .int) ∈ aw_gw := aw_at 488 (by decide +kernel) (by decide +kernel)
theorem cw_X8_were : aw_cw yX8_were cX8_were 9 (some .int) 3 := ⟨in_X8, cd_X8_were, by decide, by decide, by decide +kernel⟩
theorem cd_X8_reading : Cond.code yX8_reading cX8_reading 4 (some .int) ∈ aw_gw := aw_at 492 (by decide +kernel) (by decide +kernel)
theorem cw_X8_reading : aw_cw yX8_reading cX8_reading 4 (some .int) 3 := ⟨in_X8, cd_X8_reading, by decide, by decide, by decide +kernel⟩
theorem cd_X5_add : Cond.code yX5_add cX5_add 4 (some .int) ∈ aw_gw := aw_at 496 (by decide +kernel) (by decide +kernel)
theorem cw_X5_add : aw_cw yX5_add cX5_add 4 (some .int) 3 := ⟨in_X5, cd_X5_add, by decide, by decide, by decide +kernel⟩
theorem cd_X8_back : Cond.code yX8_back cX8_back 2 (some .int) ∈ aw_gw := aw_at 501 (by decide +kernel) (by decide +kernel)
theorem cw_X8_back : aw_cw yX8_back cX8_back 2 (some .int) 1 := ⟨in_X8, cd_X8_back, by decide, by decide, by decide +kernel⟩
theorem cd_X8_hastes : Cond.code yX8_hastes cX8_hastes 6 (some .int) ∈ aw_gw := aw_at 505 (by decide +kernel) (by decide +kernel)
theorem cw_X8_hastes : aw_cw yX8_hastes cX8_hastes 6 (some .int) 1 := ⟨in_X8, cd_X8_hastes, by decide, by decide, by decide +kernel⟩
theorem cd_X5_areSo : Cond.code yX5_areSo cX5_areSo 3 (some .boolean) ∈ aw_gw := aw_at 509 (by decide +kernel) (by decide +kernel)
theorem cw_X5_areSo : aw_cw yX5_areSo cX5_areSo 3 (some .boolean) 1 := ⟨in_X5, cd_X5_areSo, by decide, by decide, by decide +kernel⟩
theorem cd_X8_rooms : Cond.code yX8_rooms cX8_rooms 6 (some .int) ∈ aw_gw := aw_at 513 (by decide +kernel) (by decide +kernel)
theorem cw_X8_rooms : aw_cw yX8_rooms cX8_rooms 6 (some .int) 1 := ⟨in_X8, cd_X8_rooms, by decide, by decide, by decide +kernel⟩
theorem cd_X8_kinds : Cond.code yX8_kinds cX8_kinds 6 (some .int) ∈ aw_gw := aw_at 517 (by decide +kernel) (by decide +kernel)
theorem cw_X8_kinds : aw_cw yX8_kinds cX8_kinds 6 (some .int) 1 := ⟨in_X8, cd_X8_kinds, by decide, by decide, by decide +kernel⟩
theorem cd_X8_odds : Cond.code yX8_odds cX8_odds 7 (some .long) ∈ aw_gw := aw_at 521 (by decide +kernel) (by decide +kernel)
theorem cw_X8_odds : aw_cw yX8_odds cX8_odds 7 (some .long) 2 := ⟨in_X8, cd_X8_odds, by decide, by decide, by decide +kernel⟩
theorem cd_X8_sheet : Cond.code yX8_sheet cX8_sheet 5 (some .int) ∈ aw_gw := aw_at 526 (by decide +kernel) (by decide +kernel)
theorem cw_X8_sheet : aw_cw yX8_sheet cX8_sheet 5 (some .int) 3 := ⟨in_X8, cd_X8_sheet, by decide, by decide, by decide +kernel⟩
theorem cd_X6_renew : Cond.code yX6_renew cX6_renew 4 none ∈ aw_gw := aw_at 530 (by decide +kernel) (by decide +kernel)
theorem cw_X6_renew : aw_cw yX6_renew cX6_renew 4 none 2 := ⟨in_X6, cd_X6_renew, by decide, by decide, by decide +kernel⟩
theorem cd_X8_lose : Cond.code yX8_lose cX8_lose 4 (some .int) ∈ aw_gw := aw_at 536 (by decide +kernel) (by decide +kernel)
theorem cw_X8_lose : aw_cw yX8_lose cX8_lose 4 (some .int) 1 := ⟨in_X8, cd_X8_lose, by decide, by decide, by decide +kernel⟩
theorem cd_X8_put : Cond.code yX8_put cX8_put 6 (some .int) ∈ aw_gw := aw_at 540 (by decide +kernel) (by decide +kernel)
theorem cw_X8_put : aw_cw yX8_put cX8_put 6 (some .int) 3 := ⟨in_X8, cd_X8_put, by decide, by decide, by decide +kernel⟩
theorem cd_X6_write : Cond.code yX6_write cX6_write 3 none ∈ aw_gw := aw_at 544 (by decide +kernel) (by decide +kernel)
theorem cw_X6_write : aw_cw yX6_write cX6_write 3 none 2 := ⟨in_X6, cd_X6_write, by decide, by decide, by decide +kernel⟩
theorem cd_X6_cut : Cond.code yX6_cut cX6_cut 2 (some .int) ∈ aw_gw := aw_at 548 (by decide +kernel) (by decide +kernel)
theorem cw_X6_cut : aw_cw yX6_cut cX6_cut 2 (some .int) 1 := ⟨in_X6, cd_X6_cut, by decide, by decide, by decide +kernel⟩
theorem cd_X8_cell : Cond.code yX8_cell cX8_cell 5 (some .long) ∈ aw_gw := aw_at 552 (by decide +kernel) (by decide +kernel)
theorem cw_X8_cell : aw_cw yX8_cell cX8_cell 5 (some .long) 3 := ⟨in_X8, cd_X8_cell, by decide, by decide, by decide +kernel⟩
theorem cd_X8_copy : Cond.code yX8_copy cX8_copy 8 (some .int) ∈ aw_gw := aw_at 556 (by decide +kernel) (by decide +kernel)
theorem cw_X8_copy : aw_cw yX8_copy cX8_copy 8 (some .int) 5 := ⟨in_X8, cd_X8_copy, by decide, by decide, by decide +kernel⟩
theorem cd_X8_tell : Cond.code yX8_tell cX8_tell 3 (some .int) ∈ aw_gw := aw_at 563 (by decide +kernel) (by decide +kernel)
theorem cw_X8_tell : aw_cw yX8_tell cX8_tell 3 (some .int) 1 := ⟨in_X8, cd_X8_tell, by decide, by decide, by decide +kernel⟩
theorem cd_X1_telling : Cond.code yX1_telling cX1_telling 3 (some .int) ∈ aw_gw := aw_at 570 (by decide +kernel) (by decide +kernel)
theorem cw_X1_telling : aw_cw yX1_telling cX1_telling 3 (some .int) 1 := ⟨in_X1, cd_X1_telling, by decide, by decide, by decide +kernel⟩
theorem cd_X7_leave : Cond.code yX7_leave cX7_leave 2 none ∈ aw_gw := aw_at 574 (by decide +kernel) (by decide +kernel)
theorem cw_X7_leave : aw_cw yX7_leave cX7_leave 2 none 1 := ⟨in_X7, cd_X7_leave, by decide, by decide, by decide +kernel⟩
theorem cd_X4_telling : Cond.code yX4_telling cX4_telling 2 (some .int) ∈ aw_gw := aw_at 577 (by decide +kernel) (by decide +kernel)
theorem cw_X4_telling : aw_cw yX4_telling cX4_telling 2 (some .int) 1 := ⟨in_X4, cd_X4_telling, by decide, by decide, by decide +kernel⟩
theorem cd_X3_plainTelling : Cond.code yX3_plainTelling cX3_plainTelling 2 (some .int) ∈ aw_gw := aw_at 585 (by decide +kernel) (by decide +kernel)
theorem cw_X3_plainTelling : aw_cw yX3_plainTelling cX3_plainTelling 2 (some .int) 1 := ⟨in_X3, cd_X3_plainTelling, by decide, by decide, by decide +kernel⟩
theorem cd_X3_telling : Cond.code yX3_telling cX3_telling 2 (some .int) ∈ aw_gw := aw_at 591 (by decide +kernel) (by decide +kernel)
theorem cw_X3_telling : aw_cw yX3_telling cX3_telling 2 (some .int) 1 := ⟨in_X3, cd_X3_telling, by decide, by decide, by decide +kernel⟩
theorem cd_X8_hear : Cond.code yX8_hear cX8_hear 3 (some .int) ∈ aw_gw := aw_at 596 (by decide +kernel) (by decide +kernel)
theorem cw_X8_hear : aw_cw yX8_hear cX8_hear 3 (some .int) 1 := ⟨in_X8, cd_X8_hear, by decide, by decide, by decide +kernel⟩
theorem cd_X1_heardAs : Cond.code yX1_heardAs cX1_heardAs 2 (some .int) ∈ aw_gw := aw_at 603 (by decide +kernel) (by decide +kernel)
theorem cw_X1_heardAs : aw_cw yX1_heardAs cX1_heardAs 2 (some .int) 1 := ⟨in_X1, cd_X1_heardAs, by decide, by decide, by decide +kernel⟩
theorem cd_X3_heardAs : Cond.code yX3_heardAs cX3_heardAs 2 (some .int) ∈ aw_gw := aw_at 605 (by decide +kernel) (by decide +kernel)
theorem cw_X3_heardAs : aw_cw yX3_heardAs cX3_heardAs 2 (some .int) 1 := ⟨in_X3, cd_X3_heardAs, by decide, by decide, by decide +kernel⟩
theorem cd_X8_as : Cond.code yX8_as cX8_as 4 (some .int) ∈ aw_gw := aw_at 609 (by decide +kernel) (by decide +kernel)
theorem cw_X8_as : aw_cw yX8_as cX8_as 4 (some .int) 2 := ⟨in_X8, cd_X8_as, by decide, by decide, by decide +kernel⟩
theorem cd_X8_isOneOf : Cond.code yX8_isOneOf cX8_isOneOf 2 (some .boolean) ∈ aw_gw := aw_at 612 (by decide +kernel) (by decide +kernel)
theorem cw_X8_isOneOf : aw_cw yX8_isOneOf cX8_isOneOf 2 (some .boolean) 2 := ⟨in_X8, cd_X8_isOneOf, by decide, by decide, by decide +kernel⟩
theorem cd_X8_trace : Cond.code yX8_trace cX8_trace 1 (some .int) ∈ aw_gw := aw_at 616 (by decide +kernel) (by decide +kernel)
theorem cw_X8_trace : aw_cw yX8_trace cX8_trace 1 (some .int) 0 := ⟨in_X8, cd_X8_trace, by decide, by decide, by decide +kernel⟩
theorem cd_X8_fault : Cond.code yX8_fault cX8_fault 1 (some .int) ∈ aw_gw := aw_at 620 (by decide +kernel) (by decide +kernel)
theorem cw_X8_fault : aw_cw yX8_fault cX8_fault 1 (some .int) 0 := ⟨in_X8, cd_X8_fault, by decide, by decide, by decide +kernel⟩
theorem cd_X8_many : Cond.code yX8_many cX8_many 2 (some .int) ∈ aw_gw := aw_at 624 (by decide +kernel) (by decide +kernel)
theorem cw_X8_many : aw_cw yX8_many cX8_many 2 (some .int) 1 := ⟨in_X8, cd_X8_many, by decide, by decide, by decide +kernel⟩
theorem cd_X9_init : Cond.code yX9_init cX9_init 1 none ∈ aw_gw := aw_at 629 (by decide +kernel) (by decide +kernel)
theorem cw_X9_init : aw_cw yX9_init cX9_init 1 none 0 := ⟨in_X9, cd_X9_init, by decide, by decide, by decide +kernel⟩
theorem cd_X9_line : Cond.code yX9_line cX9_line 7 (some .int) ∈ aw_gw := aw_at 719 (by decide +kernel) (by decide +kernel)
theorem cw_X9_line : aw_cw yX9_line cX9_line 7 (some .int) 4 := ⟨in_X9, cd_X9_line, by decide, by decide, by decide +kernel⟩
theorem cd_X9_isSheet : Cond.code yX9_isSheet cX9_isSheet 1 (some .boolean) ∈ aw_gw := aw_at 722 (by decide +kernel) (by decide +kernel)
theorem cw_X9_isSheet : aw_cw yX9_isSheet cX9_isSheet 1 (some .boolean) 1 := ⟨in_X9, cd_X9_isSheet, by decide, by decide, by decide +kernel⟩
theorem cd_X9_within : Cond.code yX9_within cX9_within 3 (some .boolean) ∈ aw_gw := aw_at 725 (by decide +kernel) (by decide +kernel)
theorem cw_X9_within : aw_cw yX9_within cX9_within 3 (some .boolean) 3 := ⟨in_X9, cd_X9_within, by decide, by decide, by decide +kernel⟩
theorem cd_X9_isSort : Cond.code yX9_isSort cX9_isSort 1 (some .boolean) ∈ aw_gw := aw_at 728 (by decide +kernel) (by decide +kernel)
theorem cw_X9_isSort : aw_cw yX9_isSort cX9_isSort 1 (some .boolean) 1 := ⟨in_X9, cd_X9_isSort, by decide, by decide, by decide +kernel⟩
theorem cd_X9_against : Cond.code yX9_against cX9_against 5 (some .int) ∈ aw_gw := aw_at 732 (by decide +kernel) (by decide +kernel)
theorem cw_X9_against : aw_cw yX9_against cX9_against 5 (some .int) 4 := ⟨in_X9, cd_X9_against, by decide, by decide, by decide +kernel⟩
theorem cd_X9_fails : Cond.code yX9_fails cX9_fails 2 (some .int) ∈ aw_gw := aw_at 736 (by decide +kernel) (by decide +kernel)
theorem cw_X9_fails : aw_cw yX9_fails cX9_fails 2 (some .int) 1 := ⟨in_X9, cd_X9_fails, by decide, by decide, by decide +kernel⟩
theorem cd_X9_readLine : Cond.code yX9_readLine cX9_readLine 2 (some .boolean) ∈ aw_gw := aw_at 740 (by decide +kernel) (by decide +kernel)
theorem cw_X9_readLine : aw_cw yX9_readLine cX9_readLine 2 (some .boolean) 1 := ⟨in_X9, cd_X9_readLine, by decide, by decide, by decide +kernel⟩
theorem cd_X9_isSign : Cond.code yX9_isSign cX9_isSign 3 (some .boolean) ∈ aw_gw := aw_at 744 (by decide +kernel) (by decide +kernel)
theorem cw_X9_isSign : aw_cw yX9_isSign cX9_isSign 3 (some .boolean) 2 := ⟨in_X9, cd_X9_isSign, by decide, by decide, by decide +kernel⟩
theorem cd_X9_digit : Cond.code yX9_digit cX9_digit 2 (some .int) ∈ aw_gw := aw_at 748 (by decide +kernel) (by decide +kernel)
theorem cw_X9_digit : aw_cw yX9_digit cX9_digit 2 (some .int) 1 := ⟨in_X9, cd_X9_digit, by decide, by decide, by decide +kernel⟩
theorem cd_X9_readPerson : Cond.code yX9_readPerson cX9_readPerson 4 (some .boolean) ∈ aw_gw := aw_at 752 (by decide +kernel) (by decide +kernel)
theorem cw_X9_readPerson : aw_cw yX9_readPerson cX9_readPerson 4 (some .boolean) 1 := ⟨in_X9, cd_X9_readPerson, by decide, by decide, by decide +kernel⟩
theorem cd_X9_takeLine : Cond.code yX9_takeLine cX9_takeLine 2 none ∈ aw_gw := aw_at 756 (by decide +kernel) (by decide +kernel)
theorem cw_X9_takeLine : aw_cw yX9_takeLine cX9_takeLine 2 none 0 := ⟨in_X9, cd_X9_takeLine, by decide, by decide, by decide +kernel⟩
theorem cd_X9_ofPerson : Cond.code yX9_ofPerson cX9_ofPerson 3 (some .int) ∈ aw_gw := aw_at 760 (by decide +kernel) (by decide +kernel)
theorem cw_X9_ofPerson : aw_cw yX9_ofPerson cX9_ofPerson 3 (some .int) 2 := ⟨in_X9, cd_X9_ofPerson, by decide, by decide, by decide +kernel⟩
theorem cd_X9_isPerson : Cond.code yX9_isPerson cX9_isPerson 2 (some .boolean) ∈ aw_gw := aw_at 764 (by decide +kernel) (by decide +kernel)
theorem cw_X9_isPerson : aw_cw yX9_isPerson cX9_isPerson 2 (some .boolean) 1 := ⟨in_X9, cd_X9_isPerson, by decide, by decide, by decide +kernel⟩
theorem cd_X9_wouldOf : Cond.code yX9_wouldOf cX9_wouldOf 2 (some .int) ∈ aw_gw := aw_at 768 (by decide +kernel) (by decide +kernel)
theorem cw_X9_wouldOf : aw_cw yX9_wouldOf cX9_wouldOf 2 (some .int) 1 := ⟨in_X9, cd_X9_wouldOf, by decide, by decide, by decide +kernel⟩
theorem cd_X9_mayOf : Cond.code yX9_mayOf cX9_mayOf 3 (some .int) ∈ aw_gw := aw_at 772 (by decide +kernel) (by decide +kernel)
theorem cw_X9_mayOf : aw_cw yX9_mayOf cX9_mayOf 3 (some .int) 1 := ⟨in_X9, cd_X9_mayOf, by decide, by decide, by decide +kernel⟩
theorem cd_X9_sumOf : Cond.code yX9_sumOf cX9_sumOf 5 (some .int) ∈ aw_gw := aw_at 776 (by decide +kernel) (by decide +kernel)
theorem cw_X9_sumOf : aw_cw yX9_sumOf cX9_sumOf 5 (some .int) 2 := ⟨in_X9, cd_X9_sumOf, by decide, by decide, by decide +kernel⟩
theorem cd_X9_hurry : Cond.code yX9_hurry cX9_hurry 4 (some .int) ∈ aw_gw := aw_at 780 (by decide +kernel) (by decide +kernel)
theorem cw_X9_hurry : aw_cw yX9_hurry cX9_hurry 4 (some .int) 2 := ⟨in_X9, cd_X9_hurry, by decide, by decide, by decide +kernel⟩
theorem cd_X9_wall : Cond.code yX9_wall cX9_wall 4 (some .int) ∈ aw_gw := aw_at 784 (by decide +kernel) (by decide +kernel)
theorem cw_X9_wall : aw_cw yX9_wall cX9_wall 4 (some .int) 2 := ⟨in_X9, cd_X9_wall, by decide, by decide, by decide +kernel⟩
theorem cd_X9_lease : Cond.code yX9_lease cX9_lease 3 (some .int) ∈ aw_gw := aw_at 788 (by decide +kernel) (by decide +kernel)
theorem cw_X9_lease : aw_cw yX9_lease cX9_lease 3 (some .int) 1 := ⟨in_X9, cd_X9_lease, by decide, by decide, by decide +kernel⟩
theorem cd_X9_go : Cond.code yX9_go cX9_go 2 (some .int) ∈ aw_gw := aw_at 792 (by decide +kernel) (by decide +kernel)
theorem cw_X9_go : aw_cw yX9_go cX9_go 2 (some .int) 0 := ⟨in_X9, cd_X9_go, by decide, by decide, by decide +kernel⟩
theorem cd_X9_callOf : Cond.code yX9_callOf cX9_callOf 4 (some .int) ∈ aw_gw := aw_at 796 (by decide +kernel) (by decide +kernel)
theorem cw_X9_callOf : aw_cw yX9_callOf cX9_callOf 4 (some .int) 1 := ⟨in_X9, cd_X9_callOf, by decide, by decide, by decide +kernel⟩
theorem cd_X9_isOf : Cond.code yX9_isOf cX9_isOf 2 (some .boolean) ∈ aw_gw := aw_at 799 (by decide +kernel) (by decide +kernel)
theorem cw_X9_isOf : aw_cw yX9_isOf cX9_isOf 2 (some .boolean) 2 := ⟨in_X9, cd_X9_isOf, by decide, by decide, by decide +kernel⟩
theorem cd_X9_leastOf : Cond.code yX9_leastOf cX9_leastOf 2 (some .int) ∈ aw_gw := aw_at 802 (by decide +kernel) (by decide +kernel)
theorem cw_X9_leastOf : aw_cw yX9_leastOf cX9_leastOf 2 (some .int) 1 := ⟨in_X9, cd_X9_leastOf, by decide, by decide, by decide +kernel⟩
theorem cd_X9_morning : Cond.code yX9_morning cX9_morning 3 (some .int) ∈ aw_gw := aw_at 806 (by decide +kernel) (by decide +kernel)
theorem cw_X9_morning : aw_cw yX9_morning cX9_morning 3 (some .int) 0 := ⟨in_X9, cd_X9_morning, by decide, by decide, by decide +kernel⟩
theorem cd_X9_size : Cond.code yX9_size cX9_size 3 (some .int) ∈ aw_gw := aw_at 809 (by decide +kernel) (by decide +kernel)
theorem cw_X9_size : aw_cw yX9_size cX9_size 3 (some .int) 1 := ⟨in_X9, cd_X9_size, by decide, by decide, by decide +kernel⟩
theorem cd_X9_owes : Cond.code yX9_owes cX9_owes 3 (some .int) ∈ aw_gw := aw_at 813 (by decide +kernel) (by decide +kernel)
theorem cw_X9_owes : aw_cw yX9_owes cX9_owes 3 (some .int) 2 := ⟨in_X9, cd_X9_owes, by decide, by decide, by decide +kernel⟩
theorem cd_X9_areTwo : Cond.code yX9_areTwo cX9_areTwo 3 (some .boolean) ∈ aw_gw := aw_at 817 (by decide +kernel) (by decide +kernel)
theorem cw_X9_areTwo : aw_cw yX9_areTwo cX9_areTwo 3 (some .boolean) 2 := ⟨in_X9, cd_X9_areTwo, by decide, by decide, by decide +kernel⟩
theorem cd_X9_pays : Cond.code yX9_pays cX9_pays 4 (some .int) ∈ aw_gw := aw_at 821 (by decide +kernel) (by decide +kernel)
theorem cw_X9_pays : aw_cw yX9_pays cX9_pays 4 (some .int) 3 := ⟨in_X9, cd_X9_pays, by decide, by decide, by decide +kernel⟩
theorem cd_X9_calls : Cond.code yX9_calls cX9_calls 9 (some .int) ∈ aw_gw := aw_at 825 (by decide +kernel) (by decide +kernel)
theorem cw_X9_calls : aw_cw yX9_calls cX9_calls 9 (some .int) 5 := ⟨in_X9, cd_X9_calls, by decide, by decide, by decide +kernel⟩
theorem cd_X9_goCalls : Cond.code yX9_goCalls cX9_goCalls 6 (some .int) ∈ aw_gw := aw_at 829 (by decide +kernel) (by decide +kernel)
theorem cw_X9_goCalls : aw_cw yX9_goCalls cX9_goCalls 6 (some .int) 2 := ⟨in_X9, cd_X9_goCalls, by decide, by decide, by decide +kernel⟩
theorem cd_X9_wouldGoOn : Cond.code yX9_wouldGoOn cX9_wouldGoOn 3 (some .int) ∈ aw_gw := aw_at 833 (by decide +kernel) (by decide +kernel)
theorem cw_X9_wouldGoOn : aw_cw yX9_wouldGoOn cX9_wouldGoOn 3 (some .int) 0 := ⟨in_X9, cd_X9_wouldGoOn, by decide, by decide, by decide +kernel⟩
theorem cd_X9_order : Cond.code yX9_order cX9_order 3 (some .int) ∈ aw_gw := aw_at 837 (by decide +kernel) (by decide +kernel)
theorem cw_X9_order : aw_cw yX9_order cX9_order 3 (some .int) 2 := ⟨in_X9, cd_X9_order, by decide, by decide, by decide +kernel⟩
theorem cd_X9_findOrder : Cond.code yX9_findOrder cX9_findOrder 2 none ∈ aw_gw := aw_at 841 (by decide +kernel) (by decide +kernel)
theorem cw_X9_findOrder : aw_cw yX9_findOrder cX9_findOrder 2 none 0 := ⟨in_X9, cd_X9_findOrder, by decide, by decide, by decide +kernel⟩
theorem cd_X9_loss : Cond.code yX9_loss cX9_loss 4 (some .int) ∈ aw_gw := aw_at 845 (by decide +kernel) (by decide +kernel)
theorem cw_X9_loss : aw_cw yX9_loss cX9_loss 4 (some .int) 1 := ⟨in_X9, cd_X9_loss, by decide, by decide, by decide +kernel⟩
theorem cd_X9_leastLoss : Cond.code yX9_leastLoss cX9_leastLoss 5 (some .int) ∈ aw_gw := aw_at 849 (by decide +kernel) (by decide +kernel)
theorem cw_X9_leastLoss : aw_cw yX9_leastLoss cX9_leastLoss 5 (some .int) 0 := ⟨in_X9, cd_X9_leastLoss, by decide, by decide, by decide +kernel⟩
theorem cd_X9_let : Cond.code yX9_let cX9_let 7 (some .int) ∈ aw_gw := aw_at 853 (by decide +kernel) (by decide +kernel)
theorem cw_X9_let : aw_cw yX9_let cX9_let 7 (some .int) 2 := ⟨in_X9, cd_X9_let, by decide, by decide, by decide +kernel⟩
theorem cd_X9_balance : Cond.code yX9_balance cX9_balance 2 (some .int) ∈ aw_gw := aw_at 857 (by decide +kernel) (by decide +kernel)
theorem cw_X9_balance : aw_cw yX9_balance cX9_balance 2 (some .int) 1 := ⟨in_X9, cd_X9_balance, by decide, by decide, by decide +kernel⟩
theorem cd_X9_balanceOf : Cond.code yX9_balanceOf cX9_balanceOf 2 (some .int) ∈ aw_gw := aw_at 861 (by decide +kernel) (by decide +kernel)
theorem cw_X9_balanceOf : aw_cw yX9_balanceOf cX9_balanceOf 2 (some .int) 1 := ⟨in_X9, cd_X9_balanceOf, by decide, by decide, by decide +kernel⟩
theorem cd_X9_cleared : Cond.code yX9_cleared cX9_cleared 5 (some .int) ∈ aw_gw := aw_at 865 (by decide +kernel) (by decide +kernel)
theorem cw_X9_cleared : aw_cw yX9_cleared cX9_cleared 5 (some .int) 1 := ⟨in_X9, cd_X9_cleared, by decide, by decide, by decide +kernel⟩
theorem cd_X9_mostGroups : Cond.code yX9_mostGroups cX9_mostGroups 6 (some .int) ∈ aw_gw := aw_at 869 (by decide +kernel) (by decide +kernel)
theorem cw_X9_mostGroups : aw_cw yX9_mostGroups cX9_mostGroups 6 (some .int) 1 := ⟨in_X9, cd_X9_mostGroups, by decide, by decide, by decide +kernel⟩
theorem cd_X9_isEven : Cond.code yX9_isEven cX9_isEven 4 (some .boolean) ∈ aw_gw := aw_at 873 (by decide +kernel) (by decide +kernel)
theorem cw_X9_isEven : aw_cw yX9_isEven cX9_isEven 4 (some .boolean) 1 := ⟨in_X9, cd_X9_isEven, by decide, by decide, by decide +kernel⟩
theorem cd_X9_were : Cond.code yX9_were cX9_were 8 (some .int) ∈ aw_gw := aw_at 877 (by decide +kernel) (by decide +kernel)
theorem cw_X9_were : aw_cw yX9_were cX9_were 8 (some .int) 3 := ⟨in_X9, cd_X9_were, by decide, by decide, by decide +kernel⟩
theorem cd_X9_reading : Cond.code yX9_reading cX9_reading 4 (some .int) ∈ aw_gw := aw_at 881 (by decide +kernel) (by decide +kernel)
theorem cw_X9_reading : aw_cw yX9_reading cX9_reading 4 (some .int) 3 := ⟨in_X9, cd_X9_reading, by decide, by decide, by decide +kernel⟩
theorem cd_X9_back : Cond.code yX9_back cX9_back 2 (some .int) ∈ aw_gw := aw_at 885 (by decide +kernel) (by decide +kernel)
theorem cw_X9_back : aw_cw yX9_back cX9_back 2 (some .int) 1 := ⟨in_X9, cd_X9_back, by decide, by decide, by decide +kernel⟩
theorem cd_X9_hastes : Cond.code yX9_hastes cX9_hastes 5 (some .int) ∈ aw_gw := aw_at 889 (by decide +kernel) (by decide +kernel)
theorem cw_X9_hastes : aw_cw yX9_hastes cX9_hastes 5 (some .int) 1 := ⟨in_X9, cd_X9_hastes, by decide, by decide, by decide +kernel⟩
theorem cd_X9_areSo : Cond.code yX9_areSo cX9_areSo 3 (some .boolean) ∈ aw_gw := aw_at 893 (by decide +kernel) (by decide +kernel)
theorem cw_X9_areSo : aw_cw yX9_areSo cX9_areSo 3 (some .boolean) 0 := ⟨in_X9, cd_X9_areSo, by decide, by decide, by decide +kernel⟩
theorem cd_X9_rooms : Cond.code yX9_rooms cX9_rooms 5 (some .int) ∈ aw_gw := aw_at 897 (by decide +kernel) (by decide +kernel)
theorem cw_X9_rooms : aw_cw yX9_rooms cX9_rooms 5 (some .int) 1 := ⟨in_X9, cd_X9_rooms, by decide, by decide, by decide +kernel⟩
theorem cd_X9_kinds : Cond.code yX9_kinds cX9_kinds 5 (some .int) ∈ aw_gw := aw_at 901 (by decide +kernel) (by decide +kernel)
theorem cw_X9_kinds : aw_cw yX9_kinds cX9_kinds 5 (some .int) 1 := ⟨in_X9, cd_X9_kinds, by decide, by decide, by decide +kernel⟩
theorem cd_X9_odds : Cond.code yX9_odds cX9_odds 5 (some .long) ∈ aw_gw := aw_at 905 (by decide +kernel) (by decide +kernel)
theorem cw_X9_odds : aw_cw yX9_odds cX9_odds 5 (some .long) 2 := ⟨in_X9, cd_X9_odds, by decide, by decide, by decide +kernel⟩
theorem cd_X9_inLeastTerms : Cond.code yX9_inLeastTerms cX9_inLeastTerms 11 (some .long) ∈ aw_gw := aw_at 909 (by decide +kernel) (by decide +kernel)
theorem cw_X9_inLeastTerms : aw_cw yX9_inLeastTerms cX9_inLeastTerms 11 (some .long) 3 := ⟨in_X9, cd_X9_inLeastTerms, by decide, by decide, by decide +kernel⟩
theorem cd_X9_sheet : Cond.code yX9_sheet cX9_sheet 5 (some .int) ∈ aw_gw := aw_at 913 (by decide +kernel) (by decide +kernel)
theorem cw_X9_sheet : aw_cw yX9_sheet cX9_sheet 5 (some .int) 3 := ⟨in_X9, cd_X9_sheet, by decide, by decide, by decide +kernel⟩
theorem cd_X9_lose : Cond.code yX9_lose cX9_lose 3 (some .int) ∈ aw_gw := aw_at 917 (by decide +kernel) (by decide +kernel)
theorem cw_X9_lose : aw_cw yX9_lose cX9_lose 3 (some .int) 1 := ⟨in_X9, cd_X9_lose, by decide, by decide, by decide +kernel⟩
theorem cd_X9_put : Cond.code yX9_put cX9_put 4 (some .int) ∈ aw_gw := aw_at 921 (by decide +kernel) (by decide +kernel)
theorem cw_X9_put : aw_cw yX9_put cX9_put 4 (some .int) 3 := ⟨in_X9, cd_X9_put, by decide, by decide, by decide +kernel⟩
theorem cd_X9_cell : Cond.code yX9_cell cX9_cell 4 (some .long) ∈ aw_gw := aw_at 925 (by decide +kernel) (by decide +kernel)
theorem cw_X9_cell : aw_cw yX9_cell cX9_cell 4 (some .long) 3 := ⟨in_X9, cd_X9_cell, by decide, by decide, by decide +kernel⟩
theorem cd_X9_lost : Cond.code yX9_lost cX9_lost 2 (some .long) ∈ aw_gw := aw_at 929 (by decide +kernel) (by decide +kernel)
theorem cw_X9_lost : aw_cw yX9_lost cX9_lost 2 (some .long) 1 := ⟨in_X9, cd_X9_lost, by decide, by decide, by decide +kernel⟩
theorem cd_X9_copy : Cond.code yX9_copy cX9_copy 10 (some .int) ∈ aw_gw := aw_at 933 (by decide +kernel) (by decide +kernel)
theorem cw_X9_copy : aw_cw yX9_copy cX9_copy 10 (some .int) 5 := ⟨in_X9, cd_X9_copy, by decide, by decide, by decide +kernel⟩
theorem cd_X9_tell : Cond.code yX9_tell cX9_tell 3 (some .int) ∈ aw_gw := aw_at 937 (by decide +kernel) (by decide +kernel)
theorem cw_X9_tell : aw_cw yX9_tell cX9_tell 3 (some .int) 1 := ⟨in_X9, cd_X9_tell, by decide, by decide, by decide +kernel⟩
theorem cd_X9_begins : Cond.code yX9_begins cX9_begins 2 none ∈ aw_gw := aw_at 941 (by decide +kernel) (by decide +kernel)
theorem cw_X9_begins : aw_cw yX9_begins cX9_begins 2 none 1 := ⟨in_X9, cd_X9_begins, by decide, by decide, by decide +kernel⟩
theorem cd_X9_hear : Cond.code yX9_hear cX9_hear 2 (some .int) ∈ aw_gw := aw_at 945 (by decide +kernel) (by decide +kernel)
theorem cw_X9_hear : aw_cw yX9_hear cX9_hear 2 (some .int) 1 := ⟨in_X9, cd_X9_hear, by decide, by decide, by decide +kernel⟩
theorem cd_X9_as : Cond.code yX9_as cX9_as 3 (some .int) ∈ aw_gw := aw_at 949 (by decide +kernel) (by decide +kernel)
theorem cw_X9_as : aw_cw yX9_as cX9_as 3 (some .int) 2 := ⟨in_X9, cd_X9_as, by decide, by decide, by decide +kernel⟩
theorem cd_X9_trace : Cond.code yX9_trace cX9_trace 1 (some .int) ∈ aw_gw := aw_at 953 (by decide +kernel) (by decide +kernel)
theorem cw_X9_trace : aw_cw yX9_trace cX9_trace 1 (some .int) 0 := ⟨in_X9, cd_X9_trace, by decide, by decide, by decide +kernel⟩
theorem cd_X9_fault : Cond.code yX9_fault cX9_fault 1 (some .int) ∈ aw_gw := aw_at 957 (by decide +kernel) (by decide +kernel)
theorem cw_X9_fault : aw_cw yX9_fault cX9_fault 1 (some .int) 0 := ⟨in_X9, cd_X9_fault, by decide, by decide, by decide +kernel⟩
theorem cd_X9_many : Cond.code yX9_many cX9_many 2 (some .int) ∈ aw_gw := aw_at 961 (by decide +kernel) (by decide +kernel)
theorem cw_X9_many : aw_cw yX9_many cX9_many 2 (some .int) 1 := ⟨in_X9, cd_X9_many, by decide, by decide, by decide +kernel⟩
theorem ig_X0 : ∀ w ∈ u_ws RX0 TX0 3, w ∈ aw_gw := by
  intro w hw
  exact aw_in (List.all_eq_true.mp (show (u_ws RX0 TX0 3).all (fun w => decide (w ∈ lw_tbl)) = true by decide +kernel) w hw |> of_decide_eq_true) (List.all_eq_true.mp (show (u_ws RX0 TX0 3).all goodWord = true by decide +kernel) w hw)
theorem ig_X1 : ∀ w ∈ u_ws RX1 TX1 3, w ∈ aw_gw := by
  intro w hw
  exact aw_in (List.all_eq_true.mp (show (u_ws RX1 TX1 3).all (fun w => decide (w ∈ lw_tbl)) = true by decide +kernel) w hw |> of_decide_eq_true) (List.all_eq_true.mp (show (u_ws RX1 TX1 3).all goodWord = true by decide +kernel) w hw)
theorem ig_X2 : ∀ w ∈ u_ws RX2 TX2 5, w ∈ aw_gw := by
  intro w hw
  exact aw_in (List.all_eq_true.mp (show (u_ws RX2 TX2 5).all (fun w => decide (w ∈ lw_tbl)) = true by decide +kernel) w hw |> of_decide_eq_true) (List.all_eq_true.mp (show (u_ws RX2 TX2 5).all goodWord = true by decide +kernel) w hw)
theorem ig_X3 : ∀ w ∈ u_ws RX3 TX3 3, w ∈ aw_gw := by
  intro w hw
  exact aw_in (List.all_eq_true.mp (show (u_ws RX3 TX3 3).all (fun w => decide (w ∈ lw_tbl)) = true by decide +kernel) w hw |> of_decide_eq_true) (List.all_eq_true.mp (show (u_ws RX3 TX3 3).all goodWord = true by decide +kernel) w hw)
theorem ig_X4 : ∀ w ∈ u_ws RX4 TX4 3, w ∈ aw_gw := by
  intro w hw
  exact aw_in (List.all_eq_true.mp (show (u_ws RX4 TX4 3).all (fun w => decide (w ∈ lw_tbl)) = true by decide +kernel) w hw |> of_decide_eq_true) (List.all_eq_true.mp (show (u_ws RX4 TX4 3).all goodWord = true by decide +kernel) w hw)
theorem ig_X5 : ∀ w ∈ u_ws RX5 TX5 4, w ∈ aw_gw := by
  intro w hw
  exact aw_in (List.all_eq_true.mp (show (u_ws RX5 TX5 4).all (fun w => decide (w ∈ lw_tbl)) = true by decide +kernel) w hw |> of_decide_eq_true) (List.all_eq_true.mp (show (u_ws RX5 TX5 4).all goodWord = true by decide +kernel) w hw)
theorem ig_X6 : ∀ w ∈ u_ws RX6 TX6 4, w ∈ aw_gw := by
  intro w hw
  exact aw_in (List.all_eq_true.mp (show (u_ws RX6 TX6 4).all (fun w => decide (w ∈ lw_tbl)) = true by decide +kernel) w hw |> of_decide_eq_true) (List.all_eq_true.mp (show (u_ws RX6 TX6 4).all goodWord = true by decide +kernel) w hw)
theorem ig_X7 : ∀ w ∈ u_ws RX7 TX7 1, w ∈ aw_gw := by
  intro w hw
  exact aw_in (List.all_eq_true.mp (show (u_ws RX7 TX7 1).all (fun w => decide (w ∈ lw_tbl)) = true by decide +kernel) w hw |> of_decide_eq_true) (List.all_eq_true.mp (show (u_ws RX7 TX7 1).all goodWord = true by decide +kernel) w hw)
theorem ig_X8 : ∀ w ∈ u_ws RX8 TX8 12, w ∈ aw_gw := by
  intro w hw
  exact aw_in (List.all_eq_true.mp (show (u_ws RX8 TX8 12).all (fun w => decide (w ∈ lw_tbl)) = true by decide +kernel) w hw |> of_decide_eq_true) (List.all_eq_true.mp (show (u_ws RX8 TX8 12).all goodWord = true by decide +kernel) w hw)
theorem ig_X9 : ∀ w ∈ u_ws RX9 TX9 28, w ∈ aw_gw := by
  intro w hw
  exact aw_in (List.all_eq_true.mp (show (u_ws RX9 TX9 28).all (fun w => decide (w ∈ lw_tbl)) = true by decide +kernel) w hw |> of_decide_eq_true) (List.all_eq_true.mp (show (u_ws RX9 TX9 28).all goodWord = true by decide +kernel) w hw)
theorem fd_X2_9_2 : aw_fd RX2 9 2 0 RX2 TX2 5 := ⟨ig_X2, rfl, by decide, fl_X2_9⟩
theorem fd_X8_177_2 : aw_fd RX8 177 2 0 RX2 TX2 5 := ⟨ig_X2, rfl, by decide, fl_X8_177⟩
theorem fd_X2_15_2 : aw_fd RX2 15 2 1 RX2 TX2 5 := ⟨ig_X2, rfl, by decide, fl_X2_15⟩
theorem fd_X8_180_2 : aw_fd RX8 180 2 1 RX2 TX2 5 := ⟨ig_X2, rfl, by decide, fl_X8_180⟩
theorem fd_X2_18_2 : aw_fd RX2 18 2 2 RX2 TX2 5 := ⟨ig_X2, rfl, by decide, fl_X2_18⟩
theorem fp_X2_18_2 : aw_fp RX2 18 2 2 RX2 TX2 5 .int := ⟨fd_X2_18_2, ⟨tyX2, tyX2_ok⟩, nmX2, rfl, by decide +kernel⟩
theorem fd_X8_143_2 : aw_fd RX8 143 2 2 RX2 TX2 5 := ⟨ig_X2, rfl, by decide, fl_X8_143⟩
theorem fp_X8_143_2 : aw_fp RX8 143 2 2 RX2 TX2 5 .int := ⟨fd_X8_143_2, ⟨tyX2, tyX2_ok⟩, nmX2, rfl, by decide +kernel⟩
theorem fd_X2_22_2 : aw_fd RX2 22 2 3 RX2 TX2 5 := ⟨ig_X2, rfl, by decide, fl_X2_22⟩
theorem fp_X2_22_2 : aw_fp RX2 22 2 3 RX2 TX2 5 .int := ⟨fd_X2_22_2, ⟨tyX2, tyX2_ok⟩, nmX2, rfl, by decide +kernel⟩
theorem fd_X2_25_2 : aw_fd RX2 25 2 4 RX2 TX2 5 := ⟨ig_X2, rfl, by decide, fl_X2_25⟩
theorem fp_X2_25_2 : aw_fp RX2 25 2 4 RX2 TX2 5 .int := ⟨fd_X2_25_2, ⟨tyX2, tyX2_ok⟩, nmX2, rfl, by decide +kernel⟩
theorem fd_X8_140_2 : aw_fd RX8 140 2 4 RX2 TX2 5 := ⟨ig_X2, rfl, by decide, fl_X8_140⟩
theorem fp_X8_140_2 : aw_fp RX8 140 2 4 RX2 TX2 5 .int := ⟨fd_X8_140_2, ⟨tyX2, tyX2_ok⟩, nmX2, rfl, by decide +kernel⟩
theorem fd_X0_11_0 : aw_fd RX0 11 0 0 RX0 TX0 3 := ⟨ig_X0, rfl, by decide, fl_X0_11⟩
theorem fd_X0_16_0 : aw_fd RX0 16 0 1 RX0 TX0 3 := ⟨ig_X0, rfl, by decide, fl_X0_16⟩
theorem fd_X0_20_0 : aw_fd RX0 20 0 2 RX0 TX0 3 := ⟨ig_X0, rfl, by decide, fl_X0_20⟩
theorem fd_X5_9_5 : aw_fd RX5 9 5 0 RX5 TX5 4 := ⟨ig_X5, rfl, by decide, fl_X5_9⟩
theorem fd_X5_15_5 : aw_fd RX5 15 5 1 RX5 TX5 4 := ⟨ig_X5, rfl, by decide, fl_X5_15⟩
theorem fd_X5_18_5 : aw_fd RX5 18 5 2 RX5 TX5 4 := ⟨ig_X5, rfl, by decide, fl_X5_18⟩
theorem fd_X5_22_5 : aw_fd RX5 22 5 3 RX5 TX5 4 := ⟨ig_X5, rfl, by decide, fl_X5_22⟩
theorem fp_X5_22_5 : aw_fp RX5 22 5 3 RX5 TX5 4 .int := ⟨fd_X5_22_5, ⟨tyX5, tyX5_ok⟩, nmX5, rfl, by decide +kernel⟩
theorem fd_X8_202_5 : aw_fd RX8 202 5 3 RX5 TX5 4 := ⟨ig_X5, rfl, by decide, fl_X8_202⟩
theorem fp_X8_202_5 : aw_fp RX8 202 5 3 RX5 TX5 4 .int := ⟨fd_X8_202_5, ⟨tyX5, tyX5_ok⟩, nmX5, rfl, by decide +kernel⟩
theorem fd_X7_7_7 : aw_fd RX7 7 7 0 RX7 TX7 1 := ⟨ig_X7, rfl, by decide, fl_X7_7⟩
theorem fp_X7_7_7 : aw_fp RX7 7 7 0 RX7 TX7 1 .int := ⟨fd_X7_7_7, ⟨tyX7, tyX7_ok⟩, nmX7, rfl, by decide +kernel⟩
theorem fd_X8_252_7 : aw_fd RX8 252 7 0 RX7 TX7 1 := ⟨ig_X7, rfl, by decide, fl_X8_252⟩
theorem fp_X8_252_7 : aw_fp RX8 252 7 0 RX7 TX7 1 .int := ⟨fd_X8_252_7, ⟨tyX7, tyX7_ok⟩, nmX7, rfl, by decide +kernel⟩
theorem fd_X6_9_6 : aw_fd RX6 9 6 0 RX6 TX6 4 := ⟨ig_X6, rfl, by decide, fl_X6_9⟩
theorem fd_X8_232_6 : aw_fd RX8 232 6 0 RX6 TX6 4 := ⟨ig_X6, rfl, by decide, fl_X8_232⟩
theorem fd_X6_15_6 : aw_fd RX6 15 6 1 RX6 TX6 4 := ⟨ig_X6, rfl, by decide, fl_X6_15⟩
theorem fp_X6_15_6 : aw_fp RX6 15 6 1 RX6 TX6 4 .boolean := ⟨fd_X6_15_6, ⟨tyX6, tyX6_ok⟩, nmX6, rfl, by decide +kernel⟩
theorem fd_X8_216_6 : aw_fd RX8 216 6 1 RX6 TX6 4 := ⟨ig_X6, rfl, by decide, fl_X8_216⟩
theorem fp_X8_216_6 : aw_fp RX8 216 6 1 RX6 TX6 4 .boolean := ⟨fd_X8_216_6, ⟨tyX6, tyX6_ok⟩, nmX6, rfl, by decide +kernel⟩
theorem fd_X6_19_6 : aw_fd RX6 19 6 2 RX6 TX6 4 := ⟨ig_X6, rfl, by decide, fl_X6_19⟩
theorem fp_X6_19_6 : aw_fp RX6 19 6 2 RX6 TX6 4 .int := ⟨fd_X6_19_6, ⟨tyX6, tyX6_ok⟩, nmX6, rfl, by decide +kernel⟩
theorem fd_X8_220_6 : aw_fd RX8 220 6 2 RX6 TX6 4 := ⟨ig_X6, rfl, by decide, fl_X8_220⟩
theorem fp_X8_220_6 : aw_fp RX8 220 6 2 RX6 TX6 4 .int := ⟨fd_X8_220_6, ⟨tyX6, tyX6_ok⟩, nmX6, rfl, by decide +kernel⟩
theorem fd_X6_32_6 : aw_fd RX6 32 6 3 RX6 TX6 4 := ⟨ig_X6, rfl, by decide, fl_X6_32⟩
theorem fp_X6_32_6 : aw_fp RX6 32 6 3 RX6 TX6 4 .int := ⟨fd_X6_32_6, ⟨tyX6, tyX6_ok⟩, nmX6, rfl, by decide +kernel⟩
theorem fd_X8_13_8 : aw_fd RX8 13 8 0 RX8 TX8 12 := ⟨ig_X8, rfl, by decide, fl_X8_13⟩
theorem fd_X8_19_8 : aw_fd RX8 19 8 1 RX8 TX8 12 := ⟨ig_X8, rfl, by decide, fl_X8_19⟩
theorem fd_X8_23_8 : aw_fd RX8 23 8 2 RX8 TX8 12 := ⟨ig_X8, rfl, by decide, fl_X8_23⟩
theorem fd_X8_30_8 : aw_fd RX8 30 8 3 RX8 TX8 12 := ⟨ig_X8, rfl, by decide, fl_X8_30⟩
theorem fd_X8_37_8 : aw_fd RX8 37 8 4 RX8 TX8 12 := ⟨ig_X8, rfl, by decide, fl_X8_37⟩
theorem fd_X8_44_8 : aw_fd RX8 44 8 5 RX8 TX8 12 := ⟨ig_X8, rfl, by decide, fl_X8_44⟩
theorem fd_X8_51_8 : aw_fd RX8 51 8 6 RX8 TX8 12 := ⟨ig_X8, rfl, by decide, fl_X8_51⟩
theorem fd_X8_84_8 : aw_fd RX8 84 8 7 RX8 TX8 12 := ⟨ig_X8, rfl, by decide, fl_X8_84⟩
theorem fp_X8_84_8 : aw_fp RX8 84 8 7 RX8 TX8 12 .int := ⟨fd_X8_84_8, ⟨tyX8, tyX8_ok⟩, nmX8, rfl, by decide +kernel⟩
theorem fd_X8_126_8 : aw_fd RX8 126 8 8 RX8 TX8 12 := ⟨ig_X8, rfl, by decide, fl_X8_126⟩
theorem fp_X8_126_8 : aw_fp RX8 126 8 8 RX8 TX8 12 .int := ⟨fd_X8_126_8, ⟨tyX8, tyX8_ok⟩, nmX8, rfl, by decide +kernel⟩
theorem fd_X8_109_8 : aw_fd RX8 109 8 9 RX8 TX8 12 := ⟨ig_X8, rfl, by decide, fl_X8_109⟩
theorem fp_X8_109_8 : aw_fp RX8 109 8 9 RX8 TX8 12 .int := ⟨fd_X8_109_8, ⟨tyX8, tyX8_ok⟩, nmX8, rfl, by decide +kernel⟩
theorem fd_X8_158_8 : aw_fd RX8 158 8 10 RX8 TX8 12 := ⟨ig_X8, rfl, by decide, fl_X8_158⟩
theorem fp_X8_158_8 : aw_fp RX8 158 8 10 RX8 TX8 12 .int := ⟨fd_X8_158_8, ⟨tyX8, tyX8_ok⟩, nmX8, rfl, by decide +kernel⟩
theorem fd_X8_56_8 : aw_fd RX8 56 8 11 RX8 TX8 12 := ⟨ig_X8, rfl, by decide, fl_X8_56⟩
theorem fp_X8_56_8 : aw_fp RX8 56 8 11 RX8 TX8 12 .int := ⟨fd_X8_56_8, ⟨tyX8, tyX8_ok⟩, nmX8, rfl, by decide +kernel⟩
theorem fd_X3_9_1 : aw_fd RX3 9 1 0 RX1 TX1 3 := ⟨ig_X1, rfl, by decide, fl_X3_9⟩
theorem fd_X3_9_3 : aw_fd RX3 9 3 0 RX3 TX3 3 := ⟨ig_X3, rfl, by decide, fl_X3_9⟩
theorem fd_X3_9_4 : aw_fd RX3 9 4 0 RX4 TX4 3 := ⟨ig_X4, rfl, by decide, fl_X3_9⟩
theorem fd_X3_15_1 : aw_fd RX3 15 1 1 RX1 TX1 3 := ⟨ig_X1, rfl, by decide, fl_X3_15⟩
theorem fp_X3_15_1 : aw_fp RX3 15 1 1 RX1 TX1 3 .int := ⟨fd_X3_15_1, ⟨tyX1, tyX1_ok⟩, nmX1, rfl, by decide +kernel⟩
theorem fd_X3_15_3 : aw_fd RX3 15 3 1 RX3 TX3 3 := ⟨ig_X3, rfl, by decide, fl_X3_15⟩
theorem fp_X3_15_3 : aw_fp RX3 15 3 1 RX3 TX3 3 .int := ⟨fd_X3_15_3, ⟨tyX3, tyX3_ok⟩, nmX3, rfl, by decide +kernel⟩
theorem fd_X3_15_4 : aw_fd RX3 15 4 1 RX4 TX4 3 := ⟨ig_X4, rfl, by decide, fl_X3_15⟩
theorem fp_X3_15_4 : aw_fp RX3 15 4 1 RX4 TX4 3 .int := ⟨fd_X3_15_4, ⟨tyX4, tyX4_ok⟩, nmX4, rfl, by decide +kernel⟩
theorem fd_X8_95_1 : aw_fd RX8 95 1 1 RX1 TX1 3 := ⟨ig_X1, rfl, by decide, fl_X8_95⟩
theorem fp_X8_95_1 : aw_fp RX8 95 1 1 RX1 TX1 3 .int := ⟨fd_X8_95_1, ⟨tyX1, tyX1_ok⟩, nmX1, rfl, by decide +kernel⟩
theorem fd_X8_95_3 : aw_fd RX8 95 3 1 RX3 TX3 3 := ⟨ig_X3, rfl, by decide, fl_X8_95⟩
theorem fp_X8_95_3 : aw_fp RX8 95 3 1 RX3 TX3 3 .int := ⟨fd_X8_95_3, ⟨tyX3, tyX3_ok⟩, nmX3, rfl, by decide +kernel⟩
theorem fd_X8_95_4 : aw_fd RX8 95 4 1 RX4 TX4 3 := ⟨ig_X4, rfl, by decide, fl_X8_95⟩
theorem fp_X8_95_4 : aw_fp RX8 95 4 1 RX4 TX4 3 .int := ⟨fd_X8_95_4, ⟨tyX4, tyX4_ok⟩, nmX4, rfl, by decide +kernel⟩
theorem fd_X3_18_1 : aw_fd RX3 18 1 2 RX1 TX1 3 := ⟨ig_X1, rfl, by decide, fl_X3_18⟩
theorem fp_X3_18_1 : aw_fp RX3 18 1 2 RX1 TX1 3 .int := ⟨fd_X3_18_1, ⟨tyX1, tyX1_ok⟩, nmX1, rfl, by decide +kernel⟩
theorem fd_X3_18_3 : aw_fd RX3 18 3 2 RX3 TX3 3 := ⟨ig_X3, rfl, by decide, fl_X3_18⟩
theorem fp_X3_18_3 : aw_fp RX3 18 3 2 RX3 TX3 3 .int := ⟨fd_X3_18_3, ⟨tyX3, tyX3_ok⟩, nmX3, rfl, by decide +kernel⟩
theorem fd_X3_18_4 : aw_fd RX3 18 4 2 RX4 TX4 3 := ⟨ig_X4, rfl, by decide, fl_X3_18⟩
theorem fp_X3_18_4 : aw_fp RX3 18 4 2 RX4 TX4 3 .int := ⟨fd_X3_18_4, ⟨tyX4, tyX4_ok⟩, nmX4, rfl, by decide +kernel⟩
theorem fd_X8_98_1 : aw_fd RX8 98 1 2 RX1 TX1 3 := ⟨ig_X1, rfl, by decide, fl_X8_98⟩
theorem fp_X8_98_1 : aw_fp RX8 98 1 2 RX1 TX1 3 .int := ⟨fd_X8_98_1, ⟨tyX1, tyX1_ok⟩, nmX1, rfl, by decide +kernel⟩
theorem fd_X8_98_3 : aw_fd RX8 98 3 2 RX3 TX3 3 := ⟨ig_X3, rfl, by decide, fl_X8_98⟩
theorem fp_X8_98_3 : aw_fp RX8 98 3 2 RX3 TX3 3 .int := ⟨fd_X8_98_3, ⟨tyX3, tyX3_ok⟩, nmX3, rfl, by decide +kernel⟩
theorem fd_X8_98_4 : aw_fd RX8 98 4 2 RX4 TX4 3 := ⟨ig_X4, rfl, by decide, fl_X8_98⟩
theorem fp_X8_98_4 : aw_fp RX8 98 4 2 RX4 TX4 3 .int := ⟨fd_X8_98_4, ⟨tyX4, tyX4_ok⟩, nmX4, rfl, by decide +kernel⟩
theorem fd_X9_52_9 : aw_fd RX9 52 9 0 RX9 TX9 28 := ⟨ig_X9, rfl, by decide, fl_X9_52⟩
theorem fp_X9_52_9 : aw_fp RX9 52 9 0 RX9 TX9 28 .int := ⟨fd_X9_52_9, ⟨tyX9, tyX9_ok⟩, nmX9, rfl, by decide +kernel⟩
theorem fd_X9_192_9 : aw_fd RX9 192 9 1 RX9 TX9 28 := ⟨ig_X9, rfl, by decide, fl_X9_192⟩
theorem fp_X9_192_9 : aw_fp RX9 192 9 1 RX9 TX9 28 .int := ⟨fd_X9_192_9, ⟨tyX9, tyX9_ok⟩, nmX9, rfl, by decide +kernel⟩
theorem fd_X9_9_9 : aw_fd RX9 9 9 2 RX9 TX9 28 := ⟨ig_X9, rfl, by decide, fl_X9_9⟩
theorem fd_X9_13_9 : aw_fd RX9 13 9 3 RX9 TX9 28 := ⟨ig_X9, rfl, by decide, fl_X9_13⟩
theorem fd_X9_16_9 : aw_fd RX9 16 9 4 RX9 TX9 28 := ⟨ig_X9, rfl, by decide, fl_X9_16⟩
theorem fd_X9_62_9 : aw_fd RX9 62 9 5 RX9 TX9 28 := ⟨ig_X9, rfl, by decide, fl_X9_62⟩
theorem fp_X9_62_9 : aw_fp RX9 62 9 5 RX9 TX9 28 .int := ⟨fd_X9_62_9, ⟨tyX9, tyX9_ok⟩, nmX9, rfl, by decide +kernel⟩
theorem fd_X9_92_9 : aw_fd RX9 92 9 6 RX9 TX9 28 := ⟨ig_X9, rfl, by decide, fl_X9_92⟩
theorem fp_X9_92_9 : aw_fp RX9 92 9 6 RX9 TX9 28 .int := ⟨fd_X9_92_9, ⟨tyX9, tyX9_ok⟩, nmX9, rfl, by decide +kernel⟩
theorem fd_X9_98_9 : aw_fd RX9 98 9 7 RX9 TX9 28 := ⟨ig_X9, rfl, by decide, fl_X9_98⟩
theorem fp_X9_98_9 : aw_fp RX9 98 9 7 RX9 TX9 28 .int := ⟨fd_X9_98_9, ⟨tyX9, tyX9_ok⟩, nmX9, rfl, by decide +kernel⟩
theorem fd_X9_101_9 : aw_fd RX9 101 9 8 RX9 TX9 28 := ⟨ig_X9, rfl, by decide, fl_X9_101⟩
theorem fp_X9_101_9 : aw_fp RX9 101 9 8 RX9 TX9 28 .int := ⟨fd_X9_101_9, ⟨tyX9, tyX9_ok⟩, nmX9, rfl, by decide +kernel⟩
theorem fd_X9_19_9 : aw_fd RX9 19 9 9 RX9 TX9 28 := ⟨ig_X9, rfl, by decide, fl_X9_19⟩
theorem fd_X9_22_9 : aw_fd RX9 22 9 10 RX9 TX9 28 := ⟨ig_X9, rfl, by decide, fl_X9_22⟩
theorem fd_X9_25_9 : aw_fd RX9 25 9 11 RX9 TX9 28 := ⟨ig_X9, rfl, by decide, fl_X9_25⟩
theorem fd_X9_28_9 : aw_fd RX9 28 9 12 RX9 TX9 28 := ⟨ig_X9, rfl, by decide, fl_X9_28⟩
theorem fd_X9_65_9 : aw_fd RX9 65 9 13 RX9 TX9 28 := ⟨ig_X9, rfl, by decide, fl_X9_65⟩
theorem fp_X9_65_9 : aw_fp RX9 65 9 13 RX9 TX9 28 .int := ⟨fd_X9_65_9, ⟨tyX9, tyX9_ok⟩, nmX9, rfl, by decide +kernel⟩
theorem fd_X9_89_9 : aw_fd RX9 89 9 14 RX9 TX9 28 := ⟨ig_X9, rfl, by decide, fl_X9_89⟩
theorem fp_X9_89_9 : aw_fp RX9 89 9 14 RX9 TX9 28 .int := ⟨fd_X9_89_9, ⟨tyX9, tyX9_ok⟩, nmX9, rfl, by decide +kernel⟩
theorem fd_X9_95_9 : aw_fd RX9 95 9 15 RX9 TX9 28 := ⟨ig_X9, rfl, by decide, fl_X9_95⟩
theorem fp_X9_95_9 : aw_fp RX9 95 9 15 RX9 TX9 28 .int := ⟨fd_X9_95_9, ⟨tyX9, tyX9_ok⟩, nmX9, rfl, by decide +kernel⟩
theorem fd_X9_31_9 : aw_fd RX9 31 9 16 RX9 TX9 28 := ⟨ig_X9, rfl, by decide, fl_X9_31⟩
theorem fd_X9_130_9 : aw_fd RX9 130 9 17 RX9 TX9 28 := ⟨ig_X9, rfl, by decide, fl_X9_130⟩
theorem fp_X9_130_9 : aw_fp RX9 130 9 17 RX9 TX9 28 .int := ⟨fd_X9_130_9, ⟨tyX9, tyX9_ok⟩, nmX9, rfl, by decide +kernel⟩
theorem fd_X9_133_9 : aw_fd RX9 133 9 18 RX9 TX9 28 := ⟨ig_X9, rfl, by decide, fl_X9_133⟩
theorem fp_X9_133_9 : aw_fp RX9 133 9 18 RX9 TX9 28 .int := ⟨fd_X9_133_9, ⟨tyX9, tyX9_ok⟩, nmX9, rfl, by decide +kernel⟩
theorem fd_X9_136_9 : aw_fd RX9 136 9 19 RX9 TX9 28 := ⟨ig_X9, rfl, by decide, fl_X9_136⟩
theorem fp_X9_136_9 : aw_fp RX9 136 9 19 RX9 TX9 28 .int := ⟨fd_X9_136_9, ⟨tyX9, tyX9_ok⟩, nmX9, rfl, by decide +kernel⟩
theorem fd_X9_34_9 : aw_fd RX9 34 9 20 RX9 TX9 28 := ⟨ig_X9, rfl, by decide, fl_X9_34⟩
theorem fd_X9_37_9 : aw_fd RX9 37 9 21 RX9 TX9 28 := ⟨ig_X9, rfl, by decide, fl_X9_37⟩
theorem fd_X9_162_9 : aw_fd RX9 162 9 22 RX9 TX9 28 := ⟨ig_X9, rfl, by decide, fl_X9_162⟩
theorem fp_X9_162_9 : aw_fp RX9 162 9 22 RX9 TX9 28 .int := ⟨fd_X9_162_9, ⟨tyX9, tyX9_ok⟩, nmX9, rfl, by decide +kernel⟩
theorem fd_X9_40_9 : aw_fd RX9 40 9 23 RX9 TX9 28 := ⟨ig_X9, rfl, by decide, fl_X9_40⟩
theorem fd_X9_104_9 : aw_fd RX9 104 9 24 RX9 TX9 28 := ⟨ig_X9, rfl, by decide, fl_X9_104⟩
theorem fp_X9_104_9 : aw_fp RX9 104 9 24 RX9 TX9 28 .int := ⟨fd_X9_104_9, ⟨tyX9, tyX9_ok⟩, nmX9, rfl, by decide +kernel⟩
theorem fd_X9_43_9 : aw_fd RX9 43 9 25 RX9 TX9 28 := ⟨ig_X9, rfl, by decide, fl_X9_43⟩
theorem fd_X9_46_9 : aw_fd RX9 46 9 26 RX9 TX9 28 := ⟨ig_X9, rfl, by decide, fl_X9_46⟩
theorem fd_X9_49_9 : aw_fd RX9 49 9 27 RX9 TX9 28 := ⟨ig_X9, rfl, by decide, fl_X9_49⟩
end
section
theorem dX0_init_0 : decode cX0_init 0 = .ok (.aload_n 0, 1) := by decide +kernel
theorem dX0_init_1 : decode cX0_init 1 = .ok (.invokespecial 3, 3) := by decide +kernel
theorem dX0_init_4 : decode cX0_init 4 = .ok (.aload_n 0, 1) := by decide +kernel
theorem dX0_init_5 : decode cX0_init 5 = .ok (.bipush 6, 2) := by decide +kernel
theorem dX0_init_7 : decode cX0_init 7 = .ok (.bipush 6, 2) := by decide +kernel
theorem dX0_init_9 : decode cX0_init 9 = .ok (.multianewarray 9 2, 4) := by decide +kernel
theorem dX0_init_13 : decode cX0_init 13 = .ok (.putfield 11, 3) := by decide +kernel
theorem dX0_init_16 : decode cX0_init 16 = .ok (.aload_n 0, 1) := by decide +kernel
theorem dX0_init_17 : decode cX0_init 17 = .ok (.bipush 6, 2) := by decide +kernel
theorem dX0_init_19 : decode cX0_init 19 = .ok (.newarray .int, 2) := by decide +kernel
theorem dX0_init_21 : decode cX0_init 21 = .ok (.putfield 16, 3) := by decide +kernel
theorem dX0_init_24 : decode cX0_init 24 = .ok (.aload_n 0, 1) := by decide +kernel
theorem dX0_init_25 : decode cX0_init 25 = .ok (.bipush 64, 2) := by decide +kernel
theorem dX0_init_27 : decode cX0_init 27 = .ok (.newarray .int, 2) := by decide +kernel
theorem dX0_init_29 : decode cX0_init 29 = .ok (.putfield 20, 3) := by decide +kernel
theorem dX0_init_32 : decode cX0_init 32 = .ok (.return_, 1) := by decide +kernel
theorem dX0_areNumbers_0 : decode cX0_areNumbers 0 = .ok (.iload_n 0, 1) := by decide +kernel
theorem dX0_areNumbers_1 : decode cX0_areNumbers 1 = .ok (.iconst 0, 1) := by decide +kernel
theorem dX0_areNumbers_2 : decode cX0_areNumbers 2 = .ok (.iconst 5, 1) := by decide +kernel
theorem dX0_areNumbers_3 : decode cX0_areNumbers 3 = .ok (.invokestatic 23, 3) := by decide +kernel
theorem dX0_areNumbers_6 : decode cX0_areNumbers 6 = .ok (.ifCond .eq 16, 3) := by decide +kernel
theorem dX0_areNumbers_9 : decode cX0_areNumbers 9 = .ok (.iload_n 1, 1) := by decide +kernel
theorem dX0_areNumbers_10 : decode cX0_areNumbers 10 = .ok (.iconst 0, 1) := by decide +kernel
theorem dX0_areNumbers_11 : decode cX0_areNumbers 11 = .ok (.iconst 5, 1) := by decide +kernel
theorem dX0_areNumbers_12 : decode cX0_areNumbers 12 = .ok (.invokestatic 23, 3) := by decide +kernel
theorem dX0_areNumbers_15 : decode cX0_areNumbers 15 = .ok (.ifCond .eq 7, 3) := by decide +kernel
theorem dX0_areNumbers_18 : decode cX0_areNumbers 18 = .ok (.iconst 1, 1) := by decide +kernel
theorem dX0_areNumbers_19 : decode cX0_areNumbers 19 = .ok (.goto 4, 3) := by decide +kernel
theorem dX0_areNumbers_22 : decode cX0_areNumbers 22 = .ok (.iconst 0, 1) := by decide +kernel
theorem dX0_areNumbers_23 : decode cX0_areNumbers 23 = .ok (.ireturn, 1) := by decide +kernel
theorem dX0_forget_0 : decode cX0_forget 0 = .ok (.iconst 0, 1) := by decide +kernel
theorem dX0_forget_1 : decode cX0_forget 1 = .ok (.istore_n 1, 1) := by decide +kernel
theorem dX0_forget_2 : decode cX0_forget 2 = .ok (.iload_n 1, 1) := by decide +kernel
theorem dX0_forget_3 : decode cX0_forget 3 = .ok (.bipush 6, 2) := by decide +kernel
theorem dX0_forget_5 : decode cX0_forget 5 = .ok (.if_icmp .ge 32, 3) := by decide +kernel
theorem dX0_forget_8 : decode cX0_forget 8 = .ok (.iconst 0, 1) := by decide +kernel
theorem dX0_forget_9 : decode cX0_forget 9 = .ok (.istore_n 2, 1) := by decide +kernel
theorem dX0_forget_10 : decode cX0_forget 10 = .ok (.iload_n 2, 1) := by decide +kernel
theorem dX0_forget_11 : decode cX0_forget 11 = .ok (.bipush 6, 2) := by decide +kernel
theorem dX0_forget_13 : decode cX0_forget 13 = .ok (.if_icmp .ge 18, 3) := by decide +kernel
theorem dX0_forget_16 : decode cX0_forget 16 = .ok (.aload_n 0, 1) := by decide +kernel
theorem dX0_forget_17 : decode cX0_forget 17 = .ok (.getfield 11, 3) := by decide +kernel
theorem dX0_forget_20 : decode cX0_forget 20 = .ok (.iload_n 1, 1) := by decide +kernel
theorem dX0_forget_21 : decode cX0_forget 21 = .ok (.aaload, 1) := by decide +kernel
theorem dX0_forget_22 : decode cX0_forget 22 = .ok (.iload_n 2, 1) := by decide +kernel
theorem dX0_forget_23 : decode cX0_forget 23 = .ok (.iconst 0, 1) := by decide +kernel
theorem dX0_forget_24 : decode cX0_forget 24 = .ok (.iastore, 1) := by decide +kernel
theorem dX0_forget_25 : decode cX0_forget 25 = .ok (.iinc 2 1, 3) := by decide +kernel
theorem dX0_forget_28 : decode cX0_forget 28 = .ok (.goto (-18), 3) := by decide +kernel
theorem dX0_forget_31 : decode cX0_forget 31 = .ok (.iinc 1 1, 3) := by decide +kernel
theorem dX0_forget_34 : decode cX0_forget 34 = .ok (.goto (-32), 3) := by decide +kernel
theorem dX0_forget_37 : decode cX0_forget 37 = .ok (.return_, 1) := by decide +kernel
theorem dX0_add_0 : decode cX0_add 0 = .ok (.iload_n 1, 1) := by decide +kernel
theorem dX0_add_1 : decode cX0_add 1 = .ok (.iload_n 2, 1) := by decide +kernel
theorem dX0_add_2 : decode cX0_add 2 = .ok (.invokestatic 27, 3) := by decide +kernel
theorem dX0_add_5 : decode cX0_add 5 = .ok (.ifCond .eq 15, 3) := by decide +kernel
theorem dX0_add_8 : decode cX0_add 8 = .ok (.aload_n 0, 1) := by decide +kernel
theorem dX0_add_9 : decode cX0_add 9 = .ok (.getfield 11, 3) := by decide +kernel
theorem dX0_add_12 : decode cX0_add 12 = .ok (.iload_n 1, 1) := by decide +kernel
theorem dX0_add_13 : decode cX0_add 13 = .ok (.aaload, 1) := by decide +kernel
theorem dX0_add_14 : decode cX0_add 14 = .ok (.iload_n 2, 1) := by decide +kernel
theorem dX0_add_15 : decode cX0_add 15 = .ok (.dup2, 1) := by decide +kernel
theorem dX0_add_16 : decode cX0_add 16 = .ok (.iaload, 1) := by decide +kernel
theorem dX0_add_17 : decode cX0_add 17 = .ok (.iload_n 3, 1) := by decide +kernel
theorem dX0_add_18 : decode cX0_add 18 = .ok (.iadd, 1) := by decide +kernel
theorem dX0_add_19 : decode cX0_add 19 = .ok (.iastore, 1) := by decide +kernel
theorem dX0_add_20 : decode cX0_add 20 = .ok (.return_, 1) := by decide +kernel
theorem dX0_between_0 : decode cX0_between 0 = .ok (.iload_n 1, 1) := by decide +kernel
theorem dX0_between_1 : decode cX0_between 1 = .ok (.iload_n 2, 1) := by decide +kernel
theorem dX0_between_2 : decode cX0_between 2 = .ok (.invokestatic 27, 3) := by decide +kernel
theorem dX0_between_5 : decode cX0_between 5 = .ok (.ifCond .eq 14, 3) := by decide +kernel
theorem dX0_between_8 : decode cX0_between 8 = .ok (.aload_n 0, 1) := by decide +kernel
theorem dX0_between_9 : decode cX0_between 9 = .ok (.getfield 11, 3) := by decide +kernel
theorem dX0_between_12 : decode cX0_between 12 = .ok (.iload_n 1, 1) := by decide +kernel
theorem dX0_between_13 : decode cX0_between 13 = .ok (.aaload, 1) := by decide +kernel
theorem dX0_between_14 : decode cX0_between 14 = .ok (.iload_n 2, 1) := by decide +kernel
theorem dX0_between_15 : decode cX0_between 15 = .ok (.iaload, 1) := by decide +kernel
theorem dX0_between_16 : decode cX0_between 16 = .ok (.goto 4, 3) := by decide +kernel
theorem dX0_between_19 : decode cX0_between 19 = .ok (.iconst 0, 1) := by decide +kernel
theorem dX0_between_20 : decode cX0_between 20 = .ok (.ireturn, 1) := by decide +kernel
theorem dX0_owedBy_0 : decode cX0_owedBy 0 = .ok (.iconst 0, 1) := by decide +kernel
theorem dX0_owedBy_1 : decode cX0_owedBy 1 = .ok (.istore_n 2, 1) := by decide +kernel
theorem dX0_owedBy_2 : decode cX0_owedBy 2 = .ok (.iconst 0, 1) := by decide +kernel
theorem dX0_owedBy_3 : decode cX0_owedBy 3 = .ok (.istore_n 3, 1) := by decide +kernel
theorem dX0_owedBy_4 : decode cX0_owedBy 4 = .ok (.iload_n 3, 1) := by decide +kernel
theorem dX0_owedBy_5 : decode cX0_owedBy 5 = .ok (.bipush 6, 2) := by decide +kernel
theorem dX0_owedBy_7 : decode cX0_owedBy 7 = .ok (.if_icmp .ge 18, 3) := by decide +kernel
theorem dX0_owedBy_10 : decode cX0_owedBy 10 = .ok (.iload_n 2, 1) := by decide +kernel
theorem dX0_owedBy_11 : decode cX0_owedBy 11 = .ok (.aload_n 0, 1) := by decide +kernel
theorem dX0_owedBy_12 : decode cX0_owedBy 12 = .ok (.iload_n 1, 1) := by decide +kernel
theorem dX0_owedBy_13 : decode cX0_owedBy 13 = .ok (.iload_n 3, 1) := by decide +kernel
theorem dX0_owedBy_14 : decode cX0_owedBy 14 = .ok (.invokevirtual 31, 3) := by decide +kernel
theorem dX0_owedBy_17 : decode cX0_owedBy 17 = .ok (.iadd, 1) := by decide +kernel
theorem dX0_owedBy_18 : decode cX0_owedBy 18 = .ok (.istore_n 2, 1) := by decide +kernel
theorem dX0_owedBy_19 : decode cX0_owedBy 19 = .ok (.iinc 3 1, 3) := by decide +kernel
theorem dX0_owedBy_22 : decode cX0_owedBy 22 = .ok (.goto (-18), 3) := by decide +kernel
theorem dX0_owedBy_25 : decode cX0_owedBy 25 = .ok (.iload_n 2, 1) := by decide +kernel
theorem dX0_owedBy_26 : decode cX0_owedBy 26 = .ok (.ireturn, 1) := by decide +kernel
theorem dX0_owedTo_0 : decode cX0_owedTo 0 = .ok (.iconst 0, 1) := by decide +kernel
theorem dX0_owedTo_1 : decode cX0_owedTo 1 = .ok (.istore_n 2, 1) := by decide +kernel
theorem dX0_owedTo_2 : decode cX0_owedTo 2 = .ok (.iconst 0, 1) := by decide +kernel
theorem dX0_owedTo_3 : decode cX0_owedTo 3 = .ok (.istore_n 3, 1) := by decide +kernel
theorem dX0_owedTo_4 : decode cX0_owedTo 4 = .ok (.iload_n 3, 1) := by decide +kernel
theorem dX0_owedTo_5 : decode cX0_owedTo 5 = .ok (.bipush 6, 2) := by decide +kernel
theorem dX0_owedTo_7 : decode cX0_owedTo 7 = .ok (.if_icmp .ge 18, 3) := by decide +kernel
theorem dX0_owedTo_10 : decode cX0_owedTo 10 = .ok (.iload_n 2, 1) := by decide +kernel
theorem dX0_owedTo_11 : decode cX0_owedTo 11 = .ok (.aload_n 0, 1) := by decide +kernel
theorem dX0_owedTo_12 : decode cX0_owedTo 12 = .ok (.iload_n 3, 1) := by decide +kernel
theorem dX0_owedTo_13 : decode cX0_owedTo 13 = .ok (.iload_n 1, 1) := by decide +kernel
theorem dX0_owedTo_14 : decode cX0_owedTo 14 = .ok (.invokevirtual 31, 3) := by decide +kernel
theorem dX0_owedTo_17 : decode cX0_owedTo 17 = .ok (.iadd, 1) := by decide +kernel
theorem dX0_owedTo_18 : decode cX0_owedTo 18 = .ok (.istore_n 2, 1) := by decide +kernel
theorem dX0_owedTo_19 : decode cX0_owedTo 19 = .ok (.iinc 3 1, 3) := by decide +kernel
theorem dX0_owedTo_22 : decode cX0_owedTo 22 = .ok (.goto (-18), 3) := by decide +kernel
theorem dX0_owedTo_25 : decode cX0_owedTo 25 = .ok (.iload_n 2, 1) := by decide +kernel
theorem dX0_owedTo_26 : decode cX0_owedTo 26 = .ok (.ireturn, 1) := by decide +kernel
theorem dX0_balanceOf_0 : decode cX0_balanceOf 0 = .ok (.aload_n 0, 1) := by decide +kernel
theorem dX0_balanceOf_1 : decode cX0_balanceOf 1 = .ok (.iload_n 1, 1) := by decide +kernel
theorem dX0_balanceOf_2 : decode cX0_balanceOf 2 = .ok (.invokevirtual 35, 3) := by decide +kernel
theorem dX0_balanceOf_5 : decode cX0_balanceOf 5 = .ok (.aload_n 0, 1) := by decide +kernel
theorem dX0_balanceOf_6 : decode cX0_balanceOf 6 = .ok (.iload_n 1, 1) := by decide +kernel
theorem dX0_balanceOf_7 : decode cX0_balanceOf 7 = .ok (.invokevirtual 39, 3) := by decide +kernel
theorem dX0_balanceOf_10 : decode cX0_balanceOf 10 = .ok (.isub, 1) := by decide +kernel
theorem dX0_balanceOf_11 : decode cX0_balanceOf 11 = .ok (.ireturn, 1) := by decide +kernel
theorem dX0_leastSteps_0 : decode cX0_leastSteps 0 = .ok (.iconst 0, 1) := by decide +kernel
theorem dX0_leastSteps_1 : decode cX0_leastSteps 1 = .ok (.istore_n 1, 1) := by decide +kernel
theorem dX0_leastSteps_2 : decode cX0_leastSteps 2 = .ok (.iconst 0, 1) := by decide +kernel
theorem dX0_leastSteps_3 : decode cX0_leastSteps 3 = .ok (.istore_n 2, 1) := by decide +kernel
theorem dX0_leastSteps_4 : decode cX0_leastSteps 4 = .ok (.iload_n 2, 1) := by decide +kernel
theorem dX0_leastSteps_5 : decode cX0_leastSteps 5 = .ok (.bipush 6, 2) := by decide +kernel
theorem dX0_leastSteps_7 : decode cX0_leastSteps 7 = .ok (.if_icmp .ge 21, 3) := by decide +kernel
theorem dX0_leastSteps_10 : decode cX0_leastSteps 10 = .ok (.iload_n 1, 1) := by decide +kernel
theorem dX0_leastSteps_11 : decode cX0_leastSteps 11 = .ok (.iconst 0, 1) := by decide +kernel
theorem dX0_leastSteps_12 : decode cX0_leastSteps 12 = .ok (.aload_n 0, 1) := by decide +kernel
theorem dX0_leastSteps_13 : decode cX0_leastSteps 13 = .ok (.iload_n 2, 1) := by decide +kernel
theorem dX0_leastSteps_14 : decode cX0_leastSteps 14 = .ok (.invokevirtual 42, 3) := by decide +kernel
theorem dX0_leastSteps_17 : decode cX0_leastSteps 17 = .ok (.invokestatic 45, 3) := by decide +kernel
theorem dX0_leastSteps_20 : decode cX0_leastSteps 20 = .ok (.iadd, 1) := by decide +kernel
theorem dX0_leastSteps_21 : decode cX0_leastSteps 21 = .ok (.istore_n 1, 1) := by decide +kernel
theorem dX0_leastSteps_22 : decode cX0_leastSteps 22 = .ok (.iinc 2 1, 3) := by decide +kernel
theorem dX0_leastSteps_25 : decode cX0_leastSteps 25 = .ok (.goto (-21), 3) := by decide +kernel
theorem dX0_leastSteps_28 : decode cX0_leastSteps 28 = .ok (.iload_n 1, 1) := by decide +kernel
theorem dX0_leastSteps_29 : decode cX0_leastSteps 29 = .ok (.ireturn, 1) := by decide +kernel
theorem dX0_leastPayments_0 : decode cX0_leastPayments 0 = .ok (.iconst 0, 1) := by decide +kernel
theorem dX0_leastPayments_1 : decode cX0_leastPayments 1 = .ok (.istore_n 1, 1) := by decide +kernel
theorem dX0_leastPayments_2 : decode cX0_leastPayments 2 = .ok (.iload_n 1, 1) := by decide +kernel
theorem dX0_leastPayments_3 : decode cX0_leastPayments 3 = .ok (.bipush 6, 2) := by decide +kernel
theorem dX0_leastPayments_5 : decode cX0_leastPayments 5 = .ok (.if_icmp .ge 20, 3) := by decide +kernel
theorem dX0_leastPayments_8 : decode cX0_leastPayments 8 = .ok (.aload_n 0, 1) := by decide +kernel
theorem dX0_leastPayments_9 : decode cX0_leastPayments 9 = .ok (.getfield 16, 3) := by decide +kernel
theorem dX0_leastPayments_12 : decode cX0_leastPayments 12 = .ok (.iload_n 1, 1) := by decide +kernel
theorem dX0_leastPayments_13 : decode cX0_leastPayments 13 = .ok (.aload_n 0, 1) := by decide +kernel
theorem dX0_leastPayments_14 : decode cX0_leastPayments 14 = .ok (.iload_n 1, 1) := by decide +kernel
theorem dX0_leastPayments_15 : decode cX0_leastPayments 15 = .ok (.invokevirtual 42, 3) := by decide +kernel
theorem dX0_leastPayments_18 : decode cX0_leastPayments 18 = .ok (.iastore, 1) := by decide +kernel
theorem dX0_leastPayments_19 : decode cX0_leastPayments 19 = .ok (.iinc 1 1, 3) := by decide +kernel
theorem dX0_leastPayments_22 : decode cX0_leastPayments 22 = .ok (.goto (-20), 3) := by decide +kernel
theorem dX0_leastPayments_25 : decode cX0_leastPayments 25 = .ok (.aload_n 0, 1) := by decide +kernel
theorem dX0_leastPayments_26 : decode cX0_leastPayments 26 = .ok (.getfield 20, 3) := by decide +kernel
theorem dX0_leastPayments_29 : decode cX0_leastPayments 29 = .ok (.iconst 0, 1) := by decide +kernel
theorem dX0_leastPayments_30 : decode cX0_leastPayments 30 = .ok (.iconst 0, 1) := by decide +kernel
theorem dX0_leastPayments_31 : decode cX0_leastPayments 31 = .ok (.iastore, 1) := by decide +kernel
theorem dX0_leastPayments_32 : decode cX0_leastPayments 32 = .ok (.iconst 1, 1) := by decide +kernel
theorem dX0_leastPayments_33 : decode cX0_leastPayments 33 = .ok (.istore_n 1, 1) := by decide +kernel
theorem dX0_leastPayments_34 : decode cX0_leastPayments 34 = .ok (.iload_n 1, 1) := by decide +kernel
theorem dX0_leastPayments_35 : decode cX0_leastPayments 35 = .ok (.aload_n 0, 1) := by decide +kernel
theorem dX0_leastPayments_36 : decode cX0_leastPayments 36 = .ok (.getfield 20, 3) := by decide +kernel
theorem dX0_leastPayments_39 : decode cX0_leastPayments 39 = .ok (.arraylength, 1) := by decide +kernel
theorem dX0_leastPayments_40 : decode cX0_leastPayments 40 = .ok (.if_icmp .ge 20, 3) := by decide +kernel
theorem dX0_leastPayments_43 : decode cX0_leastPayments 43 = .ok (.aload_n 0, 1) := by decide +kernel
theorem dX0_leastPayments_44 : decode cX0_leastPayments 44 = .ok (.getfield 20, 3) := by decide +kernel
theorem dX0_leastPayments_47 : decode cX0_leastPayments 47 = .ok (.iload_n 1, 1) := by decide +kernel
theorem dX0_leastPayments_48 : decode cX0_leastPayments 48 = .ok (.aload_n 0, 1) := by decide +kernel
theorem dX0_leastPayments_49 : decode cX0_leastPayments 49 = .ok (.iload_n 1, 1) := by decide +kernel
theorem dX0_leastPayments_50 : decode cX0_leastPayments 50 = .ok (.invokevirtual 50, 3) := by decide +kernel
theorem dX0_leastPayments_53 : decode cX0_leastPayments 53 = .ok (.iastore, 1) := by decide +kernel
theorem dX0_leastPayments_54 : decode cX0_leastPayments 54 = .ok (.iinc 1 1, 3) := by decide +kernel
theorem dX0_leastPayments_57 : decode cX0_leastPayments 57 = .ok (.goto (-23), 3) := by decide +kernel
theorem dX0_leastPayments_60 : decode cX0_leastPayments 60 = .ok (.bipush 6, 2) := by decide +kernel
theorem dX0_leastPayments_62 : decode cX0_leastPayments 62 = .ok (.aload_n 0, 1) := by decide +kernel
theorem dX0_leastPayments_63 : decode cX0_leastPayments 63 = .ok (.getfield 20, 3) := by decide +kernel
theorem dX0_leastPayments_66 : decode cX0_leastPayments 66 = .ok (.aload_n 0, 1) := by decide +kernel
theorem dX0_leastPayments_67 : decode cX0_leastPayments 67 = .ok (.getfield 20, 3) := by decide +kernel
theorem dX0_leastPayments_70 : decode cX0_leastPayments 70 = .ok (.arraylength, 1) := by decide +kernel
theorem dX0_leastPayments_71 : decode cX0_leastPayments 71 = .ok (.iconst 1, 1) := by decide +kernel
theorem dX0_leastPayments_72 : decode cX0_leastPayments 72 = .ok (.isub, 1) := by decide +kernel
theorem dX0_leastPayments_73 : decode cX0_leastPayments 73 = .ok (.iaload, 1) := by decide +kernel
theorem dX0_leastPayments_74 : decode cX0_leastPayments 74 = .ok (.isub, 1) := by decide +kernel
theorem dX0_leastPayments_75 : decode cX0_leastPayments 75 = .ok (.ireturn, 1) := by decide +kernel
theorem dX0_mostGroups_0 : decode cX0_mostGroups 0 = .ok (.iconst 0, 1) := by decide +kernel
theorem dX0_mostGroups_1 : decode cX0_mostGroups 1 = .ok (.istore_n 2, 1) := by decide +kernel
theorem dX0_mostGroups_2 : decode cX0_mostGroups 2 = .ok (.iconst 0, 1) := by decide +kernel
theorem dX0_mostGroups_3 : decode cX0_mostGroups 3 = .ok (.istore_n 3, 1) := by decide +kernel
theorem dX0_mostGroups_4 : decode cX0_mostGroups 4 = .ok (.iconst 0, 1) := by decide +kernel
theorem dX0_mostGroups_5 : decode cX0_mostGroups 5 = .ok (.istore 4, 2) := by decide +kernel
theorem dX0_mostGroups_7 : decode cX0_mostGroups 7 = .ok (.iload 4, 2) := by decide +kernel
theorem dX0_mostGroups_9 : decode cX0_mostGroups 9 = .ok (.bipush 6, 2) := by decide +kernel
theorem dX0_mostGroups_11 : decode cX0_mostGroups 11 = .ok (.if_icmp .ge 47, 3) := by decide +kernel
theorem dX0_mostGroups_14 : decode cX0_mostGroups 14 = .ok (.iload_n 1, 1) := by decide +kernel
theorem dX0_mostGroups_15 : decode cX0_mostGroups 15 = .ok (.iload 4, 2) := by decide +kernel
theorem dX0_mostGroups_17 : decode cX0_mostGroups 17 = .ok (.invokestatic 53, 3) := by decide +kernel
theorem dX0_mostGroups_20 : decode cX0_mostGroups 20 = .ok (.ifCond .eq 32, 3) := by decide +kernel
theorem dX0_mostGroups_23 : decode cX0_mostGroups 23 = .ok (.iload_n 2, 1) := by decide +kernel
theorem dX0_mostGroups_24 : decode cX0_mostGroups 24 = .ok (.aload_n 0, 1) := by decide +kernel
theorem dX0_mostGroups_25 : decode cX0_mostGroups 25 = .ok (.getfield 20, 3) := by decide +kernel
theorem dX0_mostGroups_28 : decode cX0_mostGroups 28 = .ok (.iload_n 1, 1) := by decide +kernel
theorem dX0_mostGroups_29 : decode cX0_mostGroups 29 = .ok (.iload 4, 2) := by decide +kernel
theorem dX0_mostGroups_31 : decode cX0_mostGroups 31 = .ok (.invokestatic 56, 3) := by decide +kernel
theorem dX0_mostGroups_34 : decode cX0_mostGroups 34 = .ok (.iconst (-1), 1) := by decide +kernel
theorem dX0_mostGroups_35 : decode cX0_mostGroups 35 = .ok (.ixor, 1) := by decide +kernel
theorem dX0_mostGroups_36 : decode cX0_mostGroups 36 = .ok (.iand, 1) := by decide +kernel
theorem dX0_mostGroups_37 : decode cX0_mostGroups 37 = .ok (.iaload, 1) := by decide +kernel
theorem dX0_mostGroups_38 : decode cX0_mostGroups 38 = .ok (.invokestatic 45, 3) := by decide +kernel
theorem dX0_mostGroups_41 : decode cX0_mostGroups 41 = .ok (.istore_n 2, 1) := by decide +kernel
theorem dX0_mostGroups_42 : decode cX0_mostGroups 42 = .ok (.iload_n 3, 1) := by decide +kernel
theorem dX0_mostGroups_43 : decode cX0_mostGroups 43 = .ok (.aload_n 0, 1) := by decide +kernel
theorem dX0_mostGroups_44 : decode cX0_mostGroups 44 = .ok (.getfield 16, 3) := by decide +kernel
theorem dX0_mostGroups_47 : decode cX0_mostGroups 47 = .ok (.iload 4, 2) := by decide +kernel
theorem dX0_mostGroups_49 : decode cX0_mostGroups 49 = .ok (.iaload, 1) := by decide +kernel
theorem dX0_mostGroups_50 : decode cX0_mostGroups 50 = .ok (.iadd, 1) := by decide +kernel
theorem dX0_mostGroups_51 : decode cX0_mostGroups 51 = .ok (.istore_n 3, 1) := by decide +kernel
theorem dX0_mostGroups_52 : decode cX0_mostGroups 52 = .ok (.iinc 4 1, 3) := by decide +kernel
theorem dX0_mostGroups_55 : decode cX0_mostGroups 55 = .ok (.goto (-48), 3) := by decide +kernel
theorem dX0_mostGroups_58 : decode cX0_mostGroups 58 = .ok (.iload_n 3, 1) := by decide +kernel
theorem dX0_mostGroups_59 : decode cX0_mostGroups 59 = .ok (.ifCond .ne 9, 3) := by decide +kernel
theorem dX0_mostGroups_62 : decode cX0_mostGroups 62 = .ok (.iload_n 2, 1) := by decide +kernel
theorem dX0_mostGroups_63 : decode cX0_mostGroups 63 = .ok (.iconst 1, 1) := by decide +kernel
theorem dX0_mostGroups_64 : decode cX0_mostGroups 64 = .ok (.iadd, 1) := by decide +kernel
theorem dX0_mostGroups_65 : decode cX0_mostGroups 65 = .ok (.goto 4, 3) := by decide +kernel
theorem dX0_mostGroups_68 : decode cX0_mostGroups 68 = .ok (.iload_n 2, 1) := by decide +kernel
theorem dX0_mostGroups_69 : decode cX0_mostGroups 69 = .ok (.ireturn, 1) := by decide +kernel
theorem dX1_init_0 : decode cX1_init 0 = .ok (.aload_n 0, 1) := by decide +kernel
theorem dX1_init_1 : decode cX1_init 1 = .ok (.iload_n 1, 1) := by decide +kernel
theorem dX1_init_2 : decode cX1_init 2 = .ok (.iload_n 2, 1) := by decide +kernel
theorem dX1_init_3 : decode cX1_init 3 = .ok (.iload_n 3, 1) := by decide +kernel
theorem dX1_init_4 : decode cX1_init 4 = .ok (.invokespecial 3, 3) := by decide +kernel
theorem dX1_init_7 : decode cX1_init 7 = .ok (.return_, 1) := by decide +kernel
theorem dX1_kind_0 : decode cX1_kind 0 = .ok (.iconst 2, 1) := by decide +kernel
theorem dX1_kind_1 : decode cX1_kind 1 = .ok (.ireturn, 1) := by decide +kernel
theorem dX1_telling_0 : decode cX1_telling 0 = .ok (.aload_n 1, 1) := by decide +kernel
theorem dX1_telling_1 : decode cX1_telling 1 = .ok (.iconst 3, 1) := by decide +kernel
theorem dX1_telling_2 : decode cX1_telling 2 = .ok (.invokevirtual 9, 3) := by decide +kernel
theorem dX1_telling_5 : decode cX1_telling 5 = .ok (.aload_n 0, 1) := by decide +kernel
theorem dX1_telling_6 : decode cX1_telling 6 = .ok (.aload_n 1, 1) := by decide +kernel
theorem dX1_telling_7 : decode cX1_telling 7 = .ok (.invokespecial 15, 3) := by decide +kernel
theorem dX1_telling_10 : decode cX1_telling 10 = .ok (.istore_n 2, 1) := by decide +kernel
theorem dX1_telling_11 : decode cX1_telling 11 = .ok (.iload_n 2, 1) := by decide +kernel
theorem dX1_telling_12 : decode cX1_telling 12 = .ok (.aload_n 0, 1) := by decide +kernel
theorem dX1_telling_13 : decode cX1_telling 13 = .ok (.aload_n 1, 1) := by decide +kernel
theorem dX1_telling_14 : decode cX1_telling 14 = .ok (.invokevirtual 19, 3) := by decide +kernel
theorem dX1_telling_17 : decode cX1_telling 17 = .ok (.iadd, 1) := by decide +kernel
theorem dX1_telling_18 : decode cX1_telling 18 = .ok (.ireturn, 1) := by decide +kernel
theorem dX1_heardAs_0 : decode cX1_heardAs 0 = .ok (.aload_n 1, 1) := by decide +kernel
theorem dX1_heardAs_1 : decode cX1_heardAs 1 = .ok (.iconst 5, 1) := by decide +kernel
theorem dX1_heardAs_2 : decode cX1_heardAs 2 = .ok (.invokevirtual 9, 3) := by decide +kernel
theorem dX1_heardAs_5 : decode cX1_heardAs 5 = .ok (.bipush 20, 2) := by decide +kernel
theorem dX1_heardAs_7 : decode cX1_heardAs 7 = .ok (.ireturn, 1) := by decide +kernel
theorem dX2_init_0 : decode cX2_init 0 = .ok (.aload_n 0, 1) := by decide +kernel
theorem dX2_init_1 : decode cX2_init 1 = .ok (.invokespecial 3, 3) := by decide +kernel
theorem dX2_init_4 : decode cX2_init 4 = .ok (.aload_n 0, 1) := by decide +kernel
theorem dX2_init_5 : decode cX2_init 5 = .ok (.bipush 6, 2) := by decide +kernel
theorem dX2_init_7 : decode cX2_init 7 = .ok (.newarray .int, 2) := by decide +kernel
theorem dX2_init_9 : decode cX2_init 9 = .ok (.putfield 9, 3) := by decide +kernel
theorem dX2_init_12 : decode cX2_init 12 = .ok (.aload_n 0, 1) := by decide +kernel
theorem dX2_init_13 : decode cX2_init 13 = .ok (.bipush 6, 2) := by decide +kernel
theorem dX2_init_15 : decode cX2_init 15 = .ok (.newarray .int, 2) := by decide +kernel
theorem dX2_init_17 : decode cX2_init 17 = .ok (.putfield 15, 3) := by decide +kernel
theorem dX2_init_20 : decode cX2_init 20 = .ok (.return_, 1) := by decide +kernel
theorem dX2_letDown_0 : decode cX2_letDown 0 = .ok (.aload_n 0, 1) := by decide +kernel
theorem dX2_letDown_1 : decode cX2_letDown 1 = .ok (.iconst 0, 1) := by decide +kernel
theorem dX2_letDown_2 : decode cX2_letDown 2 = .ok (.putfield 18, 3) := by decide +kernel
theorem dX2_letDown_5 : decode cX2_letDown 5 = .ok (.aload_n 0, 1) := by decide +kernel
theorem dX2_letDown_6 : decode cX2_letDown 6 = .ok (.bipush (-9), 2) := by decide +kernel
theorem dX2_letDown_8 : decode cX2_letDown 8 = .ok (.putfield 22, 3) := by decide +kernel
theorem dX2_letDown_11 : decode cX2_letDown 11 = .ok (.aload_n 0, 1) := by decide +kernel
theorem dX2_letDown_12 : decode cX2_letDown 12 = .ok (.bipush (-9), 2) := by decide +kernel
theorem dX2_letDown_14 : decode cX2_letDown 14 = .ok (.putfield 25, 3) := by decide +kernel
theorem dX2_letDown_17 : decode cX2_letDown 17 = .ok (.iconst 1, 1) := by decide +kernel
theorem dX2_letDown_18 : decode cX2_letDown 18 = .ok (.istore_n 3, 1) := by decide +kernel
theorem dX2_letDown_19 : decode cX2_letDown 19 = .ok (.iconst 0, 1) := by decide +kernel
theorem dX2_letDown_20 : decode cX2_letDown 20 = .ok (.istore 4, 2) := by decide +kernel
theorem dX2_letDown_22 : decode cX2_letDown 22 = .ok (.iload 4, 2) := by decide +kernel
theorem dX2_letDown_24 : decode cX2_letDown 24 = .ok (.bipush 18, 2) := by decide +kernel
theorem dX2_letDown_26 : decode cX2_letDown 26 = .ok (.if_icmp .gt 20, 3) := by decide +kernel
theorem dX2_letDown_29 : decode cX2_letDown 29 = .ok (.iload_n 3, 1) := by decide +kernel
theorem dX2_letDown_30 : decode cX2_letDown 30 = .ok (.ifCond .eq 16, 3) := by decide +kernel
theorem dX2_letDown_33 : decode cX2_letDown 33 = .ok (.aload_n 0, 1) := by decide +kernel
theorem dX2_letDown_34 : decode cX2_letDown 34 = .ok (.aload_n 1, 1) := by decide +kernel
theorem dX2_letDown_35 : decode cX2_letDown 35 = .ok (.iload_n 2, 1) := by decide +kernel
theorem dX2_letDown_36 : decode cX2_letDown 36 = .ok (.invokevirtual 28, 3) := by decide +kernel
theorem dX2_letDown_39 : decode cX2_letDown 39 = .ok (.istore_n 3, 1) := by decide +kernel
theorem dX2_letDown_40 : decode cX2_letDown 40 = .ok (.iinc 4 1, 3) := by decide +kernel
theorem dX2_letDown_43 : decode cX2_letDown 43 = .ok (.goto (-21), 3) := by decide +kernel
theorem dX2_letDown_46 : decode cX2_letDown 46 = .ok (.aload_n 0, 1) := by decide +kernel
theorem dX2_letDown_47 : decode cX2_letDown 47 = .ok (.getfield 22, 3) := by decide +kernel
theorem dX2_letDown_50 : decode cX2_letDown 50 = .ok (.bipush (-9), 2) := by decide +kernel
theorem dX2_letDown_52 : decode cX2_letDown 52 = .ok (.if_icmp .ne 10, 3) := by decide +kernel
theorem dX2_letDown_55 : decode cX2_letDown 55 = .ok (.iload_n 2, 1) := by decide +kernel
theorem dX2_letDown_56 : decode cX2_letDown 56 = .ok (.invokestatic 32, 3) := by decide +kernel
theorem dX2_letDown_59 : decode cX2_letDown 59 = .ok (.goto 7, 3) := by decide +kernel
theorem dX2_letDown_62 : decode cX2_letDown 62 = .ok (.aload_n 0, 1) := by decide +kernel
theorem dX2_letDown_63 : decode cX2_letDown 63 = .ok (.getfield 22, 3) := by decide +kernel
theorem dX2_letDown_66 : decode cX2_letDown 66 = .ok (.ireturn, 1) := by decide +kernel
theorem dX2_goesRound_0 : decode cX2_goesRound 0 = .ok (.iconst 0, 1) := by decide +kernel
theorem dX2_goesRound_1 : decode cX2_goesRound 1 = .ok (.istore_n 3, 1) := by decide +kernel
theorem dX2_goesRound_2 : decode cX2_goesRound 2 = .ok (.iconst 0, 1) := by decide +kernel
theorem dX2_goesRound_3 : decode cX2_goesRound 3 = .ok (.istore 4, 2) := by decide +kernel
theorem dX2_goesRound_5 : decode cX2_goesRound 5 = .ok (.iload 4, 2) := by decide +kernel
theorem dX2_goesRound_7 : decode cX2_goesRound 7 = .ok (.aload_n 1, 1) := by decide +kernel
theorem dX2_goesRound_8 : decode cX2_goesRound 8 = .ok (.arraylength, 1) := by decide +kernel
theorem dX2_goesRound_9 : decode cX2_goesRound 9 = .ok (.if_icmp .ge 64, 3) := by decide +kernel
theorem dX2_goesRound_12 : decode cX2_goesRound 12 = .ok (.iload 4, 2) := by decide +kernel
theorem dX2_goesRound_14 : decode cX2_goesRound 14 = .ok (.aload_n 0, 1) := by decide +kernel
theorem dX2_goesRound_15 : decode cX2_goesRound 15 = .ok (.getfield 22, 3) := by decide +kernel
theorem dX2_goesRound_18 : decode cX2_goesRound 18 = .ok (.if_icmp .eq 49, 3) := by decide +kernel
theorem dX2_goesRound_21 : decode cX2_goesRound 21 = .ok (.iload_n 2, 1) := by decide +kernel
theorem dX2_goesRound_22 : decode cX2_goesRound 22 = .ok (.iload 4, 2) := by decide +kernel
theorem dX2_goesRound_24 : decode cX2_goesRound 24 = .ok (.invokestatic 36, 3) := by decide +kernel
theorem dX2_goesRound_27 : decode cX2_goesRound 27 = .ok (.ifCond .eq 40, 3) := by decide +kernel
theorem dX2_goesRound_30 : decode cX2_goesRound 30 = .ok (.aload_n 1, 1) := by decide +kernel
theorem dX2_goesRound_31 : decode cX2_goesRound 31 = .ok (.iload 4, 2) := by decide +kernel
theorem dX2_goesRound_33 : decode cX2_goesRound 33 = .ok (.iaload, 1) := by decide +kernel
theorem dX2_goesRound_34 : decode cX2_goesRound 34 = .ok (.aload_n 0, 1) := by decide +kernel
theorem dX2_goesRound_35 : decode cX2_goesRound 35 = .ok (.getfield 18, 3) := by decide +kernel
theorem dX2_goesRound_38 : decode cX2_goesRound 38 = .ok (.if_icmp .le 29, 3) := by decide +kernel
theorem dX2_goesRound_41 : decode cX2_goesRound 41 = .ok (.aload_n 0, 1) := by decide +kernel
theorem dX2_goesRound_42 : decode cX2_goesRound 42 = .ok (.dup, 1) := by decide +kernel
theorem dX2_goesRound_43 : decode cX2_goesRound 43 = .ok (.getfield 18, 3) := by decide +kernel
theorem dX2_goesRound_46 : decode cX2_goesRound 46 = .ok (.iconst 1, 1) := by decide +kernel
theorem dX2_goesRound_47 : decode cX2_goesRound 47 = .ok (.iadd, 1) := by decide +kernel
theorem dX2_goesRound_48 : decode cX2_goesRound 48 = .ok (.putfield 18, 3) := by decide +kernel
theorem dX2_goesRound_51 : decode cX2_goesRound 51 = .ok (.aload_n 0, 1) := by decide +kernel
theorem dX2_goesRound_52 : decode cX2_goesRound 52 = .ok (.aload_n 0, 1) := by decide +kernel
theorem dX2_goesRound_53 : decode cX2_goesRound 53 = .ok (.getfield 22, 3) := by decide +kernel
theorem dX2_goesRound_56 : decode cX2_goesRound 56 = .ok (.putfield 25, 3) := by decide +kernel
theorem dX2_goesRound_59 : decode cX2_goesRound 59 = .ok (.aload_n 0, 1) := by decide +kernel
theorem dX2_goesRound_60 : decode cX2_goesRound 60 = .ok (.iload 4, 2) := by decide +kernel
theorem dX2_goesRound_62 : decode cX2_goesRound 62 = .ok (.putfield 22, 3) := by decide +kernel
theorem dX2_goesRound_65 : decode cX2_goesRound 65 = .ok (.iconst 1, 1) := by decide +kernel
theorem dX2_goesRound_66 : decode cX2_goesRound 66 = .ok (.istore_n 3, 1) := by decide +kernel
theorem dX2_goesRound_67 : decode cX2_goesRound 67 = .ok (.iinc 4 1, 3) := by decide +kernel
theorem dX2_goesRound_70 : decode cX2_goesRound 70 = .ok (.goto (-65), 3) := by decide +kernel
theorem dX2_goesRound_73 : decode cX2_goesRound 73 = .ok (.iload_n 3, 1) := by decide +kernel
theorem dX2_goesRound_74 : decode cX2_goesRound 74 = .ok (.ireturn, 1) := by decide +kernel
theorem dX2_leastOf_0 : decode cX2_leastOf 0 = .ok (.iconst 0, 1) := by decide +kernel
theorem dX2_leastOf_1 : decode cX2_leastOf 1 = .ok (.istore_n 1, 1) := by decide +kernel
theorem dX2_leastOf_2 : decode cX2_leastOf 2 = .ok (.iload_n 1, 1) := by decide +kernel
theorem dX2_leastOf_3 : decode cX2_leastOf 3 = .ok (.bipush 6, 2) := by decide +kernel
theorem dX2_leastOf_5 : decode cX2_leastOf 5 = .ok (.if_icmp .ge 19, 3) := by decide +kernel
theorem dX2_leastOf_8 : decode cX2_leastOf 8 = .ok (.iload_n 0, 1) := by decide +kernel
theorem dX2_leastOf_9 : decode cX2_leastOf 9 = .ok (.iload_n 1, 1) := by decide +kernel
theorem dX2_leastOf_10 : decode cX2_leastOf 10 = .ok (.invokestatic 36, 3) := by decide +kernel
theorem dX2_leastOf_13 : decode cX2_leastOf 13 = .ok (.ifCond .eq 5, 3) := by decide +kernel
theorem dX2_leastOf_16 : decode cX2_leastOf 16 = .ok (.iload_n 1, 1) := by decide +kernel
theorem dX2_leastOf_17 : decode cX2_leastOf 17 = .ok (.ireturn, 1) := by decide +kernel
theorem dX2_leastOf_18 : decode cX2_leastOf 18 = .ok (.iinc 1 1, 3) := by decide +kernel
theorem dX2_leastOf_21 : decode cX2_leastOf 21 = .ok (.goto (-19), 3) := by decide +kernel
theorem dX2_leastOf_24 : decode cX2_leastOf 24 = .ok (.bipush (-9), 2) := by decide +kernel
theorem dX2_leastOf_26 : decode cX2_leastOf 26 = .ok (.ireturn, 1) := by decide +kernel
theorem dX2_goThroughAll_0 : decode cX2_goThroughAll 0 = .ok (.iload_n 2, 1) := by decide +kernel
theorem dX2_goThroughAll_1 : decode cX2_goThroughAll 1 = .ok (.istore_n 3, 1) := by decide +kernel
theorem dX2_goThroughAll_2 : decode cX2_goThroughAll 2 = .ok (.iconst 0, 1) := by decide +kernel
theorem dX2_goThroughAll_3 : decode cX2_goThroughAll 3 = .ok (.istore 4, 2) := by decide +kernel
theorem dX2_goThroughAll_5 : decode cX2_goThroughAll 5 = .ok (.iconst 0, 1) := by decide +kernel
theorem dX2_goThroughAll_6 : decode cX2_goThroughAll 6 = .ok (.istore 5, 2) := by decide +kernel
theorem dX2_goThroughAll_8 : decode cX2_goThroughAll 8 = .ok (.iload 5, 2) := by decide +kernel
theorem dX2_goThroughAll_10 : decode cX2_goThroughAll 10 = .ok (.bipush 6, 2) := by decide +kernel
theorem dX2_goThroughAll_12 : decode cX2_goThroughAll 12 = .ok (.if_icmp .ge 54, 3) := by decide +kernel
theorem dX2_goThroughAll_15 : decode cX2_goThroughAll 15 = .ok (.iload_n 3, 1) := by decide +kernel
theorem dX2_goThroughAll_16 : decode cX2_goThroughAll 16 = .ok (.ifCond .eq 50, 3) := by decide +kernel
theorem dX2_goThroughAll_19 : decode cX2_goThroughAll 19 = .ok (.aload_n 0, 1) := by decide +kernel
theorem dX2_goThroughAll_20 : decode cX2_goThroughAll 20 = .ok (.aload_n 1, 1) := by decide +kernel
theorem dX2_goThroughAll_21 : decode cX2_goThroughAll 21 = .ok (.iload_n 3, 1) := by decide +kernel
theorem dX2_goThroughAll_22 : decode cX2_goThroughAll 22 = .ok (.invokevirtual 40, 3) := by decide +kernel
theorem dX2_goThroughAll_25 : decode cX2_goThroughAll 25 = .ok (.istore 6, 2) := by decide +kernel
theorem dX2_goThroughAll_27 : decode cX2_goThroughAll 27 = .ok (.aload_n 0, 1) := by decide +kernel
theorem dX2_goThroughAll_28 : decode cX2_goThroughAll 28 = .ok (.getfield 9, 3) := by decide +kernel
theorem dX2_goThroughAll_31 : decode cX2_goThroughAll 31 = .ok (.iload 5, 2) := by decide +kernel
theorem dX2_goThroughAll_33 : decode cX2_goThroughAll 33 = .ok (.iload 6, 2) := by decide +kernel
theorem dX2_goThroughAll_35 : decode cX2_goThroughAll 35 = .ok (.iastore, 1) := by decide +kernel
theorem dX2_goThroughAll_36 : decode cX2_goThroughAll 36 = .ok (.aload_n 0, 1) := by decide +kernel
theorem dX2_goThroughAll_37 : decode cX2_goThroughAll 37 = .ok (.getfield 15, 3) := by decide +kernel
theorem dX2_goThroughAll_40 : decode cX2_goThroughAll 40 = .ok (.iload 5, 2) := by decide +kernel
theorem dX2_goThroughAll_42 : decode cX2_goThroughAll 42 = .ok (.aload_n 0, 1) := by decide +kernel
theorem dX2_goThroughAll_43 : decode cX2_goThroughAll 43 = .ok (.getfield 18, 3) := by decide +kernel
theorem dX2_goThroughAll_46 : decode cX2_goThroughAll 46 = .ok (.iastore, 1) := by decide +kernel
theorem dX2_goThroughAll_47 : decode cX2_goThroughAll 47 = .ok (.iload_n 3, 1) := by decide +kernel
theorem dX2_goThroughAll_48 : decode cX2_goThroughAll 48 = .ok (.iload 6, 2) := by decide +kernel
theorem dX2_goThroughAll_50 : decode cX2_goThroughAll 50 = .ok (.invokestatic 44, 3) := by decide +kernel
theorem dX2_goThroughAll_53 : decode cX2_goThroughAll 53 = .ok (.iconst (-1), 1) := by decide +kernel
theorem dX2_goThroughAll_54 : decode cX2_goThroughAll 54 = .ok (.ixor, 1) := by decide +kernel
theorem dX2_goThroughAll_55 : decode cX2_goThroughAll 55 = .ok (.iand, 1) := by decide +kernel
theorem dX2_goThroughAll_56 : decode cX2_goThroughAll 56 = .ok (.istore_n 3, 1) := by decide +kernel
theorem dX2_goThroughAll_57 : decode cX2_goThroughAll 57 = .ok (.iinc 4 1, 3) := by decide +kernel
theorem dX2_goThroughAll_60 : decode cX2_goThroughAll 60 = .ok (.iinc 5 1, 3) := by decide +kernel
theorem dX2_goThroughAll_63 : decode cX2_goThroughAll 63 = .ok (.goto (-55), 3) := by decide +kernel
theorem dX2_goThroughAll_66 : decode cX2_goThroughAll 66 = .ok (.iload 4, 2) := by decide +kernel
theorem dX2_goThroughAll_68 : decode cX2_goThroughAll 68 = .ok (.ireturn, 1) := by decide +kernel
theorem dX2_placeOf_0 : decode cX2_placeOf 0 = .ok (.aload_n 0, 1) := by decide +kernel
theorem dX2_placeOf_1 : decode cX2_placeOf 1 = .ok (.aload_n 2, 1) := by decide +kernel
theorem dX2_placeOf_2 : decode cX2_placeOf 2 = .ok (.iload_n 3, 1) := by decide +kernel
theorem dX2_placeOf_3 : decode cX2_placeOf 3 = .ok (.invokevirtual 47, 3) := by decide +kernel
theorem dX2_placeOf_6 : decode cX2_placeOf 6 = .ok (.istore 4, 2) := by decide +kernel
theorem dX2_placeOf_8 : decode cX2_placeOf 8 = .ok (.iconst 0, 1) := by decide +kernel
theorem dX2_placeOf_9 : decode cX2_placeOf 9 = .ok (.istore 5, 2) := by decide +kernel
theorem dX2_placeOf_11 : decode cX2_placeOf 11 = .ok (.iload 5, 2) := by decide +kernel
theorem dX2_placeOf_13 : decode cX2_placeOf 13 = .ok (.iload 4, 2) := by decide +kernel
theorem dX2_placeOf_15 : decode cX2_placeOf 15 = .ok (.if_icmp .ge 23, 3) := by decide +kernel
theorem dX2_placeOf_18 : decode cX2_placeOf 18 = .ok (.aload_n 0, 1) := by decide +kernel
theorem dX2_placeOf_19 : decode cX2_placeOf 19 = .ok (.getfield 9, 3) := by decide +kernel
theorem dX2_placeOf_22 : decode cX2_placeOf 22 = .ok (.iload 5, 2) := by decide +kernel
theorem dX2_placeOf_24 : decode cX2_placeOf 24 = .ok (.iaload, 1) := by decide +kernel
theorem dX2_placeOf_25 : decode cX2_placeOf 25 = .ok (.iload_n 1, 1) := by decide +kernel
theorem dX2_placeOf_26 : decode cX2_placeOf 26 = .ok (.if_icmp .ne 6, 3) := by decide +kernel
theorem dX2_placeOf_29 : decode cX2_placeOf 29 = .ok (.iload 5, 2) := by decide +kernel
theorem dX2_placeOf_31 : decode cX2_placeOf 31 = .ok (.ireturn, 1) := by decide +kernel
theorem dX2_placeOf_32 : decode cX2_placeOf 32 = .ok (.iinc 5 1, 3) := by decide +kernel
theorem dX2_placeOf_35 : decode cX2_placeOf 35 = .ok (.goto (-24), 3) := by decide +kernel
theorem dX2_placeOf_38 : decode cX2_placeOf 38 = .ok (.bipush 6, 2) := by decide +kernel
theorem dX2_placeOf_40 : decode cX2_placeOf 40 = .ok (.ireturn, 1) := by decide +kernel
theorem dX3_init_0 : decode cX3_init 0 = .ok (.aload_n 0, 1) := by decide +kernel
theorem dX3_init_1 : decode cX3_init 1 = .ok (.invokespecial 3, 3) := by decide +kernel
theorem dX3_init_4 : decode cX3_init 4 = .ok (.aload_n 0, 1) := by decide +kernel
theorem dX3_init_5 : decode cX3_init 5 = .ok (.iload_n 1, 1) := by decide +kernel
theorem dX3_init_6 : decode cX3_init 6 = .ok (.putfield 9, 3) := by decide +kernel
theorem dX3_init_9 : decode cX3_init 9 = .ok (.aload_n 0, 1) := by decide +kernel
theorem dX3_init_10 : decode cX3_init 10 = .ok (.iload_n 2, 1) := by decide +kernel
theorem dX3_init_11 : decode cX3_init 11 = .ok (.putfield 15, 3) := by decide +kernel
theorem dX3_init_14 : decode cX3_init 14 = .ok (.aload_n 0, 1) := by decide +kernel
theorem dX3_init_15 : decode cX3_init 15 = .ok (.iload_n 3, 1) := by decide +kernel
theorem dX3_init_16 : decode cX3_init 16 = .ok (.putfield 18, 3) := by decide +kernel
theorem dX3_init_19 : decode cX3_init 19 = .ok (.return_, 1) := by decide +kernel
theorem dX3_kind_0 : decode cX3_kind 0 = .ok (.iconst 0, 1) := by decide +kernel
theorem dX3_kind_1 : decode cX3_kind 1 = .ok (.ireturn, 1) := by decide +kernel
theorem dX3_telling_0 : decode cX3_telling 0 = .ok (.aload_n 0, 1) := by decide +kernel
theorem dX3_telling_1 : decode cX3_telling 1 = .ok (.aload_n 1, 1) := by decide +kernel
theorem dX3_telling_2 : decode cX3_telling 2 = .ok (.invokevirtual 21, 3) := by decide +kernel
theorem dX3_telling_5 : decode cX3_telling 5 = .ok (.ireturn, 1) := by decide +kernel
theorem dX3_plainTelling_0 : decode cX3_plainTelling 0 = .ok (.aload_n 1, 1) := by decide +kernel
theorem dX3_plainTelling_1 : decode cX3_plainTelling 1 = .ok (.iconst 1, 1) := by decide +kernel
theorem dX3_plainTelling_2 : decode cX3_plainTelling 2 = .ok (.invokevirtual 25, 3) := by decide +kernel
theorem dX3_plainTelling_5 : decode cX3_plainTelling 5 = .ok (.aload_n 0, 1) := by decide +kernel
theorem dX3_plainTelling_6 : decode cX3_plainTelling 6 = .ok (.getfield 15, 3) := by decide +kernel
theorem dX3_plainTelling_9 : decode cX3_plainTelling 9 = .ok (.ireturn, 1) := by decide +kernel
theorem dX3_heardAs_0 : decode cX3_heardAs 0 = .ok (.aload_n 1, 1) := by decide +kernel
theorem dX3_heardAs_1 : decode cX3_heardAs 1 = .ok (.iconst 4, 1) := by decide +kernel
theorem dX3_heardAs_2 : decode cX3_heardAs 2 = .ok (.invokevirtual 25, 3) := by decide +kernel
theorem dX3_heardAs_5 : decode cX3_heardAs 5 = .ok (.aload_n 0, 1) := by decide +kernel
theorem dX3_heardAs_6 : decode cX3_heardAs 6 = .ok (.getfield 9, 3) := by decide +kernel
theorem dX3_heardAs_9 : decode cX3_heardAs 9 = .ok (.ireturn, 1) := by decide +kernel
theorem dX4_init_0 : decode cX4_init 0 = .ok (.aload_n 0, 1) := by decide +kernel
theorem dX4_init_1 : decode cX4_init 1 = .ok (.iload_n 1, 1) := by decide +kernel
theorem dX4_init_2 : decode cX4_init 2 = .ok (.iload_n 2, 1) := by decide +kernel
theorem dX4_init_3 : decode cX4_init 3 = .ok (.iload_n 3, 1) := by decide +kernel
theorem dX4_init_4 : decode cX4_init 4 = .ok (.invokespecial 3, 3) := by decide +kernel
theorem dX4_init_7 : decode cX4_init 7 = .ok (.return_, 1) := by decide +kernel
theorem dX4_kind_0 : decode cX4_kind 0 = .ok (.iconst 1, 1) := by decide +kernel
theorem dX4_kind_1 : decode cX4_kind 1 = .ok (.ireturn, 1) := by decide +kernel
theorem dX4_telling_0 : decode cX4_telling 0 = .ok (.aload_n 1, 1) := by decide +kernel
theorem dX4_telling_1 : decode cX4_telling 1 = .ok (.iconst 2, 1) := by decide +kernel
theorem dX4_telling_2 : decode cX4_telling 2 = .ok (.invokevirtual 9, 3) := by decide +kernel
theorem dX4_telling_5 : decode cX4_telling 5 = .ok (.aload_n 0, 1) := by decide +kernel
theorem dX4_telling_6 : decode cX4_telling 6 = .ok (.aload_n 1, 1) := by decide +kernel
theorem dX4_telling_7 : decode cX4_telling 7 = .ok (.invokevirtual 15, 3) := by decide +kernel
theorem dX4_telling_10 : decode cX4_telling 10 = .ok (.bipush 100, 2) := by decide +kernel
theorem dX4_telling_12 : decode cX4_telling 12 = .ok (.iadd, 1) := by decide +kernel
theorem dX4_telling_13 : decode cX4_telling 13 = .ok (.ireturn, 1) := by decide +kernel
theorem dX5_init_0 : decode cX5_init 0 = .ok (.aload_n 0, 1) := by decide +kernel
theorem dX5_init_1 : decode cX5_init 1 = .ok (.invokespecial 3, 3) := by decide +kernel
theorem dX5_init_4 : decode cX5_init 4 = .ok (.aload_n 0, 1) := by decide +kernel
theorem dX5_init_5 : decode cX5_init 5 = .ok (.bipush 8, 2) := by decide +kernel
theorem dX5_init_7 : decode cX5_init 7 = .ok (.newarray .int, 2) := by decide +kernel
theorem dX5_init_9 : decode cX5_init 9 = .ok (.putfield 9, 3) := by decide +kernel
theorem dX5_init_12 : decode cX5_init 12 = .ok (.aload_n 0, 1) := by decide +kernel
theorem dX5_init_13 : decode cX5_init 13 = .ok (.bipush 8, 2) := by decide +kernel
theorem dX5_init_15 : decode cX5_init 15 = .ok (.newarray .int, 2) := by decide +kernel
theorem dX5_init_17 : decode cX5_init 17 = .ok (.putfield 15, 3) := by decide +kernel
theorem dX5_init_20 : decode cX5_init 20 = .ok (.aload_n 0, 1) := by decide +kernel
theorem dX5_init_21 : decode cX5_init 21 = .ok (.bipush 8, 2) := by decide +kernel
theorem dX5_init_23 : decode cX5_init 23 = .ok (.newarray .boolean, 2) := by decide +kernel
theorem dX5_init_25 : decode cX5_init 25 = .ok (.putfield 18, 3) := by decide +kernel
theorem dX5_init_28 : decode cX5_init 28 = .ok (.return_, 1) := by decide +kernel
theorem dX5_add_0 : decode cX5_add 0 = .ok (.aload_n 0, 1) := by decide +kernel
theorem dX5_add_1 : decode cX5_add 1 = .ok (.getfield 22, 3) := by decide +kernel
theorem dX5_add_4 : decode cX5_add 4 = .ok (.iconst 0, 1) := by decide +kernel
theorem dX5_add_5 : decode cX5_add 5 = .ok (.bipush 7, 2) := by decide +kernel
theorem dX5_add_7 : decode cX5_add 7 = .ok (.invokestatic 26, 3) := by decide +kernel
theorem dX5_add_10 : decode cX5_add 10 = .ok (.ifCond .ne 6, 3) := by decide +kernel
theorem dX5_add_13 : decode cX5_add 13 = .ok (.bipush (-4), 2) := by decide +kernel
theorem dX5_add_15 : decode cX5_add 15 = .ok (.ireturn, 1) := by decide +kernel
theorem dX5_add_16 : decode cX5_add 16 = .ok (.aload_n 0, 1) := by decide +kernel
theorem dX5_add_17 : decode cX5_add 17 = .ok (.getfield 9, 3) := by decide +kernel
theorem dX5_add_20 : decode cX5_add 20 = .ok (.aload_n 0, 1) := by decide +kernel
theorem dX5_add_21 : decode cX5_add 21 = .ok (.getfield 22, 3) := by decide +kernel
theorem dX5_add_24 : decode cX5_add 24 = .ok (.iload_n 1, 1) := by decide +kernel
theorem dX5_add_25 : decode cX5_add 25 = .ok (.iastore, 1) := by decide +kernel
theorem dX5_add_26 : decode cX5_add 26 = .ok (.aload_n 0, 1) := by decide +kernel
theorem dX5_add_27 : decode cX5_add 27 = .ok (.getfield 15, 3) := by decide +kernel
theorem dX5_add_30 : decode cX5_add 30 = .ok (.aload_n 0, 1) := by decide +kernel
theorem dX5_add_31 : decode cX5_add 31 = .ok (.getfield 22, 3) := by decide +kernel
theorem dX5_add_34 : decode cX5_add 34 = .ok (.iload_n 2, 1) := by decide +kernel
theorem dX5_add_35 : decode cX5_add 35 = .ok (.iastore, 1) := by decide +kernel
theorem dX5_add_36 : decode cX5_add 36 = .ok (.aload_n 0, 1) := by decide +kernel
theorem dX5_add_37 : decode cX5_add 37 = .ok (.getfield 18, 3) := by decide +kernel
theorem dX5_add_40 : decode cX5_add 40 = .ok (.aload_n 0, 1) := by decide +kernel
theorem dX5_add_41 : decode cX5_add 41 = .ok (.getfield 22, 3) := by decide +kernel
theorem dX5_add_44 : decode cX5_add 44 = .ok (.iload_n 3, 1) := by decide +kernel
theorem dX5_add_45 : decode cX5_add 45 = .ok (.bastore, 1) := by decide +kernel
theorem dX5_add_46 : decode cX5_add 46 = .ok (.aload_n 0, 1) := by decide +kernel
theorem dX5_add_47 : decode cX5_add 47 = .ok (.dup, 1) := by decide +kernel
theorem dX5_add_48 : decode cX5_add 48 = .ok (.getfield 22, 3) := by decide +kernel
theorem dX5_add_51 : decode cX5_add 51 = .ok (.iconst 1, 1) := by decide +kernel
theorem dX5_add_52 : decode cX5_add 52 = .ok (.iadd, 1) := by decide +kernel
theorem dX5_add_53 : decode cX5_add 53 = .ok (.putfield 22, 3) := by decide +kernel
theorem dX5_add_56 : decode cX5_add 56 = .ok (.aload_n 0, 1) := by decide +kernel
theorem dX5_add_57 : decode cX5_add 57 = .ok (.getfield 22, 3) := by decide +kernel
theorem dX5_add_60 : decode cX5_add 60 = .ok (.iconst 1, 1) := by decide +kernel
theorem dX5_add_61 : decode cX5_add 61 = .ok (.isub, 1) := by decide +kernel
theorem dX5_add_62 : decode cX5_add 62 = .ok (.ireturn, 1) := by decide +kernel
theorem dX5_areSo_0 : decode cX5_areSo 0 = .ok (.iconst 0, 1) := by decide +kernel
theorem dX5_areSo_1 : decode cX5_areSo 1 = .ok (.istore_n 2, 1) := by decide +kernel
theorem dX5_areSo_2 : decode cX5_areSo 2 = .ok (.iload_n 2, 1) := by decide +kernel
theorem dX5_areSo_3 : decode cX5_areSo 3 = .ok (.aload_n 0, 1) := by decide +kernel
theorem dX5_areSo_4 : decode cX5_areSo 4 = .ok (.getfield 22, 3) := by decide +kernel
theorem dX5_areSo_7 : decode cX5_areSo 7 = .ok (.if_icmp .ge 42, 3) := by decide +kernel
theorem dX5_areSo_10 : decode cX5_areSo 10 = .ok (.aload_n 1, 1) := by decide +kernel
theorem dX5_areSo_11 : decode cX5_areSo 11 = .ok (.aload_n 0, 1) := by decide +kernel
theorem dX5_areSo_12 : decode cX5_areSo 12 = .ok (.getfield 9, 3) := by decide +kernel
theorem dX5_areSo_15 : decode cX5_areSo 15 = .ok (.iload_n 2, 1) := by decide +kernel
theorem dX5_areSo_16 : decode cX5_areSo 16 = .ok (.iaload, 1) := by decide +kernel
theorem dX5_areSo_17 : decode cX5_areSo 17 = .ok (.iaload, 1) := by decide +kernel
theorem dX5_areSo_18 : decode cX5_areSo 18 = .ok (.aload_n 0, 1) := by decide +kernel
theorem dX5_areSo_19 : decode cX5_areSo 19 = .ok (.getfield 15, 3) := by decide +kernel
theorem dX5_areSo_22 : decode cX5_areSo 22 = .ok (.iload_n 2, 1) := by decide +kernel
theorem dX5_areSo_23 : decode cX5_areSo 23 = .ok (.iaload, 1) := by decide +kernel
theorem dX5_areSo_24 : decode cX5_areSo 24 = .ok (.if_icmp .le 7, 3) := by decide +kernel
theorem dX5_areSo_27 : decode cX5_areSo 27 = .ok (.iconst 1, 1) := by decide +kernel
theorem dX5_areSo_28 : decode cX5_areSo 28 = .ok (.goto 4, 3) := by decide +kernel
theorem dX5_areSo_31 : decode cX5_areSo 31 = .ok (.iconst 0, 1) := by decide +kernel
theorem dX5_areSo_32 : decode cX5_areSo 32 = .ok (.aload_n 0, 1) := by decide +kernel
theorem dX5_areSo_33 : decode cX5_areSo 33 = .ok (.getfield 18, 3) := by decide +kernel
theorem dX5_areSo_36 : decode cX5_areSo 36 = .ok (.iload_n 2, 1) := by decide +kernel
theorem dX5_areSo_37 : decode cX5_areSo 37 = .ok (.baload, 1) := by decide +kernel
theorem dX5_areSo_38 : decode cX5_areSo 38 = .ok (.if_icmp .eq 5, 3) := by decide +kernel
theorem dX5_areSo_41 : decode cX5_areSo 41 = .ok (.iconst 0, 1) := by decide +kernel
theorem dX5_areSo_42 : decode cX5_areSo 42 = .ok (.ireturn, 1) := by decide +kernel
theorem dX5_areSo_43 : decode cX5_areSo 43 = .ok (.iinc 2 1, 3) := by decide +kernel
theorem dX5_areSo_46 : decode cX5_areSo 46 = .ok (.goto (-44), 3) := by decide +kernel
theorem dX5_areSo_49 : decode cX5_areSo 49 = .ok (.iconst 1, 1) := by decide +kernel
theorem dX5_areSo_50 : decode cX5_areSo 50 = .ok (.ireturn, 1) := by decide +kernel
theorem dX6_init_0 : decode cX6_init 0 = .ok (.aload_n 0, 1) := by decide +kernel
theorem dX6_init_1 : decode cX6_init 1 = .ok (.invokespecial 3, 3) := by decide +kernel
theorem dX6_init_4 : decode cX6_init 4 = .ok (.aload_n 0, 1) := by decide +kernel
theorem dX6_init_5 : decode cX6_init 5 = .ok (.bipush 60, 2) := by decide +kernel
theorem dX6_init_7 : decode cX6_init 7 = .ok (.newarray .int, 2) := by decide +kernel
theorem dX6_init_9 : decode cX6_init 9 = .ok (.putfield 9, 3) := by decide +kernel
theorem dX6_init_12 : decode cX6_init 12 = .ok (.return_, 1) := by decide +kernel
theorem dX6_renew_0 : decode cX6_renew 0 = .ok (.aload_n 0, 1) := by decide +kernel
theorem dX6_renew_1 : decode cX6_renew 1 = .ok (.iconst 1, 1) := by decide +kernel
theorem dX6_renew_2 : decode cX6_renew 2 = .ok (.putfield 15, 3) := by decide +kernel
theorem dX6_renew_5 : decode cX6_renew 5 = .ok (.aload_n 0, 1) := by decide +kernel
theorem dX6_renew_6 : decode cX6_renew 6 = .ok (.iload_n 1, 1) := by decide +kernel
theorem dX6_renew_7 : decode cX6_renew 7 = .ok (.putfield 19, 3) := by decide +kernel
theorem dX6_renew_10 : decode cX6_renew 10 = .ok (.aload_n 0, 1) := by decide +kernel
theorem dX6_renew_11 : decode cX6_renew 11 = .ok (.iconst 0, 1) := by decide +kernel
theorem dX6_renew_12 : decode cX6_renew 12 = .ok (.iload_n 2, 1) := by decide +kernel
theorem dX6_renew_13 : decode cX6_renew 13 = .ok (.bipush 60, 2) := by decide +kernel
theorem dX6_renew_15 : decode cX6_renew 15 = .ok (.invokestatic 23, 3) := by decide +kernel
theorem dX6_renew_18 : decode cX6_renew 18 = .ok (.invokestatic 29, 3) := by decide +kernel
theorem dX6_renew_21 : decode cX6_renew 21 = .ok (.putfield 32, 3) := by decide +kernel
theorem dX6_renew_24 : decode cX6_renew 24 = .ok (.iconst 0, 1) := by decide +kernel
theorem dX6_renew_25 : decode cX6_renew 25 = .ok (.istore_n 3, 1) := by decide +kernel
theorem dX6_renew_26 : decode cX6_renew 26 = .ok (.iload_n 3, 1) := by decide +kernel
theorem dX6_renew_27 : decode cX6_renew 27 = .ok (.aload_n 0, 1) := by decide +kernel
theorem dX6_renew_28 : decode cX6_renew 28 = .ok (.getfield 32, 3) := by decide +kernel
theorem dX6_renew_31 : decode cX6_renew 31 = .ok (.if_icmp .ge 16, 3) := by decide +kernel
theorem dX6_renew_34 : decode cX6_renew 34 = .ok (.aload_n 0, 1) := by decide +kernel
theorem dX6_renew_35 : decode cX6_renew 35 = .ok (.getfield 9, 3) := by decide +kernel
theorem dX6_renew_38 : decode cX6_renew 38 = .ok (.iload_n 3, 1) := by decide +kernel
theorem dX6_renew_39 : decode cX6_renew 39 = .ok (.iconst 0, 1) := by decide +kernel
theorem dX6_renew_40 : decode cX6_renew 40 = .ok (.iastore, 1) := by decide +kernel
theorem dX6_renew_41 : decode cX6_renew 41 = .ok (.iinc 3 1, 3) := by decide +kernel
theorem dX6_renew_44 : decode cX6_renew 44 = .ok (.goto (-18), 3) := by decide +kernel
theorem dX6_renew_47 : decode cX6_renew 47 = .ok (.return_, 1) := by decide +kernel
theorem dX6_hasCells_0 : decode cX6_hasCells 0 = .ok (.iload_n 1, 1) := by decide +kernel
theorem dX6_hasCells_1 : decode cX6_hasCells 1 = .ok (.ifCond .lt 29, 3) := by decide +kernel
theorem dX6_hasCells_4 : decode cX6_hasCells 4 = .ok (.iload_n 1, 1) := by decide +kernel
theorem dX6_hasCells_5 : decode cX6_hasCells 5 = .ok (.aload_n 0, 1) := by decide +kernel
theorem dX6_hasCells_6 : decode cX6_hasCells 6 = .ok (.getfield 32, 3) := by decide +kernel
theorem dX6_hasCells_9 : decode cX6_hasCells 9 = .ok (.if_icmp .gt 21, 3) := by decide +kernel
theorem dX6_hasCells_12 : decode cX6_hasCells 12 = .ok (.iload_n 2, 1) := by decide +kernel
theorem dX6_hasCells_13 : decode cX6_hasCells 13 = .ok (.ifCond .lt 17, 3) := by decide +kernel
theorem dX6_hasCells_16 : decode cX6_hasCells 16 = .ok (.iload_n 2, 1) := by decide +kernel
theorem dX6_hasCells_17 : decode cX6_hasCells 17 = .ok (.aload_n 0, 1) := by decide +kernel
theorem dX6_hasCells_18 : decode cX6_hasCells 18 = .ok (.getfield 32, 3) := by decide +kernel
theorem dX6_hasCells_21 : decode cX6_hasCells 21 = .ok (.iload_n 1, 1) := by decide +kernel
theorem dX6_hasCells_22 : decode cX6_hasCells 22 = .ok (.isub, 1) := by decide +kernel
theorem dX6_hasCells_23 : decode cX6_hasCells 23 = .ok (.if_icmp .gt 7, 3) := by decide +kernel
theorem dX6_hasCells_26 : decode cX6_hasCells 26 = .ok (.iconst 1, 1) := by decide +kernel
theorem dX6_hasCells_27 : decode cX6_hasCells 27 = .ok (.goto 4, 3) := by decide +kernel
theorem dX6_hasCells_30 : decode cX6_hasCells 30 = .ok (.iconst 0, 1) := by decide +kernel
theorem dX6_hasCells_31 : decode cX6_hasCells 31 = .ok (.ireturn, 1) := by decide +kernel
theorem dX6_read_0 : decode cX6_read 0 = .ok (.aload_n 0, 1) := by decide +kernel
theorem dX6_read_1 : decode cX6_read 1 = .ok (.iload_n 1, 1) := by decide +kernel
theorem dX6_read_2 : decode cX6_read 2 = .ok (.iconst 1, 1) := by decide +kernel
theorem dX6_read_3 : decode cX6_read 3 = .ok (.invokevirtual 35, 3) := by decide +kernel
theorem dX6_read_6 : decode cX6_read 6 = .ok (.ifCond .eq 12, 3) := by decide +kernel
theorem dX6_read_9 : decode cX6_read 9 = .ok (.aload_n 0, 1) := by decide +kernel
theorem dX6_read_10 : decode cX6_read 10 = .ok (.getfield 9, 3) := by decide +kernel
theorem dX6_read_13 : decode cX6_read 13 = .ok (.iload_n 1, 1) := by decide +kernel
theorem dX6_read_14 : decode cX6_read 14 = .ok (.iaload, 1) := by decide +kernel
theorem dX6_read_15 : decode cX6_read 15 = .ok (.goto 4, 3) := by decide +kernel
theorem dX6_read_18 : decode cX6_read 18 = .ok (.iconst 0, 1) := by decide +kernel
theorem dX6_read_19 : decode cX6_read 19 = .ok (.ireturn, 1) := by decide +kernel
theorem dX6_write_0 : decode cX6_write 0 = .ok (.aload_n 0, 1) := by decide +kernel
theorem dX6_write_1 : decode cX6_write 1 = .ok (.iload_n 1, 1) := by decide +kernel
theorem dX6_write_2 : decode cX6_write 2 = .ok (.iconst 1, 1) := by decide +kernel
theorem dX6_write_3 : decode cX6_write 3 = .ok (.invokevirtual 35, 3) := by decide +kernel
theorem dX6_write_6 : decode cX6_write 6 = .ok (.ifCond .eq 14, 3) := by decide +kernel
theorem dX6_write_9 : decode cX6_write 9 = .ok (.aload_n 0, 1) := by decide +kernel
theorem dX6_write_10 : decode cX6_write 10 = .ok (.getfield 9, 3) := by decide +kernel
theorem dX6_write_13 : decode cX6_write 13 = .ok (.iload_n 1, 1) := by decide +kernel
theorem dX6_write_14 : decode cX6_write 14 = .ok (.aload_n 0, 1) := by decide +kernel
theorem dX6_write_15 : decode cX6_write 15 = .ok (.iload_n 2, 1) := by decide +kernel
theorem dX6_write_16 : decode cX6_write 16 = .ok (.invokevirtual 39, 3) := by decide +kernel
theorem dX6_write_19 : decode cX6_write 19 = .ok (.iastore, 1) := by decide +kernel
theorem dX6_write_20 : decode cX6_write 20 = .ok (.return_, 1) := by decide +kernel
theorem dX6_cut_0 : decode cX6_cut 0 = .ok (.aload_n 0, 1) := by decide +kernel
theorem dX6_cut_1 : decode cX6_cut 1 = .ok (.getfield 19, 3) := by decide +kernel
theorem dX6_cut_4 : decode cX6_cut 4 = .ok (.lookupswitch 34 #[(0, 28), (1, 31)], 28) := by decide +kernel
theorem dX6_cut_32 : decode cX6_cut 32 = .ok (.iload_n 1, 1) := by decide +kernel
theorem dX6_cut_33 : decode cX6_cut 33 = .ok (.i2b, 1) := by decide +kernel
theorem dX6_cut_34 : decode cX6_cut 34 = .ok (.ireturn, 1) := by decide +kernel
theorem dX6_cut_35 : decode cX6_cut 35 = .ok (.iload_n 1, 1) := by decide +kernel
theorem dX6_cut_36 : decode cX6_cut 36 = .ok (.i2s, 1) := by decide +kernel
theorem dX6_cut_37 : decode cX6_cut 37 = .ok (.ireturn, 1) := by decide +kernel
theorem dX6_cut_38 : decode cX6_cut 38 = .ok (.iload_n 1, 1) := by decide +kernel
theorem dX6_cut_39 : decode cX6_cut 39 = .ok (.ireturn, 1) := by decide +kernel
theorem dX7_init_0 : decode cX7_init 0 = .ok (.aload_n 0, 1) := by decide +kernel
theorem dX7_init_1 : decode cX7_init 1 = .ok (.invokespecial 1, 3) := by decide +kernel
theorem dX7_init_4 : decode cX7_init 4 = .ok (.return_, 1) := by decide +kernel
theorem dX7_leave_0 : decode cX7_leave 0 = .ok (.aload_n 0, 1) := by decide +kernel
theorem dX7_leave_1 : decode cX7_leave 1 = .ok (.bipush 31, 2) := by decide +kernel
theorem dX7_leave_3 : decode cX7_leave 3 = .ok (.aload_n 0, 1) := by decide +kernel
theorem dX7_leave_4 : decode cX7_leave 4 = .ok (.getfield 7, 3) := by decide +kernel
theorem dX7_leave_7 : decode cX7_leave 7 = .ok (.imul, 1) := by decide +kernel
theorem dX7_leave_8 : decode cX7_leave 8 = .ok (.iload_n 1, 1) := by decide +kernel
theorem dX7_leave_9 : decode cX7_leave 9 = .ok (.iadd, 1) := by decide +kernel
theorem dX7_leave_10 : decode cX7_leave 10 = .ok (.putfield 7, 3) := by decide +kernel
theorem dX7_leave_13 : decode cX7_leave 13 = .ok (.return_, 1) := by decide +kernel
theorem dJ6_bitCount_0f7a4_0 : decode cJ6_bitCount_0f7a4 0 = .ok (.iload_n 0, 1) := by decide +kernel
theorem dJ6_bitCount_0f7a4_1 : decode cJ6_bitCount_0f7a4 1 = .ok (.iload_n 0, 1) := by decide +kernel
theorem dJ6_bitCount_0f7a4_2 : decode cJ6_bitCount_0f7a4 2 = .ok (.iconst 1, 1) := by decide +kernel
theorem dJ6_bitCount_0f7a4_3 : decode cJ6_bitCount_0f7a4 3 = .ok (.iushr, 1) := by decide +kernel
theorem dJ6_bitCount_0f7a4_4 : decode cJ6_bitCount_0f7a4 4 = .ok (.ldc_w 265, 3) := by decide +kernel
theorem dJ6_bitCount_0f7a4_7 : decode cJ6_bitCount_0f7a4 7 = .ok (.iand, 1) := by decide +kernel
theorem dJ6_bitCount_0f7a4_8 : decode cJ6_bitCount_0f7a4 8 = .ok (.isub, 1) := by decide +kernel
theorem dJ6_bitCount_0f7a4_9 : decode cJ6_bitCount_0f7a4 9 = .ok (.istore_n 0, 1) := by decide +kernel
theorem dJ6_bitCount_0f7a4_10 : decode cJ6_bitCount_0f7a4 10 = .ok (.iload_n 0, 1) := by decide +kernel
theorem dJ6_bitCount_0f7a4_11 : decode cJ6_bitCount_0f7a4 11 = .ok (.ldc_w 266, 3) := by decide +kernel
theorem dJ6_bitCount_0f7a4_14 : decode cJ6_bitCount_0f7a4 14 = .ok (.iand, 1) := by decide +kernel
theorem dJ6_bitCount_0f7a4_15 : decode cJ6_bitCount_0f7a4 15 = .ok (.iload_n 0, 1) := by decide +kernel
theorem dJ6_bitCount_0f7a4_16 : decode cJ6_bitCount_0f7a4 16 = .ok (.iconst 2, 1) := by decide +kernel
theorem dJ6_bitCount_0f7a4_17 : decode cJ6_bitCount_0f7a4 17 = .ok (.iushr, 1) := by decide +kernel
theorem dJ6_bitCount_0f7a4_18 : decode cJ6_bitCount_0f7a4 18 = .ok (.ldc_w 266, 3) := by decide +kernel
theorem dJ6_bitCount_0f7a4_21 : decode cJ6_bitCount_0f7a4 21 = .ok (.iand, 1) := by decide +kernel
theorem dJ6_bitCount_0f7a4_22 : decode cJ6_bitCount_0f7a4 22 = .ok (.iadd, 1) := by decide +kernel
theorem dJ6_bitCount_0f7a4_23 : decode cJ6_bitCount_0f7a4 23 = .ok (.istore_n 0, 1) := by decide +kernel
theorem dJ6_bitCount_0f7a4_24 : decode cJ6_bitCount_0f7a4 24 = .ok (.iload_n 0, 1) := by decide +kernel
theorem dJ6_bitCount_0f7a4_25 : decode cJ6_bitCount_0f7a4 25 = .ok (.iload_n 0, 1) := by decide +kernel
theorem dJ6_bitCount_0f7a4_26 : decode cJ6_bitCount_0f7a4 26 = .ok (.iconst 4, 1) := by decide +kernel
theorem dJ6_bitCount_0f7a4_27 : decode cJ6_bitCount_0f7a4 27 = .ok (.iushr, 1) := by decide +kernel
theorem dJ6_bitCount_0f7a4_28 : decode cJ6_bitCount_0f7a4 28 = .ok (.iadd, 1) := by decide +kernel
theorem dJ6_bitCount_0f7a4_29 : decode cJ6_bitCount_0f7a4 29 = .ok (.ldc_w 267, 3) := by decide +kernel
theorem dJ6_bitCount_0f7a4_32 : decode cJ6_bitCount_0f7a4 32 = .ok (.iand, 1) := by decide +kernel
theorem dJ6_bitCount_0f7a4_33 : decode cJ6_bitCount_0f7a4 33 = .ok (.istore_n 0, 1) := by decide +kernel
theorem dJ6_bitCount_0f7a4_34 : decode cJ6_bitCount_0f7a4 34 = .ok (.iload_n 0, 1) := by decide +kernel
theorem dJ6_bitCount_0f7a4_35 : decode cJ6_bitCount_0f7a4 35 = .ok (.iload_n 0, 1) := by decide +kernel
theorem dJ6_bitCount_0f7a4_36 : decode cJ6_bitCount_0f7a4 36 = .ok (.bipush 8, 2) := by decide +kernel
theorem dJ6_bitCount_0f7a4_38 : decode cJ6_bitCount_0f7a4 38 = .ok (.iushr, 1) := by decide +kernel
theorem dJ6_bitCount_0f7a4_39 : decode cJ6_bitCount_0f7a4 39 = .ok (.iadd, 1) := by decide +kernel
theorem dJ6_bitCount_0f7a4_40 : decode cJ6_bitCount_0f7a4 40 = .ok (.istore_n 0, 1) := by decide +kernel
theorem dJ6_bitCount_0f7a4_41 : decode cJ6_bitCount_0f7a4 41 = .ok (.iload_n 0, 1) := by decide +kernel
theorem dJ6_bitCount_0f7a4_42 : decode cJ6_bitCount_0f7a4 42 = .ok (.iload_n 0, 1) := by decide +kernel
theorem dJ6_bitCount_0f7a4_43 : decode cJ6_bitCount_0f7a4 43 = .ok (.bipush 16, 2) := by decide +kernel
theorem dJ6_bitCount_0f7a4_45 : decode cJ6_bitCount_0f7a4 45 = .ok (.iushr, 1) := by decide +kernel
theorem dJ6_bitCount_0f7a4_46 : decode cJ6_bitCount_0f7a4 46 = .ok (.iadd, 1) := by decide +kernel
theorem dJ6_bitCount_0f7a4_47 : decode cJ6_bitCount_0f7a4 47 = .ok (.istore_n 0, 1) := by decide +kernel
theorem dJ6_bitCount_0f7a4_48 : decode cJ6_bitCount_0f7a4 48 = .ok (.iload_n 0, 1) := by decide +kernel
theorem dJ6_bitCount_0f7a4_49 : decode cJ6_bitCount_0f7a4 49 = .ok (.bipush 63, 2) := by decide +kernel
theorem dJ6_bitCount_0f7a4_51 : decode cJ6_bitCount_0f7a4 51 = .ok (.iand, 1) := by decide +kernel
theorem dJ6_bitCount_0f7a4_52 : decode cJ6_bitCount_0f7a4 52 = .ok (.ireturn, 1) := by decide +kernel
theorem dJ9_max_7cf53_0 : decode cJ9_max_7cf53 0 = .ok (.iload_n 0, 1) := by decide +kernel
theorem dJ9_max_7cf53_1 : decode cJ9_max_7cf53 1 = .ok (.iload_n 1, 1) := by decide +kernel
theorem dJ9_max_7cf53_2 : decode cJ9_max_7cf53 2 = .ok (.if_icmp .lt 7, 3) := by decide +kernel
theorem dJ9_max_7cf53_5 : decode cJ9_max_7cf53 5 = .ok (.iload_n 0, 1) := by decide +kernel
theorem dJ9_max_7cf53_6 : decode cJ9_max_7cf53 6 = .ok (.goto 4, 3) := by decide +kernel
theorem dJ9_max_7cf53_9 : decode cJ9_max_7cf53 9 = .ok (.iload_n 1, 1) := by decide +kernel
theorem dJ9_max_7cf53_10 : decode cJ9_max_7cf53 10 = .ok (.ireturn, 1) := by decide +kernel
theorem dJ9_min_7cf53_0 : decode cJ9_min_7cf53 0 = .ok (.iload_n 0, 1) := by decide +kernel
theorem dJ9_min_7cf53_1 : decode cJ9_min_7cf53 1 = .ok (.iload_n 1, 1) := by decide +kernel
theorem dJ9_min_7cf53_2 : decode cJ9_min_7cf53 2 = .ok (.if_icmp .gt 7, 3) := by decide +kernel
theorem dJ9_min_7cf53_5 : decode cJ9_min_7cf53 5 = .ok (.iload_n 0, 1) := by decide +kernel
theorem dJ9_min_7cf53_6 : decode cJ9_min_7cf53 6 = .ok (.goto 4, 3) := by decide +kernel
theorem dJ9_min_7cf53_9 : decode cJ9_min_7cf53 9 = .ok (.iload_n 1, 1) := by decide +kernel
theorem dJ9_min_7cf53_10 : decode cJ9_min_7cf53 10 = .ok (.ireturn, 1) := by decide +kernel
end
section
theorem dX8_init_0 : decode cX8_init 0 = .ok (.aload_n 0, 1) := by decide +kernel
theorem dX8_init_1 : decode cX8_init 1 = .ok (.invokespecial 3, 3) := by decide +kernel
theorem dX8_init_4 : decode cX8_init 4 = .ok (.aload_n 0, 1) := by decide +kernel
theorem dX8_init_5 : decode cX8_init 5 = .ok (.iconst 4, 1) := by decide +kernel
theorem dX8_init_6 : decode cX8_init 6 = .ok (.anewarray 11, 3) := by decide +kernel
theorem dX8_init_9 : decode cX8_init 9 = .ok (.putfield 13, 3) := by decide +kernel
theorem dX8_init_12 : decode cX8_init 12 = .ok (.aload_n 0, 1) := by decide +kernel
theorem dX8_init_13 : decode cX8_init 13 = .ok (.bipush 6, 2) := by decide +kernel
theorem dX8_init_15 : decode cX8_init 15 = .ok (.anewarray 17, 3) := by decide +kernel
theorem dX8_init_18 : decode cX8_init 18 = .ok (.putfield 19, 3) := by decide +kernel
theorem dX8_init_21 : decode cX8_init 21 = .ok (.aload_n 0, 1) := by decide +kernel
theorem dX8_init_22 : decode cX8_init 22 = .ok (.bipush 6, 2) := by decide +kernel
theorem dX8_init_24 : decode cX8_init 24 = .ok (.newarray .int, 2) := by decide +kernel
theorem dX8_init_26 : decode cX8_init 26 = .ok (.putfield 23, 3) := by decide +kernel
theorem dX8_init_29 : decode cX8_init 29 = .ok (.aload_n 0, 1) := by decide +kernel
theorem dX8_init_30 : decode cX8_init 30 = .ok (.new 27, 3) := by decide +kernel
theorem dX8_init_33 : decode cX8_init 33 = .ok (.dup, 1) := by decide +kernel
theorem dX8_init_34 : decode cX8_init 34 = .ok (.invokespecial 29, 3) := by decide +kernel
theorem dX8_init_37 : decode cX8_init 37 = .ok (.putfield 30, 3) := by decide +kernel
theorem dX8_init_40 : decode cX8_init 40 = .ok (.aload_n 0, 1) := by decide +kernel
theorem dX8_init_41 : decode cX8_init 41 = .ok (.new 34, 3) := by decide +kernel
theorem dX8_init_44 : decode cX8_init 44 = .ok (.dup, 1) := by decide +kernel
theorem dX8_init_45 : decode cX8_init 45 = .ok (.invokespecial 36, 3) := by decide +kernel
theorem dX8_init_48 : decode cX8_init 48 = .ok (.putfield 37, 3) := by decide +kernel
theorem dX8_init_51 : decode cX8_init 51 = .ok (.aload_n 0, 1) := by decide +kernel
theorem dX8_init_52 : decode cX8_init 52 = .ok (.new 41, 3) := by decide +kernel
theorem dX8_init_55 : decode cX8_init 55 = .ok (.dup, 1) := by decide +kernel
theorem dX8_init_56 : decode cX8_init 56 = .ok (.invokespecial 43, 3) := by decide +kernel
theorem dX8_init_59 : decode cX8_init 59 = .ok (.putfield 44, 3) := by decide +kernel
theorem dX8_init_62 : decode cX8_init 62 = .ok (.aload_n 0, 1) := by decide +kernel
theorem dX8_init_63 : decode cX8_init 63 = .ok (.new 48, 3) := by decide +kernel
theorem dX8_init_66 : decode cX8_init 66 = .ok (.dup, 1) := by decide +kernel
theorem dX8_init_67 : decode cX8_init 67 = .ok (.invokespecial 50, 3) := by decide +kernel
theorem dX8_init_70 : decode cX8_init 70 = .ok (.putfield 51, 3) := by decide +kernel
theorem dX8_init_73 : decode cX8_init 73 = .ok (.iconst 0, 1) := by decide +kernel
theorem dX8_init_74 : decode cX8_init 74 = .ok (.istore_n 1, 1) := by decide +kernel
theorem dX8_init_75 : decode cX8_init 75 = .ok (.iload_n 1, 1) := by decide +kernel
theorem dX8_init_76 : decode cX8_init 76 = .ok (.iconst 4, 1) := by decide +kernel
theorem dX8_init_77 : decode cX8_init 77 = .ok (.if_icmp .ge 22, 3) := by decide +kernel
theorem dX8_init_80 : decode cX8_init 80 = .ok (.aload_n 0, 1) := by decide +kernel
theorem dX8_init_81 : decode cX8_init 81 = .ok (.getfield 13, 3) := by decide +kernel
theorem dX8_init_84 : decode cX8_init 84 = .ok (.iload_n 1, 1) := by decide +kernel
theorem dX8_init_85 : decode cX8_init 85 = .ok (.new 11, 3) := by decide +kernel
theorem dX8_init_88 : decode cX8_init 88 = .ok (.dup, 1) := by decide +kernel
theorem dX8_init_89 : decode cX8_init 89 = .ok (.invokespecial 55, 3) := by decide +kernel
theorem dX8_init_92 : decode cX8_init 92 = .ok (.aastore, 1) := by decide +kernel
theorem dX8_init_93 : decode cX8_init 93 = .ok (.iinc 1 1, 3) := by decide +kernel
theorem dX8_init_96 : decode cX8_init 96 = .ok (.goto (-21), 3) := by decide +kernel
theorem dX8_init_99 : decode cX8_init 99 = .ok (.return_, 1) := by decide +kernel
theorem dX8_line_0 : decode cX8_line 0 = .ok (.aload_n 0, 1) := by decide +kernel
theorem dX8_line_1 : decode cX8_line 1 = .ok (.iconst 0, 1) := by decide +kernel
theorem dX8_line_2 : decode cX8_line 2 = .ok (.putfield 56, 3) := by decide +kernel
theorem dX8_line_5 : decode cX8_line 5 = .ok (.aload_n 0, 1) := by decide +kernel
theorem dX8_line_6 : decode cX8_line 6 = .ok (.iload_n 1, 1) := by decide +kernel
theorem dX8_line_7 : decode cX8_line 7 = .ok (.invokevirtual 60, 3) := by decide +kernel
theorem dX8_line_10 : decode cX8_line 10 = .ok (.astore 5, 2) := by decide +kernel
theorem dX8_line_12 : decode cX8_line 12 = .ok (.aload 5, 2) := by decide +kernel
theorem dX8_line_14 : decode cX8_line 14 = .ok (.ifnonnull 5, 3) := by decide +kernel
theorem dX8_line_17 : decode cX8_line 17 = .ok (.iconst (-1), 1) := by decide +kernel
theorem dX8_line_18 : decode cX8_line 18 = .ok (.ireturn, 1) := by decide +kernel
theorem dX8_line_19 : decode cX8_line 19 = .ok (.iload_n 2, 1) := by decide +kernel
theorem dX8_line_20 : decode cX8_line 20 = .ok (.invokestatic 64, 3) := by decide +kernel
theorem dX8_line_23 : decode cX8_line 23 = .ok (.ifCond .ne 6, 3) := by decide +kernel
theorem dX8_line_26 : decode cX8_line 26 = .ok (.bipush (-2), 2) := by decide +kernel
theorem dX8_line_28 : decode cX8_line 28 = .ok (.ireturn, 1) := by decide +kernel
theorem dX8_line_29 : decode cX8_line 29 = .ok (.aload 5, 2) := by decide +kernel
theorem dX8_line_31 : decode cX8_line 31 = .ok (.iload_n 2, 1) := by decide +kernel
theorem dX8_line_32 : decode cX8_line 32 = .ok (.iload_n 3, 1) := by decide +kernel
theorem dX8_line_33 : decode cX8_line 33 = .ok (.iload 4, 2) := by decide +kernel
theorem dX8_line_35 : decode cX8_line 35 = .ok (.invokestatic 68, 3) := by decide +kernel
theorem dX8_line_38 : decode cX8_line 38 = .ok (.istore 6, 2) := by decide +kernel
theorem dX8_line_40 : decode cX8_line 40 = .ok (.iload 6, 2) := by decide +kernel
theorem dX8_line_42 : decode cX8_line 42 = .ok (.ifCond .eq 10, 3) := by decide +kernel
theorem dX8_line_45 : decode cX8_line 45 = .ok (.aload_n 0, 1) := by decide +kernel
theorem dX8_line_46 : decode cX8_line 46 = .ok (.iload 6, 2) := by decide +kernel
theorem dX8_line_48 : decode cX8_line 48 = .ok (.invokevirtual 72, 3) := by decide +kernel
theorem dX8_line_51 : decode cX8_line 51 = .ok (.ireturn, 1) := by decide +kernel
theorem dX8_line_52 : decode cX8_line 52 = .ok (.aload 5, 2) := by decide +kernel
theorem dX8_line_54 : decode cX8_line 54 = .ok (.iload_n 3, 1) := by decide +kernel
theorem dX8_line_55 : decode cX8_line 55 = .ok (.iload 4, 2) := by decide +kernel
theorem dX8_line_57 : decode cX8_line 57 = .ok (.invokestatic 76, 3) := by decide +kernel
theorem dX8_line_60 : decode cX8_line 60 = .ok (.istore 7, 2) := by decide +kernel
theorem dX8_line_62 : decode cX8_line 62 = .ok (.iload 7, 2) := by decide +kernel
theorem dX8_line_64 : decode cX8_line 64 = .ok (.bipush (-9), 2) := by decide +kernel
theorem dX8_line_66 : decode cX8_line 66 = .ok (.if_icmp .eq 9, 3) := by decide +kernel
theorem dX8_line_69 : decode cX8_line 69 = .ok (.bipush (-100), 2) := by decide +kernel
theorem dX8_line_71 : decode cX8_line 71 = .ok (.iload 7, 2) := by decide +kernel
theorem dX8_line_73 : decode cX8_line 73 = .ok (.isub, 1) := by decide +kernel
theorem dX8_line_74 : decode cX8_line 74 = .ok (.ireturn, 1) := by decide +kernel
theorem dX8_line_75 : decode cX8_line 75 = .ok (.aload_n 0, 1) := by decide +kernel
theorem dX8_line_76 : decode cX8_line 76 = .ok (.aload 5, 2) := by decide +kernel
theorem dX8_line_78 : decode cX8_line 78 = .ok (.iload_n 3, 1) := by decide +kernel
theorem dX8_line_79 : decode cX8_line 79 = .ok (.iload 4, 2) := by decide +kernel
theorem dX8_line_81 : decode cX8_line 81 = .ok (.invokevirtual 80, 3) := by decide +kernel
theorem dX8_line_84 : decode cX8_line 84 = .ok (.aload_n 0, 1) := by decide +kernel
theorem dX8_line_85 : decode cX8_line 85 = .ok (.getfield 84, 3) := by decide +kernel
theorem dX8_line_88 : decode cX8_line 88 = .ok (.ireturn, 1) := by decide +kernel
theorem dX8_ofPerson_0 : decode cX8_ofPerson 0 = .ok (.aload_n 0, 1) := by decide +kernel
theorem dX8_ofPerson_1 : decode cX8_ofPerson 1 = .ok (.iload_n 1, 1) := by decide +kernel
theorem dX8_ofPerson_2 : decode cX8_ofPerson 2 = .ok (.invokevirtual 87, 3) := by decide +kernel
theorem dX8_ofPerson_5 : decode cX8_ofPerson 5 = .ok (.astore_n 3, 1) := by decide +kernel
theorem dX8_ofPerson_6 : decode cX8_ofPerson 6 = .ok (.aload_n 3, 1) := by decide +kernel
theorem dX8_ofPerson_7 : decode cX8_ofPerson 7 = .ok (.ifnonnull 5, 3) := by decide +kernel
theorem dX8_ofPerson_10 : decode cX8_ofPerson 10 = .ok (.iconst (-1), 1) := by decide +kernel
theorem dX8_ofPerson_11 : decode cX8_ofPerson 11 = .ok (.ireturn, 1) := by decide +kernel
theorem dX8_ofPerson_12 : decode cX8_ofPerson 12 = .ok (.iload_n 2, 1) := by decide +kernel
theorem dX8_ofPerson_13 : decode cX8_ofPerson 13 = .ok (.tableswitch 126 0 7 #[47, 52, 57, 62, 74, 91, 108, 117], 47) := by decide +kernel
theorem dX8_ofPerson_60 : decode cX8_ofPerson 60 = .ok (.aload_n 3, 1) := by decide +kernel
theorem dX8_ofPerson_61 : decode cX8_ofPerson 61 = .ok (.invokevirtual 91, 3) := by decide +kernel
theorem dX8_ofPerson_64 : decode cX8_ofPerson 64 = .ok (.ireturn, 1) := by decide +kernel
theorem dX8_ofPerson_65 : decode cX8_ofPerson 65 = .ok (.aload_n 3, 1) := by decide +kernel
theorem dX8_ofPerson_66 : decode cX8_ofPerson 66 = .ok (.getfield 95, 3) := by decide +kernel
theorem dX8_ofPerson_69 : decode cX8_ofPerson 69 = .ok (.ireturn, 1) := by decide +kernel
theorem dX8_ofPerson_70 : decode cX8_ofPerson 70 = .ok (.aload_n 3, 1) := by decide +kernel
theorem dX8_ofPerson_71 : decode cX8_ofPerson 71 = .ok (.getfield 98, 3) := by decide +kernel
theorem dX8_ofPerson_74 : decode cX8_ofPerson 74 = .ok (.ireturn, 1) := by decide +kernel
theorem dX8_ofPerson_75 : decode cX8_ofPerson 75 = .ok (.aload_n 3, 1) := by decide +kernel
theorem dX8_ofPerson_76 : decode cX8_ofPerson 76 = .ok (.invokevirtual 91, 3) := by decide +kernel
theorem dX8_ofPerson_79 : decode cX8_ofPerson 79 = .ok (.aload_n 3, 1) := by decide +kernel
theorem dX8_ofPerson_80 : decode cX8_ofPerson 80 = .ok (.getfield 95, 3) := by decide +kernel
theorem dX8_ofPerson_83 : decode cX8_ofPerson 83 = .ok (.invokestatic 101, 3) := by decide +kernel
theorem dX8_ofPerson_86 : decode cX8_ofPerson 86 = .ok (.ireturn, 1) := by decide +kernel
theorem dX8_ofPerson_87 : decode cX8_ofPerson 87 = .ok (.aload_n 0, 1) := by decide +kernel
theorem dX8_ofPerson_88 : decode cX8_ofPerson 88 = .ok (.aload_n 3, 1) := by decide +kernel
theorem dX8_ofPerson_89 : decode cX8_ofPerson 89 = .ok (.invokevirtual 91, 3) := by decide +kernel
theorem dX8_ofPerson_92 : decode cX8_ofPerson 92 = .ok (.aload_n 3, 1) := by decide +kernel
theorem dX8_ofPerson_93 : decode cX8_ofPerson 93 = .ok (.getfield 95, 3) := by decide +kernel
theorem dX8_ofPerson_96 : decode cX8_ofPerson 96 = .ok (.aload_n 3, 1) := by decide +kernel
theorem dX8_ofPerson_97 : decode cX8_ofPerson 97 = .ok (.getfield 98, 3) := by decide +kernel
theorem dX8_ofPerson_100 : decode cX8_ofPerson 100 = .ok (.invokevirtual 105, 3) := by decide +kernel
theorem dX8_ofPerson_103 : decode cX8_ofPerson 103 = .ok (.ireturn, 1) := by decide +kernel
theorem dX8_ofPerson_104 : decode cX8_ofPerson 104 = .ok (.aload_n 0, 1) := by decide +kernel
theorem dX8_ofPerson_105 : decode cX8_ofPerson 105 = .ok (.getfield 109, 3) := by decide +kernel
theorem dX8_ofPerson_108 : decode cX8_ofPerson 108 = .ok (.iload_n 1, 1) := by decide +kernel
theorem dX8_ofPerson_109 : decode cX8_ofPerson 109 = .ok (.invokestatic 112, 3) := by decide +kernel
theorem dX8_ofPerson_112 : decode cX8_ofPerson 112 = .ok (.ifCond .eq 7, 3) := by decide +kernel
theorem dX8_ofPerson_115 : decode cX8_ofPerson 115 = .ok (.iconst 1, 1) := by decide +kernel
theorem dX8_ofPerson_116 : decode cX8_ofPerson 116 = .ok (.goto 4, 3) := by decide +kernel
theorem dX8_ofPerson_119 : decode cX8_ofPerson 119 = .ok (.iconst 0, 1) := by decide +kernel
theorem dX8_ofPerson_120 : decode cX8_ofPerson 120 = .ok (.ireturn, 1) := by decide +kernel
theorem dX8_ofPerson_121 : decode cX8_ofPerson 121 = .ok (.aload_n 0, 1) := by decide +kernel
theorem dX8_ofPerson_122 : decode cX8_ofPerson 122 = .ok (.getfield 37, 3) := by decide +kernel
theorem dX8_ofPerson_125 : decode cX8_ofPerson 125 = .ok (.iload_n 1, 1) := by decide +kernel
theorem dX8_ofPerson_126 : decode cX8_ofPerson 126 = .ok (.invokevirtual 116, 3) := by decide +kernel
theorem dX8_ofPerson_129 : decode cX8_ofPerson 129 = .ok (.ireturn, 1) := by decide +kernel
theorem dX8_ofPerson_130 : decode cX8_ofPerson 130 = .ok (.aload_n 0, 1) := by decide +kernel
theorem dX8_ofPerson_131 : decode cX8_ofPerson 131 = .ok (.getfield 37, 3) := by decide +kernel
theorem dX8_ofPerson_134 : decode cX8_ofPerson 134 = .ok (.iload_n 1, 1) := by decide +kernel
theorem dX8_ofPerson_135 : decode cX8_ofPerson 135 = .ok (.invokevirtual 119, 3) := by decide +kernel
theorem dX8_ofPerson_138 : decode cX8_ofPerson 138 = .ok (.ireturn, 1) := by decide +kernel
theorem dX8_ofPerson_139 : decode cX8_ofPerson 139 = .ok (.bipush (-2), 2) := by decide +kernel
theorem dX8_ofPerson_141 : decode cX8_ofPerson 141 = .ok (.ireturn, 1) := by decide +kernel
theorem dX8_hurry_0 : decode cX8_hurry 0 = .ok (.aload_n 0, 1) := by decide +kernel
theorem dX8_hurry_1 : decode cX8_hurry 1 = .ok (.iload_n 1, 1) := by decide +kernel
theorem dX8_hurry_2 : decode cX8_hurry 2 = .ok (.invokevirtual 87, 3) := by decide +kernel
theorem dX8_hurry_5 : decode cX8_hurry 5 = .ok (.astore_n 3, 1) := by decide +kernel
theorem dX8_hurry_6 : decode cX8_hurry 6 = .ok (.aload_n 3, 1) := by decide +kernel
theorem dX8_hurry_7 : decode cX8_hurry 7 = .ok (.ifnonnull 5, 3) := by decide +kernel
theorem dX8_hurry_10 : decode cX8_hurry 10 = .ok (.iconst (-1), 1) := by decide +kernel
theorem dX8_hurry_11 : decode cX8_hurry 11 = .ok (.ireturn, 1) := by decide +kernel
theorem dX8_hurry_12 : decode cX8_hurry 12 = .ok (.iload_n 2, 1) := by decide +kernel
theorem dX8_hurry_13 : decode cX8_hurry 13 = .ok (.iconst 0, 1) := by decide +kernel
theorem dX8_hurry_14 : decode cX8_hurry 14 = .ok (.bipush 9, 2) := by decide +kernel
theorem dX8_hurry_16 : decode cX8_hurry 16 = .ok (.invokestatic 122, 3) := by decide +kernel
theorem dX8_hurry_19 : decode cX8_hurry 19 = .ok (.ifCond .ne 6, 3) := by decide +kernel
theorem dX8_hurry_22 : decode cX8_hurry 22 = .ok (.bipush (-2), 2) := by decide +kernel
theorem dX8_hurry_24 : decode cX8_hurry 24 = .ok (.ireturn, 1) := by decide +kernel
theorem dX8_hurry_25 : decode cX8_hurry 25 = .ok (.aload_n 3, 1) := by decide +kernel
theorem dX8_hurry_26 : decode cX8_hurry 26 = .ok (.getfield 95, 3) := by decide +kernel
theorem dX8_hurry_29 : decode cX8_hurry 29 = .ok (.istore 4, 2) := by decide +kernel
theorem dX8_hurry_31 : decode cX8_hurry 31 = .ok (.aload_n 3, 1) := by decide +kernel
theorem dX8_hurry_32 : decode cX8_hurry 32 = .ok (.iload_n 2, 1) := by decide +kernel
theorem dX8_hurry_33 : decode cX8_hurry 33 = .ok (.putfield 95, 3) := by decide +kernel
theorem dX8_hurry_36 : decode cX8_hurry 36 = .ok (.iload 4, 2) := by decide +kernel
theorem dX8_hurry_38 : decode cX8_hurry 38 = .ok (.ireturn, 1) := by decide +kernel
theorem dX8_wall_0 : decode cX8_wall 0 = .ok (.aload_n 0, 1) := by decide +kernel
theorem dX8_wall_1 : decode cX8_wall 1 = .ok (.iload_n 1, 1) := by decide +kernel
theorem dX8_wall_2 : decode cX8_wall 2 = .ok (.invokevirtual 87, 3) := by decide +kernel
theorem dX8_wall_5 : decode cX8_wall 5 = .ok (.astore_n 3, 1) := by decide +kernel
theorem dX8_wall_6 : decode cX8_wall 6 = .ok (.aload_n 3, 1) := by decide +kernel
theorem dX8_wall_7 : decode cX8_wall 7 = .ok (.ifnonnull 5, 3) := by decide +kernel
theorem dX8_wall_10 : decode cX8_wall 10 = .ok (.iconst (-1), 1) := by decide +kernel
theorem dX8_wall_11 : decode cX8_wall 11 = .ok (.ireturn, 1) := by decide +kernel
theorem dX8_wall_12 : decode cX8_wall 12 = .ok (.iload_n 2, 1) := by decide +kernel
theorem dX8_wall_13 : decode cX8_wall 13 = .ok (.iconst 0, 1) := by decide +kernel
theorem dX8_wall_14 : decode cX8_wall 14 = .ok (.bipush 9, 2) := by decide +kernel
theorem dX8_wall_16 : decode cX8_wall 16 = .ok (.invokestatic 122, 3) := by decide +kernel
theorem dX8_wall_19 : decode cX8_wall 19 = .ok (.ifCond .ne 6, 3) := by decide +kernel
theorem dX8_wall_22 : decode cX8_wall 22 = .ok (.bipush (-2), 2) := by decide +kernel
theorem dX8_wall_24 : decode cX8_wall 24 = .ok (.ireturn, 1) := by decide +kernel
theorem dX8_wall_25 : decode cX8_wall 25 = .ok (.aload_n 3, 1) := by decide +kernel
theorem dX8_wall_26 : decode cX8_wall 26 = .ok (.getfield 98, 3) := by decide +kernel
theorem dX8_wall_29 : decode cX8_wall 29 = .ok (.istore 4, 2) := by decide +kernel
theorem dX8_wall_31 : decode cX8_wall 31 = .ok (.aload_n 3, 1) := by decide +kernel
theorem dX8_wall_32 : decode cX8_wall 32 = .ok (.iload_n 2, 1) := by decide +kernel
theorem dX8_wall_33 : decode cX8_wall 33 = .ok (.putfield 98, 3) := by decide +kernel
theorem dX8_wall_36 : decode cX8_wall 36 = .ok (.iload 4, 2) := by decide +kernel
theorem dX8_wall_38 : decode cX8_wall 38 = .ok (.ireturn, 1) := by decide +kernel
theorem dX8_lease_0 : decode cX8_lease 0 = .ok (.iload_n 1, 1) := by decide +kernel
theorem dX8_lease_1 : decode cX8_lease 1 = .ok (.iconst 0, 1) := by decide +kernel
theorem dX8_lease_2 : decode cX8_lease 2 = .ok (.bipush 9, 2) := by decide +kernel
theorem dX8_lease_4 : decode cX8_lease 4 = .ok (.invokestatic 122, 3) := by decide +kernel
theorem dX8_lease_7 : decode cX8_lease 7 = .ok (.ifCond .ne 6, 3) := by decide +kernel
theorem dX8_lease_10 : decode cX8_lease 10 = .ok (.bipush (-2), 2) := by decide +kernel
theorem dX8_lease_12 : decode cX8_lease 12 = .ok (.ireturn, 1) := by decide +kernel
theorem dX8_lease_13 : decode cX8_lease 13 = .ok (.aload_n 0, 1) := by decide +kernel
theorem dX8_lease_14 : decode cX8_lease 14 = .ok (.getfield 84, 3) := by decide +kernel
theorem dX8_lease_17 : decode cX8_lease 17 = .ok (.ifCond .ne 6, 3) := by decide +kernel
theorem dX8_lease_20 : decode cX8_lease 20 = .ok (.bipush (-3), 2) := by decide +kernel
theorem dX8_lease_22 : decode cX8_lease 22 = .ok (.ireturn, 1) := by decide +kernel
theorem dX8_lease_23 : decode cX8_lease 23 = .ok (.aload_n 0, 1) := by decide +kernel
theorem dX8_lease_24 : decode cX8_lease 24 = .ok (.getfield 126, 3) := by decide +kernel
theorem dX8_lease_27 : decode cX8_lease 27 = .ok (.istore_n 2, 1) := by decide +kernel
theorem dX8_lease_28 : decode cX8_lease 28 = .ok (.aload_n 0, 1) := by decide +kernel
theorem dX8_lease_29 : decode cX8_lease 29 = .ok (.iload_n 1, 1) := by decide +kernel
theorem dX8_lease_30 : decode cX8_lease 30 = .ok (.putfield 126, 3) := by decide +kernel
theorem dX8_lease_33 : decode cX8_lease 33 = .ok (.iload_n 2, 1) := by decide +kernel
theorem dX8_lease_34 : decode cX8_lease 34 = .ok (.ireturn, 1) := by decide +kernel
theorem dX8_go_0 : decode cX8_go 0 = .ok (.aload_n 0, 1) := by decide +kernel
theorem dX8_go_1 : decode cX8_go 1 = .ok (.getfield 109, 3) := by decide +kernel
theorem dX8_go_4 : decode cX8_go 4 = .ok (.ifCond .ne 6, 3) := by decide +kernel
theorem dX8_go_7 : decode cX8_go 7 = .ok (.bipush (-3), 2) := by decide +kernel
theorem dX8_go_9 : decode cX8_go 9 = .ok (.ireturn, 1) := by decide +kernel
theorem dX8_go_10 : decode cX8_go 10 = .ok (.aload_n 0, 1) := by decide +kernel
theorem dX8_go_11 : decode cX8_go 11 = .ok (.getfield 30, 3) := by decide +kernel
theorem dX8_go_14 : decode cX8_go 14 = .ok (.aload_n 0, 1) := by decide +kernel
theorem dX8_go_15 : decode cX8_go 15 = .ok (.invokevirtual 129, 3) := by decide +kernel
theorem dX8_go_18 : decode cX8_go 18 = .ok (.aload_n 0, 1) := by decide +kernel
theorem dX8_go_19 : decode cX8_go 19 = .ok (.getfield 109, 3) := by decide +kernel
theorem dX8_go_22 : decode cX8_go 22 = .ok (.invokevirtual 133, 3) := by decide +kernel
theorem dX8_go_25 : decode cX8_go 25 = .ok (.istore_n 1, 1) := by decide +kernel
theorem dX8_go_26 : decode cX8_go 26 = .ok (.aload_n 0, 1) := by decide +kernel
theorem dX8_go_27 : decode cX8_go 27 = .ok (.dup, 1) := by decide +kernel
theorem dX8_go_28 : decode cX8_go 28 = .ok (.getfield 109, 3) := by decide +kernel
theorem dX8_go_31 : decode cX8_go 31 = .ok (.iload_n 1, 1) := by decide +kernel
theorem dX8_go_32 : decode cX8_go 32 = .ok (.invokestatic 137, 3) := by decide +kernel
theorem dX8_go_35 : decode cX8_go 35 = .ok (.iconst (-1), 1) := by decide +kernel
theorem dX8_go_36 : decode cX8_go 36 = .ok (.ixor, 1) := by decide +kernel
theorem dX8_go_37 : decode cX8_go 37 = .ok (.iand, 1) := by decide +kernel
theorem dX8_go_38 : decode cX8_go 38 = .ok (.putfield 109, 3) := by decide +kernel
theorem dX8_go_41 : decode cX8_go 41 = .ok (.aload_n 0, 1) := by decide +kernel
theorem dX8_go_42 : decode cX8_go 42 = .ok (.getfield 37, 3) := by decide +kernel
theorem dX8_go_45 : decode cX8_go 45 = .ok (.iload_n 1, 1) := by decide +kernel
theorem dX8_go_46 : decode cX8_go 46 = .ok (.aload_n 0, 1) := by decide +kernel
theorem dX8_go_47 : decode cX8_go 47 = .ok (.getfield 30, 3) := by decide +kernel
theorem dX8_go_50 : decode cX8_go 50 = .ok (.getfield 140, 3) := by decide +kernel
theorem dX8_go_53 : decode cX8_go 53 = .ok (.aload_n 0, 1) := by decide +kernel
theorem dX8_go_54 : decode cX8_go 54 = .ok (.getfield 30, 3) := by decide +kernel
theorem dX8_go_57 : decode cX8_go 57 = .ok (.getfield 143, 3) := by decide +kernel
theorem dX8_go_60 : decode cX8_go 60 = .ok (.invokevirtual 146, 3) := by decide +kernel
theorem dX8_go_63 : decode cX8_go 63 = .ok (.iload_n 1, 1) := by decide +kernel
theorem dX8_go_64 : decode cX8_go 64 = .ok (.ireturn, 1) := by decide +kernel
theorem dX8_morning_0 : decode cX8_morning 0 = .ok (.aload_n 0, 1) := by decide +kernel
theorem dX8_morning_1 : decode cX8_morning 1 = .ok (.getfield 84, 3) := by decide +kernel
theorem dX8_morning_4 : decode cX8_morning 4 = .ok (.ifCond .ne 6, 3) := by decide +kernel
theorem dX8_morning_7 : decode cX8_morning 7 = .ok (.bipush (-3), 2) := by decide +kernel
theorem dX8_morning_9 : decode cX8_morning 9 = .ok (.ireturn, 1) := by decide +kernel
theorem dX8_morning_10 : decode cX8_morning 10 = .ok (.aload_n 0, 1) := by decide +kernel
theorem dX8_morning_11 : decode cX8_morning 11 = .ok (.getfield 84, 3) := by decide +kernel
theorem dX8_morning_14 : decode cX8_morning 14 = .ok (.aload_n 0, 1) := by decide +kernel
theorem dX8_morning_15 : decode cX8_morning 15 = .ok (.getfield 109, 3) := by decide +kernel
theorem dX8_morning_18 : decode cX8_morning 18 = .ok (.invokestatic 150, 3) := by decide +kernel
theorem dX8_morning_21 : decode cX8_morning 21 = .ok (.isub, 1) := by decide +kernel
theorem dX8_morning_22 : decode cX8_morning 22 = .ok (.istore_n 1, 1) := by decide +kernel
theorem dX8_morning_23 : decode cX8_morning 23 = .ok (.aload_n 0, 1) := by decide +kernel
theorem dX8_morning_24 : decode cX8_morning 24 = .ok (.aload_n 0, 1) := by decide +kernel
theorem dX8_morning_25 : decode cX8_morning 25 = .ok (.invokevirtual 155, 3) := by decide +kernel
theorem dX8_morning_28 : decode cX8_morning 28 = .ok (.putfield 109, 3) := by decide +kernel
theorem dX8_morning_31 : decode cX8_morning 31 = .ok (.aload_n 0, 1) := by decide +kernel
theorem dX8_morning_32 : decode cX8_morning 32 = .ok (.dup, 1) := by decide +kernel
theorem dX8_morning_33 : decode cX8_morning 33 = .ok (.getfield 158, 3) := by decide +kernel
theorem dX8_morning_36 : decode cX8_morning 36 = .ok (.iconst 1, 1) := by decide +kernel
theorem dX8_morning_37 : decode cX8_morning 37 = .ok (.iadd, 1) := by decide +kernel
theorem dX8_morning_38 : decode cX8_morning 38 = .ok (.putfield 158, 3) := by decide +kernel
theorem dX8_morning_41 : decode cX8_morning 41 = .ok (.iload_n 1, 1) := by decide +kernel
theorem dX8_morning_42 : decode cX8_morning 42 = .ok (.ireturn, 1) := by decide +kernel
theorem dX8_owes_0 : decode cX8_owes 0 = .ok (.aload_n 0, 1) := by decide +kernel
theorem dX8_owes_1 : decode cX8_owes 1 = .ok (.iload_n 1, 1) := by decide +kernel
theorem dX8_owes_2 : decode cX8_owes 2 = .ok (.iload_n 2, 1) := by decide +kernel
theorem dX8_owes_3 : decode cX8_owes 3 = .ok (.invokevirtual 161, 3) := by decide +kernel
theorem dX8_owes_6 : decode cX8_owes 6 = .ok (.ifCond .ne 5, 3) := by decide +kernel
theorem dX8_owes_9 : decode cX8_owes 9 = .ok (.iconst (-1), 1) := by decide +kernel
theorem dX8_owes_10 : decode cX8_owes 10 = .ok (.ireturn, 1) := by decide +kernel
theorem dX8_owes_11 : decode cX8_owes 11 = .ok (.aload_n 0, 1) := by decide +kernel
theorem dX8_owes_12 : decode cX8_owes 12 = .ok (.getfield 37, 3) := by decide +kernel
theorem dX8_owes_15 : decode cX8_owes 15 = .ok (.iload_n 1, 1) := by decide +kernel
theorem dX8_owes_16 : decode cX8_owes 16 = .ok (.iload_n 2, 1) := by decide +kernel
theorem dX8_owes_17 : decode cX8_owes 17 = .ok (.invokevirtual 164, 3) := by decide +kernel
theorem dX8_owes_20 : decode cX8_owes 20 = .ok (.ireturn, 1) := by decide +kernel
theorem dX8_pays_0 : decode cX8_pays 0 = .ok (.aload_n 0, 1) := by decide +kernel
theorem dX8_pays_1 : decode cX8_pays 1 = .ok (.iload_n 1, 1) := by decide +kernel
theorem dX8_pays_2 : decode cX8_pays 2 = .ok (.iload_n 2, 1) := by decide +kernel
theorem dX8_pays_3 : decode cX8_pays 3 = .ok (.invokevirtual 161, 3) := by decide +kernel
theorem dX8_pays_6 : decode cX8_pays 6 = .ok (.ifCond .ne 5, 3) := by decide +kernel
theorem dX8_pays_9 : decode cX8_pays 9 = .ok (.iconst (-1), 1) := by decide +kernel
theorem dX8_pays_10 : decode cX8_pays 10 = .ok (.ireturn, 1) := by decide +kernel
theorem dX8_pays_11 : decode cX8_pays 11 = .ok (.iload_n 3, 1) := by decide +kernel
theorem dX8_pays_12 : decode cX8_pays 12 = .ok (.iconst 1, 1) := by decide +kernel
theorem dX8_pays_13 : decode cX8_pays 13 = .ok (.bipush 99, 2) := by decide +kernel
theorem dX8_pays_15 : decode cX8_pays 15 = .ok (.invokestatic 122, 3) := by decide +kernel
theorem dX8_pays_18 : decode cX8_pays 18 = .ok (.ifCond .ne 6, 3) := by decide +kernel
theorem dX8_pays_21 : decode cX8_pays 21 = .ok (.bipush (-2), 2) := by decide +kernel
theorem dX8_pays_23 : decode cX8_pays 23 = .ok (.ireturn, 1) := by decide +kernel
theorem dX8_pays_24 : decode cX8_pays 24 = .ok (.aload_n 0, 1) := by decide +kernel
theorem dX8_pays_25 : decode cX8_pays 25 = .ok (.getfield 37, 3) := by decide +kernel
theorem dX8_pays_28 : decode cX8_pays 28 = .ok (.iload_n 1, 1) := by decide +kernel
theorem dX8_pays_29 : decode cX8_pays 29 = .ok (.iload_n 2, 1) := by decide +kernel
theorem dX8_pays_30 : decode cX8_pays 30 = .ok (.invokevirtual 164, 3) := by decide +kernel
theorem dX8_pays_33 : decode cX8_pays 33 = .ok (.iload_n 3, 1) := by decide +kernel
theorem dX8_pays_34 : decode cX8_pays 34 = .ok (.if_icmp .ge 6, 3) := by decide +kernel
theorem dX8_pays_37 : decode cX8_pays 37 = .ok (.bipush (-3), 2) := by decide +kernel
theorem dX8_pays_39 : decode cX8_pays 39 = .ok (.ireturn, 1) := by decide +kernel
theorem dX8_pays_40 : decode cX8_pays 40 = .ok (.aload_n 0, 1) := by decide +kernel
theorem dX8_pays_41 : decode cX8_pays 41 = .ok (.getfield 37, 3) := by decide +kernel
theorem dX8_pays_44 : decode cX8_pays 44 = .ok (.iload_n 1, 1) := by decide +kernel
theorem dX8_pays_45 : decode cX8_pays 45 = .ok (.iload_n 2, 1) := by decide +kernel
theorem dX8_pays_46 : decode cX8_pays 46 = .ok (.iload_n 3, 1) := by decide +kernel
theorem dX8_pays_47 : decode cX8_pays 47 = .ok (.ineg, 1) := by decide +kernel
theorem dX8_pays_48 : decode cX8_pays 48 = .ok (.invokevirtual 146, 3) := by decide +kernel
theorem dX8_pays_51 : decode cX8_pays 51 = .ok (.aload_n 0, 1) := by decide +kernel
theorem dX8_pays_52 : decode cX8_pays 52 = .ok (.getfield 37, 3) := by decide +kernel
theorem dX8_pays_55 : decode cX8_pays 55 = .ok (.iload_n 1, 1) := by decide +kernel
theorem dX8_pays_56 : decode cX8_pays 56 = .ok (.iload_n 2, 1) := by decide +kernel
theorem dX8_pays_57 : decode cX8_pays 57 = .ok (.invokevirtual 164, 3) := by decide +kernel
theorem dX8_pays_60 : decode cX8_pays 60 = .ok (.ireturn, 1) := by decide +kernel
theorem dX8_calls_0 : decode cX8_calls 0 = .ok (.aload_n 0, 1) := by decide +kernel
theorem dX8_calls_1 : decode cX8_calls 1 = .ok (.iconst 0, 1) := by decide +kernel
theorem dX8_calls_2 : decode cX8_calls 2 = .ok (.putfield 56, 3) := by decide +kernel
theorem dX8_calls_5 : decode cX8_calls 5 = .ok (.aload_n 0, 1) := by decide +kernel
theorem dX8_calls_6 : decode cX8_calls 6 = .ok (.iload_n 1, 1) := by decide +kernel
theorem dX8_calls_7 : decode cX8_calls 7 = .ok (.invokevirtual 60, 3) := by decide +kernel
theorem dX8_calls_10 : decode cX8_calls 10 = .ok (.astore 6, 2) := by decide +kernel
theorem dX8_calls_12 : decode cX8_calls 12 = .ok (.aload 6, 2) := by decide +kernel
theorem dX8_calls_14 : decode cX8_calls 14 = .ok (.ifnonnull 5, 3) := by decide +kernel
theorem dX8_calls_17 : decode cX8_calls 17 = .ok (.iconst (-1), 1) := by decide +kernel
theorem dX8_calls_18 : decode cX8_calls 18 = .ok (.ireturn, 1) := by decide +kernel
theorem dX8_calls_19 : decode cX8_calls 19 = .ok (.iload_n 2, 1) := by decide +kernel
theorem dX8_calls_20 : decode cX8_calls 20 = .ok (.invokestatic 64, 3) := by decide +kernel
theorem dX8_calls_23 : decode cX8_calls 23 = .ok (.ifCond .eq 24, 3) := by decide +kernel
theorem dX8_calls_26 : decode cX8_calls 26 = .ok (.iload 4, 2) := by decide +kernel
theorem dX8_calls_28 : decode cX8_calls 28 = .ok (.iconst 0, 1) := by decide +kernel
theorem dX8_calls_29 : decode cX8_calls 29 = .ok (.bipush 20, 2) := by decide +kernel
theorem dX8_calls_31 : decode cX8_calls 31 = .ok (.invokestatic 122, 3) := by decide +kernel
theorem dX8_calls_34 : decode cX8_calls 34 = .ok (.ifCond .eq 13, 3) := by decide +kernel
theorem dX8_calls_37 : decode cX8_calls 37 = .ok (.iload 5, 2) := by decide +kernel
theorem dX8_calls_39 : decode cX8_calls 39 = .ok (.iconst 0, 1) := by decide +kernel
theorem dX8_calls_40 : decode cX8_calls 40 = .ok (.iconst 3, 1) := by decide +kernel
theorem dX8_calls_41 : decode cX8_calls 41 = .ok (.invokestatic 122, 3) := by decide +kernel
theorem dX8_calls_44 : decode cX8_calls 44 = .ok (.ifCond .ne 6, 3) := by decide +kernel
theorem dX8_calls_47 : decode cX8_calls 47 = .ok (.bipush (-2), 2) := by decide +kernel
theorem dX8_calls_49 : decode cX8_calls 49 = .ok (.ireturn, 1) := by decide +kernel
theorem dX8_calls_50 : decode cX8_calls 50 = .ok (.aload 6, 2) := by decide +kernel
theorem dX8_calls_52 : decode cX8_calls 52 = .ok (.iload_n 2, 1) := by decide +kernel
theorem dX8_calls_53 : decode cX8_calls 53 = .ok (.iload_n 3, 1) := by decide +kernel
theorem dX8_calls_54 : decode cX8_calls 54 = .ok (.iconst 2, 1) := by decide +kernel
theorem dX8_calls_55 : decode cX8_calls 55 = .ok (.iload 4, 2) := by decide +kernel
theorem dX8_calls_57 : decode cX8_calls 57 = .ok (.imul, 1) := by decide +kernel
theorem dX8_calls_58 : decode cX8_calls 58 = .ok (.invokestatic 68, 3) := by decide +kernel
theorem dX8_calls_61 : decode cX8_calls 61 = .ok (.istore 7, 2) := by decide +kernel
theorem dX8_calls_63 : decode cX8_calls 63 = .ok (.iload 7, 2) := by decide +kernel
theorem dX8_calls_65 : decode cX8_calls 65 = .ok (.ifCond .eq 10, 3) := by decide +kernel
theorem dX8_calls_68 : decode cX8_calls 68 = .ok (.aload_n 0, 1) := by decide +kernel
theorem dX8_calls_69 : decode cX8_calls 69 = .ok (.iload 7, 2) := by decide +kernel
theorem dX8_calls_71 : decode cX8_calls 71 = .ok (.invokevirtual 72, 3) := by decide +kernel
theorem dX8_calls_74 : decode cX8_calls 74 = .ok (.ireturn, 1) := by decide +kernel
theorem dX8_calls_75 : decode cX8_calls 75 = .ok (.aload_n 0, 1) := by decide +kernel
theorem dX8_calls_76 : decode cX8_calls 76 = .ok (.getfield 84, 3) := by decide +kernel
theorem dX8_calls_79 : decode cX8_calls 79 = .ok (.ifCond .ne 6, 3) := by decide +kernel
theorem dX8_calls_82 : decode cX8_calls 82 = .ok (.bipush (-3), 2) := by decide +kernel
theorem dX8_calls_84 : decode cX8_calls 84 = .ok (.ireturn, 1) := by decide +kernel
theorem dX8_calls_85 : decode cX8_calls 85 = .ok (.aload_n 0, 1) := by decide +kernel
theorem dX8_calls_86 : decode cX8_calls 86 = .ok (.aload 6, 2) := by decide +kernel
theorem dX8_calls_88 : decode cX8_calls 88 = .ok (.iload_n 3, 1) := by decide +kernel
theorem dX8_calls_89 : decode cX8_calls 89 = .ok (.iload 4, 2) := by decide +kernel
theorem dX8_calls_91 : decode cX8_calls 91 = .ok (.invokevirtual 167, 3) := by decide +kernel
theorem dX8_calls_94 : decode cX8_calls 94 = .ok (.ifCond .ne 5, 3) := by decide +kernel
theorem dX8_calls_97 : decode cX8_calls 97 = .ok (.iconst (-1), 1) := by decide +kernel
theorem dX8_calls_98 : decode cX8_calls 98 = .ok (.ireturn, 1) := by decide +kernel
theorem dX8_calls_99 : decode cX8_calls 99 = .ok (.aload_n 0, 1) := by decide +kernel
theorem dX8_calls_100 : decode cX8_calls 100 = .ok (.aload 6, 2) := by decide +kernel
theorem dX8_calls_102 : decode cX8_calls 102 = .ok (.iload_n 3, 1) := by decide +kernel
theorem dX8_calls_103 : decode cX8_calls 103 = .ok (.iload 4, 2) := by decide +kernel
theorem dX8_calls_105 : decode cX8_calls 105 = .ok (.iload 5, 2) := by decide +kernel
theorem dX8_calls_107 : decode cX8_calls 107 = .ok (.invokevirtual 171, 3) := by decide +kernel
theorem dX8_calls_110 : decode cX8_calls 110 = .ok (.ireturn, 1) := by decide +kernel
theorem dX8_order_0 : decode cX8_order 0 = .ok (.iload_n 1, 1) := by decide +kernel
theorem dX8_order_1 : decode cX8_order 1 = .ok (.iconst 0, 1) := by decide +kernel
theorem dX8_order_2 : decode cX8_order 2 = .ok (.iconst 5, 1) := by decide +kernel
theorem dX8_order_3 : decode cX8_order 3 = .ok (.invokestatic 122, 3) := by decide +kernel
theorem dX8_order_6 : decode cX8_order 6 = .ok (.ifCond .eq 12, 3) := by decide +kernel
theorem dX8_order_9 : decode cX8_order 9 = .ok (.iload_n 2, 1) := by decide +kernel
theorem dX8_order_10 : decode cX8_order 10 = .ok (.iconst 0, 1) := by decide +kernel
theorem dX8_order_11 : decode cX8_order 11 = .ok (.iconst 1, 1) := by decide +kernel
theorem dX8_order_12 : decode cX8_order 12 = .ok (.invokestatic 122, 3) := by decide +kernel
theorem dX8_order_15 : decode cX8_order 15 = .ok (.ifCond .ne 6, 3) := by decide +kernel
theorem dX8_order_18 : decode cX8_order 18 = .ok (.bipush (-2), 2) := by decide +kernel
theorem dX8_order_20 : decode cX8_order 20 = .ok (.ireturn, 1) := by decide +kernel
theorem dX8_order_21 : decode cX8_order 21 = .ok (.aload_n 0, 1) := by decide +kernel
theorem dX8_order_22 : decode cX8_order 22 = .ok (.getfield 84, 3) := by decide +kernel
theorem dX8_order_25 : decode cX8_order 25 = .ok (.ifCond .ne 6, 3) := by decide +kernel
theorem dX8_order_28 : decode cX8_order 28 = .ok (.bipush (-3), 2) := by decide +kernel
theorem dX8_order_30 : decode cX8_order 30 = .ok (.ireturn, 1) := by decide +kernel
theorem dX8_order_31 : decode cX8_order 31 = .ok (.aload_n 0, 1) := by decide +kernel
theorem dX8_order_32 : decode cX8_order 32 = .ok (.getfield 30, 3) := by decide +kernel
theorem dX8_order_35 : decode cX8_order 35 = .ok (.aload_n 0, 1) := by decide +kernel
theorem dX8_order_36 : decode cX8_order 36 = .ok (.invokevirtual 129, 3) := by decide +kernel
theorem dX8_order_39 : decode cX8_order 39 = .ok (.aload_n 0, 1) := by decide +kernel
theorem dX8_order_40 : decode cX8_order 40 = .ok (.getfield 109, 3) := by decide +kernel
theorem dX8_order_43 : decode cX8_order 43 = .ok (.invokevirtual 174, 3) := by decide +kernel
theorem dX8_order_46 : decode cX8_order 46 = .ok (.istore_n 3, 1) := by decide +kernel
theorem dX8_order_47 : decode cX8_order 47 = .ok (.iload_n 1, 1) := by decide +kernel
theorem dX8_order_48 : decode cX8_order 48 = .ok (.iload_n 3, 1) := by decide +kernel
theorem dX8_order_49 : decode cX8_order 49 = .ok (.if_icmp .lt 6, 3) := by decide +kernel
theorem dX8_order_52 : decode cX8_order 52 = .ok (.bipush (-9), 2) := by decide +kernel
theorem dX8_order_54 : decode cX8_order 54 = .ok (.ireturn, 1) := by decide +kernel
theorem dX8_order_55 : decode cX8_order 55 = .ok (.iload_n 2, 1) := by decide +kernel
theorem dX8_order_56 : decode cX8_order 56 = .ok (.ifCond .ne 15, 3) := by decide +kernel
theorem dX8_order_59 : decode cX8_order 59 = .ok (.aload_n 0, 1) := by decide +kernel
theorem dX8_order_60 : decode cX8_order 60 = .ok (.getfield 30, 3) := by decide +kernel
theorem dX8_order_63 : decode cX8_order 63 = .ok (.getfield 177, 3) := by decide +kernel
theorem dX8_order_66 : decode cX8_order 66 = .ok (.iload_n 1, 1) := by decide +kernel
theorem dX8_order_67 : decode cX8_order 67 = .ok (.iaload, 1) := by decide +kernel
theorem dX8_order_68 : decode cX8_order 68 = .ok (.goto 12, 3) := by decide +kernel
theorem dX8_order_71 : decode cX8_order 71 = .ok (.aload_n 0, 1) := by decide +kernel
theorem dX8_order_72 : decode cX8_order 72 = .ok (.getfield 30, 3) := by decide +kernel
theorem dX8_order_75 : decode cX8_order 75 = .ok (.getfield 180, 3) := by decide +kernel
theorem dX8_order_78 : decode cX8_order 78 = .ok (.iload_n 1, 1) := by decide +kernel
theorem dX8_order_79 : decode cX8_order 79 = .ok (.iaload, 1) := by decide +kernel
theorem dX8_order_80 : decode cX8_order 80 = .ok (.ireturn, 1) := by decide +kernel
theorem dX8_loss_0 : decode cX8_loss 0 = .ok (.iload_n 1, 1) := by decide +kernel
theorem dX8_loss_1 : decode cX8_loss 1 = .ok (.iconst 0, 1) := by decide +kernel
theorem dX8_loss_2 : decode cX8_loss 2 = .ok (.iconst 1, 1) := by decide +kernel
theorem dX8_loss_3 : decode cX8_loss 3 = .ok (.invokestatic 122, 3) := by decide +kernel
theorem dX8_loss_6 : decode cX8_loss 6 = .ok (.ifCond .ne 6, 3) := by decide +kernel
theorem dX8_loss_9 : decode cX8_loss 9 = .ok (.bipush (-2), 2) := by decide +kernel
theorem dX8_loss_11 : decode cX8_loss 11 = .ok (.ireturn, 1) := by decide +kernel
theorem dX8_loss_12 : decode cX8_loss 12 = .ok (.aload_n 0, 1) := by decide +kernel
theorem dX8_loss_13 : decode cX8_loss 13 = .ok (.getfield 84, 3) := by decide +kernel
theorem dX8_loss_16 : decode cX8_loss 16 = .ok (.ifCond .ne 6, 3) := by decide +kernel
theorem dX8_loss_19 : decode cX8_loss 19 = .ok (.bipush (-3), 2) := by decide +kernel
theorem dX8_loss_21 : decode cX8_loss 21 = .ok (.ireturn, 1) := by decide +kernel
theorem dX8_loss_22 : decode cX8_loss 22 = .ok (.iload_n 1, 1) := by decide +kernel
theorem dX8_loss_23 : decode cX8_loss 23 = .ok (.ifCond .ne 10, 3) := by decide +kernel
theorem dX8_loss_26 : decode cX8_loss 26 = .ok (.aload_n 0, 1) := by decide +kernel
theorem dX8_loss_27 : decode cX8_loss 27 = .ok (.invokevirtual 183, 3) := by decide +kernel
theorem dX8_loss_30 : decode cX8_loss 30 = .ok (.goto 7, 3) := by decide +kernel
theorem dX8_loss_33 : decode cX8_loss 33 = .ok (.aload_n 0, 1) := by decide +kernel
theorem dX8_loss_34 : decode cX8_loss 34 = .ok (.invokevirtual 186, 3) := by decide +kernel
theorem dX8_loss_37 : decode cX8_loss 37 = .ok (.ireturn, 1) := by decide +kernel
theorem dX8_let_0 : decode cX8_let 0 = .ok (.aload_n 0, 1) := by decide +kernel
theorem dX8_let_1 : decode cX8_let 1 = .ok (.iload_n 1, 1) := by decide +kernel
theorem dX8_let_2 : decode cX8_let 2 = .ok (.invokevirtual 87, 3) := by decide +kernel
theorem dX8_let_5 : decode cX8_let 5 = .ok (.astore_n 3, 1) := by decide +kernel
theorem dX8_let_6 : decode cX8_let 6 = .ok (.aload_n 3, 1) := by decide +kernel
theorem dX8_let_7 : decode cX8_let 7 = .ok (.ifnonnull 5, 3) := by decide +kernel
theorem dX8_let_10 : decode cX8_let 10 = .ok (.iconst (-1), 1) := by decide +kernel
theorem dX8_let_11 : decode cX8_let 11 = .ok (.ireturn, 1) := by decide +kernel
theorem dX8_let_12 : decode cX8_let 12 = .ok (.iload_n 2, 1) := by decide +kernel
theorem dX8_let_13 : decode cX8_let 13 = .ok (.iconst 0, 1) := by decide +kernel
theorem dX8_let_14 : decode cX8_let 14 = .ok (.iconst 5, 1) := by decide +kernel
theorem dX8_let_15 : decode cX8_let 15 = .ok (.invokestatic 122, 3) := by decide +kernel
theorem dX8_let_18 : decode cX8_let 18 = .ok (.ifCond .ne 6, 3) := by decide +kernel
theorem dX8_let_21 : decode cX8_let 21 = .ok (.bipush (-2), 2) := by decide +kernel
theorem dX8_let_23 : decode cX8_let 23 = .ok (.ireturn, 1) := by decide +kernel
theorem dX8_let_24 : decode cX8_let 24 = .ok (.aload_n 0, 1) := by decide +kernel
theorem dX8_let_25 : decode cX8_let 25 = .ok (.getfield 109, 3) := by decide +kernel
theorem dX8_let_28 : decode cX8_let 28 = .ok (.iload_n 1, 1) := by decide +kernel
theorem dX8_let_29 : decode cX8_let 29 = .ok (.invokestatic 112, 3) := by decide +kernel
theorem dX8_let_32 : decode cX8_let 32 = .ok (.ifCond .ne 6, 3) := by decide +kernel
theorem dX8_let_35 : decode cX8_let 35 = .ok (.bipush (-3), 2) := by decide +kernel
theorem dX8_let_37 : decode cX8_let 37 = .ok (.ireturn, 1) := by decide +kernel
theorem dX8_let_38 : decode cX8_let 38 = .ok (.aload_n 0, 1) := by decide +kernel
theorem dX8_let_39 : decode cX8_let 39 = .ok (.invokevirtual 129, 3) := by decide +kernel
theorem dX8_let_42 : decode cX8_let 42 = .ok (.astore 4, 2) := by decide +kernel
theorem dX8_let_44 : decode cX8_let 44 = .ok (.iconst 0, 1) := by decide +kernel
theorem dX8_let_45 : decode cX8_let 45 = .ok (.istore 5, 2) := by decide +kernel
theorem dX8_let_47 : decode cX8_let 47 = .ok (.iload 5, 2) := by decide +kernel
theorem dX8_let_49 : decode cX8_let 49 = .ok (.bipush 9, 2) := by decide +kernel
theorem dX8_let_51 : decode cX8_let 51 = .ok (.if_icmp .gt 48, 3) := by decide +kernel
theorem dX8_let_54 : decode cX8_let 54 = .ok (.aload 4, 2) := by decide +kernel
theorem dX8_let_56 : decode cX8_let 56 = .ok (.iload_n 1, 1) := by decide +kernel
theorem dX8_let_57 : decode cX8_let 57 = .ok (.aload_n 0, 1) := by decide +kernel
theorem dX8_let_58 : decode cX8_let 58 = .ok (.aload_n 3, 1) := by decide +kernel
theorem dX8_let_59 : decode cX8_let 59 = .ok (.invokevirtual 91, 3) := by decide +kernel
theorem dX8_let_62 : decode cX8_let 62 = .ok (.aload_n 3, 1) := by decide +kernel
theorem dX8_let_63 : decode cX8_let 63 = .ok (.getfield 95, 3) := by decide +kernel
theorem dX8_let_66 : decode cX8_let 66 = .ok (.iload 5, 2) := by decide +kernel
theorem dX8_let_68 : decode cX8_let 68 = .ok (.invokevirtual 105, 3) := by decide +kernel
theorem dX8_let_71 : decode cX8_let 71 = .ok (.iastore, 1) := by decide +kernel
theorem dX8_let_72 : decode cX8_let 72 = .ok (.aload_n 0, 1) := by decide +kernel
theorem dX8_let_73 : decode cX8_let 73 = .ok (.getfield 30, 3) := by decide +kernel
theorem dX8_let_76 : decode cX8_let 76 = .ok (.iload_n 1, 1) := by decide +kernel
theorem dX8_let_77 : decode cX8_let 77 = .ok (.aload 4, 2) := by decide +kernel
theorem dX8_let_79 : decode cX8_let 79 = .ok (.aload_n 0, 1) := by decide +kernel
theorem dX8_let_80 : decode cX8_let 80 = .ok (.getfield 109, 3) := by decide +kernel
theorem dX8_let_83 : decode cX8_let 83 = .ok (.invokevirtual 189, 3) := by decide +kernel
theorem dX8_let_86 : decode cX8_let 86 = .ok (.iload_n 2, 1) := by decide +kernel
theorem dX8_let_87 : decode cX8_let 87 = .ok (.if_icmp .gt 6, 3) := by decide +kernel
theorem dX8_let_90 : decode cX8_let 90 = .ok (.iload 5, 2) := by decide +kernel
theorem dX8_let_92 : decode cX8_let 92 = .ok (.ireturn, 1) := by decide +kernel
theorem dX8_let_93 : decode cX8_let 93 = .ok (.iinc 5 1, 3) := by decide +kernel
theorem dX8_let_96 : decode cX8_let 96 = .ok (.goto (-49), 3) := by decide +kernel
theorem dX8_let_99 : decode cX8_let 99 = .ok (.bipush (-9), 2) := by decide +kernel
theorem dX8_let_101 : decode cX8_let 101 = .ok (.ireturn, 1) := by decide +kernel
theorem dX8_balance_0 : decode cX8_balance 0 = .ok (.aload_n 0, 1) := by decide +kernel
theorem dX8_balance_1 : decode cX8_balance 1 = .ok (.iload_n 1, 1) := by decide +kernel
theorem dX8_balance_2 : decode cX8_balance 2 = .ok (.invokevirtual 87, 3) := by decide +kernel
theorem dX8_balance_5 : decode cX8_balance 5 = .ok (.ifnonnull 5, 3) := by decide +kernel
theorem dX8_balance_8 : decode cX8_balance 8 = .ok (.iconst (-1), 1) := by decide +kernel
theorem dX8_balance_9 : decode cX8_balance 9 = .ok (.ireturn, 1) := by decide +kernel
theorem dX8_balance_10 : decode cX8_balance 10 = .ok (.aload_n 0, 1) := by decide +kernel
theorem dX8_balance_11 : decode cX8_balance 11 = .ok (.getfield 37, 3) := by decide +kernel
theorem dX8_balance_14 : decode cX8_balance 14 = .ok (.iload_n 1, 1) := by decide +kernel
theorem dX8_balance_15 : decode cX8_balance 15 = .ok (.invokevirtual 193, 3) := by decide +kernel
theorem dX8_balance_18 : decode cX8_balance 18 = .ok (.sipush 10000, 3) := by decide +kernel
theorem dX8_balance_21 : decode cX8_balance 21 = .ok (.iadd, 1) := by decide +kernel
theorem dX8_balance_22 : decode cX8_balance 22 = .ok (.ireturn, 1) := by decide +kernel
theorem dX8_cleared_0 : decode cX8_cleared 0 = .ok (.iload_n 1, 1) := by decide +kernel
theorem dX8_cleared_1 : decode cX8_cleared 1 = .ok (.iconst 0, 1) := by decide +kernel
theorem dX8_cleared_2 : decode cX8_cleared 2 = .ok (.iconst 1, 1) := by decide +kernel
theorem dX8_cleared_3 : decode cX8_cleared 3 = .ok (.invokestatic 122, 3) := by decide +kernel
theorem dX8_cleared_6 : decode cX8_cleared 6 = .ok (.ifCond .ne 6, 3) := by decide +kernel
theorem dX8_cleared_9 : decode cX8_cleared 9 = .ok (.bipush (-2), 2) := by decide +kernel
theorem dX8_cleared_11 : decode cX8_cleared 11 = .ok (.ireturn, 1) := by decide +kernel
theorem dX8_cleared_12 : decode cX8_cleared 12 = .ok (.aload_n 0, 1) := by decide +kernel
theorem dX8_cleared_13 : decode cX8_cleared 13 = .ok (.getfield 84, 3) := by decide +kernel
theorem dX8_cleared_16 : decode cX8_cleared 16 = .ok (.ifCond .ne 6, 3) := by decide +kernel
theorem dX8_cleared_19 : decode cX8_cleared 19 = .ok (.bipush (-3), 2) := by decide +kernel
theorem dX8_cleared_21 : decode cX8_cleared 21 = .ok (.ireturn, 1) := by decide +kernel
theorem dX8_cleared_22 : decode cX8_cleared 22 = .ok (.iload_n 1, 1) := by decide +kernel
theorem dX8_cleared_23 : decode cX8_cleared 23 = .ok (.ifCond .ne 13, 3) := by decide +kernel
theorem dX8_cleared_26 : decode cX8_cleared 26 = .ok (.aload_n 0, 1) := by decide +kernel
theorem dX8_cleared_27 : decode cX8_cleared 27 = .ok (.getfield 37, 3) := by decide +kernel
theorem dX8_cleared_30 : decode cX8_cleared 30 = .ok (.invokevirtual 196, 3) := by decide +kernel
theorem dX8_cleared_33 : decode cX8_cleared 33 = .ok (.goto 10, 3) := by decide +kernel
theorem dX8_cleared_36 : decode cX8_cleared 36 = .ok (.aload_n 0, 1) := by decide +kernel
theorem dX8_cleared_37 : decode cX8_cleared 37 = .ok (.getfield 37, 3) := by decide +kernel
theorem dX8_cleared_40 : decode cX8_cleared 40 = .ok (.invokevirtual 199, 3) := by decide +kernel
theorem dX8_cleared_43 : decode cX8_cleared 43 = .ok (.ireturn, 1) := by decide +kernel
theorem dX8_were_0 : decode cX8_were 0 = .ok (.aload_n 0, 1) := by decide +kernel
theorem dX8_were_1 : decode cX8_were 1 = .ok (.iload_n 1, 1) := by decide +kernel
theorem dX8_were_2 : decode cX8_were 2 = .ok (.invokevirtual 87, 3) := by decide +kernel
theorem dX8_were_5 : decode cX8_were 5 = .ok (.ifnonnull 5, 3) := by decide +kernel
theorem dX8_were_8 : decode cX8_were 8 = .ok (.iconst (-1), 1) := by decide +kernel
theorem dX8_were_9 : decode cX8_were 9 = .ok (.ireturn, 1) := by decide +kernel
theorem dX8_were_10 : decode cX8_were 10 = .ok (.iload_n 2, 1) := by decide +kernel
theorem dX8_were_11 : decode cX8_were 11 = .ok (.iconst 0, 1) := by decide +kernel
theorem dX8_were_12 : decode cX8_were 12 = .ok (.bipush 18, 2) := by decide +kernel
theorem dX8_were_14 : decode cX8_were 14 = .ok (.invokestatic 122, 3) := by decide +kernel
theorem dX8_were_17 : decode cX8_were 17 = .ok (.ifCond .eq 12, 3) := by decide +kernel
theorem dX8_were_20 : decode cX8_were 20 = .ok (.iload_n 3, 1) := by decide +kernel
theorem dX8_were_21 : decode cX8_were 21 = .ok (.iconst 0, 1) := by decide +kernel
theorem dX8_were_22 : decode cX8_were 22 = .ok (.iconst 2, 1) := by decide +kernel
theorem dX8_were_23 : decode cX8_were 23 = .ok (.invokestatic 122, 3) := by decide +kernel
theorem dX8_were_26 : decode cX8_were 26 = .ok (.ifCond .ne 6, 3) := by decide +kernel
theorem dX8_were_29 : decode cX8_were 29 = .ok (.bipush (-2), 2) := by decide +kernel
theorem dX8_were_31 : decode cX8_were 31 = .ok (.ireturn, 1) := by decide +kernel
theorem dX8_were_32 : decode cX8_were 32 = .ok (.aload_n 0, 1) := by decide +kernel
theorem dX8_were_33 : decode cX8_were 33 = .ok (.invokevirtual 129, 3) := by decide +kernel
theorem dX8_were_36 : decode cX8_were 36 = .ok (.astore 4, 2) := by decide +kernel
theorem dX8_were_38 : decode cX8_were 38 = .ok (.iconst 0, 1) := by decide +kernel
theorem dX8_were_39 : decode cX8_were 39 = .ok (.istore 5, 2) := by decide +kernel
theorem dX8_were_41 : decode cX8_were 41 = .ok (.bipush (-9), 2) := by decide +kernel
theorem dX8_were_43 : decode cX8_were 43 = .ok (.istore 6, 2) := by decide +kernel
theorem dX8_were_45 : decode cX8_were 45 = .ok (.aload_n 0, 1) := by decide +kernel
theorem dX8_were_46 : decode cX8_were 46 = .ok (.invokevirtual 155, 3) := by decide +kernel
theorem dX8_were_49 : decode cX8_were 49 = .ok (.istore 7, 2) := by decide +kernel
theorem dX8_were_51 : decode cX8_were 51 = .ok (.iconst 1, 1) := by decide +kernel
theorem dX8_were_52 : decode cX8_were 52 = .ok (.istore 8, 2) := by decide +kernel
theorem dX8_were_54 : decode cX8_were 54 = .ok (.iload 8, 2) := by decide +kernel
theorem dX8_were_56 : decode cX8_were 56 = .ok (.aload_n 0, 1) := by decide +kernel
theorem dX8_were_57 : decode cX8_were 57 = .ok (.invokevirtual 155, 3) := by decide +kernel
theorem dX8_were_60 : decode cX8_were 60 = .ok (.if_icmp .gt 61, 3) := by decide +kernel
theorem dX8_were_63 : decode cX8_were 63 = .ok (.aload_n 0, 1) := by decide +kernel
theorem dX8_were_64 : decode cX8_were 64 = .ok (.getfield 30, 3) := by decide +kernel
theorem dX8_were_67 : decode cX8_were 67 = .ok (.aload 4, 2) := by decide +kernel
theorem dX8_were_69 : decode cX8_were 69 = .ok (.iload 8, 2) := by decide +kernel
theorem dX8_were_71 : decode cX8_were 71 = .ok (.invokevirtual 133, 3) := by decide +kernel
theorem dX8_were_74 : decode cX8_were 74 = .ok (.iload_n 1, 1) := by decide +kernel
theorem dX8_were_75 : decode cX8_were 75 = .ok (.if_icmp .ne 40, 3) := by decide +kernel
theorem dX8_were_78 : decode cX8_were 78 = .ok (.aload_n 0, 1) := by decide +kernel
theorem dX8_were_79 : decode cX8_were 79 = .ok (.getfield 30, 3) := by decide +kernel
theorem dX8_were_82 : decode cX8_were 82 = .ok (.getfield 143, 3) := by decide +kernel
theorem dX8_were_85 : decode cX8_were 85 = .ok (.iload_n 2, 1) := by decide +kernel
theorem dX8_were_86 : decode cX8_were 86 = .ok (.if_icmp .ne 29, 3) := by decide +kernel
theorem dX8_were_89 : decode cX8_were 89 = .ok (.iinc 5 1, 3) := by decide +kernel
theorem dX8_were_92 : decode cX8_were 92 = .ok (.iload 6, 2) := by decide +kernel
theorem dX8_were_94 : decode cX8_were 94 = .ok (.bipush (-9), 2) := by decide +kernel
theorem dX8_were_96 : decode cX8_were 96 = .ok (.if_icmp .ne 8, 3) := by decide +kernel
theorem dX8_were_99 : decode cX8_were 99 = .ok (.iload 8, 2) := by decide +kernel
theorem dX8_were_101 : decode cX8_were 101 = .ok (.goto 5, 3) := by decide +kernel
theorem dX8_were_104 : decode cX8_were 104 = .ok (.iload 6, 2) := by decide +kernel
theorem dX8_were_106 : decode cX8_were 106 = .ok (.istore 6, 2) := by decide +kernel
theorem dX8_were_108 : decode cX8_were 108 = .ok (.iload 7, 2) := by decide +kernel
theorem dX8_were_110 : decode cX8_were 110 = .ok (.iload 8, 2) := by decide +kernel
theorem dX8_were_112 : decode cX8_were 112 = .ok (.iand, 1) := by decide +kernel
theorem dX8_were_113 : decode cX8_were 113 = .ok (.istore 7, 2) := by decide +kernel
theorem dX8_were_115 : decode cX8_were 115 = .ok (.iinc 8 1, 3) := by decide +kernel
theorem dX8_were_118 : decode cX8_were 118 = .ok (.goto (-64), 3) := by decide +kernel
theorem dX8_were_121 : decode cX8_were 121 = .ok (.iload_n 3, 1) := by decide +kernel
theorem dX8_were_122 : decode cX8_were 122 = .ok (.ifCond .ne 6, 3) := by decide +kernel
theorem dX8_were_125 : decode cX8_were 125 = .ok (.iload 5, 2) := by decide +kernel
theorem dX8_were_127 : decode cX8_were 127 = .ok (.ireturn, 1) := by decide +kernel
theorem dX8_were_128 : decode cX8_were 128 = .ok (.iload 5, 2) := by decide +kernel
theorem dX8_were_130 : decode cX8_were 130 = .ok (.ifCond .ne 6, 3) := by decide +kernel
theorem dX8_were_133 : decode cX8_were 133 = .ok (.bipush (-9), 2) := by decide +kernel
theorem dX8_were_135 : decode cX8_were 135 = .ok (.ireturn, 1) := by decide +kernel
theorem dX8_were_136 : decode cX8_were 136 = .ok (.iload_n 3, 1) := by decide +kernel
theorem dX8_were_137 : decode cX8_were 137 = .ok (.iconst 1, 1) := by decide +kernel
theorem dX8_were_138 : decode cX8_were 138 = .ok (.if_icmp .ne 8, 3) := by decide +kernel
theorem dX8_were_141 : decode cX8_were 141 = .ok (.iload 6, 2) := by decide +kernel
theorem dX8_were_143 : decode cX8_were 143 = .ok (.goto 5, 3) := by decide +kernel
theorem dX8_were_146 : decode cX8_were 146 = .ok (.iload 7, 2) := by decide +kernel
theorem dX8_were_148 : decode cX8_were 148 = .ok (.ireturn, 1) := by decide +kernel
theorem dX8_reading_0 : decode cX8_reading 0 = .ok (.aload_n 0, 1) := by decide +kernel
theorem dX8_reading_1 : decode cX8_reading 1 = .ok (.iload_n 1, 1) := by decide +kernel
theorem dX8_reading_2 : decode cX8_reading 2 = .ok (.invokevirtual 87, 3) := by decide +kernel
theorem dX8_reading_5 : decode cX8_reading 5 = .ok (.ifnonnull 5, 3) := by decide +kernel
theorem dX8_reading_8 : decode cX8_reading 8 = .ok (.iconst (-1), 1) := by decide +kernel
theorem dX8_reading_9 : decode cX8_reading 9 = .ok (.ireturn, 1) := by decide +kernel
theorem dX8_reading_10 : decode cX8_reading 10 = .ok (.iload_n 2, 1) := by decide +kernel
theorem dX8_reading_11 : decode cX8_reading 11 = .ok (.iconst 0, 1) := by decide +kernel
theorem dX8_reading_12 : decode cX8_reading 12 = .ok (.bipush 18, 2) := by decide +kernel
theorem dX8_reading_14 : decode cX8_reading 14 = .ok (.invokestatic 122, 3) := by decide +kernel
theorem dX8_reading_17 : decode cX8_reading 17 = .ok (.ifCond .eq 12, 3) := by decide +kernel
theorem dX8_reading_20 : decode cX8_reading 20 = .ok (.iload_n 3, 1) := by decide +kernel
theorem dX8_reading_21 : decode cX8_reading 21 = .ok (.iconst 0, 1) := by decide +kernel
theorem dX8_reading_22 : decode cX8_reading 22 = .ok (.iconst 1, 1) := by decide +kernel
theorem dX8_reading_23 : decode cX8_reading 23 = .ok (.invokestatic 122, 3) := by decide +kernel
theorem dX8_reading_26 : decode cX8_reading 26 = .ok (.ifCond .ne 6, 3) := by decide +kernel
theorem dX8_reading_29 : decode cX8_reading 29 = .ok (.bipush (-2), 2) := by decide +kernel
theorem dX8_reading_31 : decode cX8_reading 31 = .ok (.ireturn, 1) := by decide +kernel
theorem dX8_reading_32 : decode cX8_reading 32 = .ok (.aload_n 0, 1) := by decide +kernel
theorem dX8_reading_33 : decode cX8_reading 33 = .ok (.getfield 44, 3) := by decide +kernel
theorem dX8_reading_36 : decode cX8_reading 36 = .ok (.getfield 202, 3) := by decide +kernel
theorem dX8_reading_39 : decode cX8_reading 39 = .ok (.bipush 8, 2) := by decide +kernel
theorem dX8_reading_41 : decode cX8_reading 41 = .ok (.if_icmp .lt 6, 3) := by decide +kernel
theorem dX8_reading_44 : decode cX8_reading 44 = .ok (.bipush (-4), 2) := by decide +kernel
theorem dX8_reading_46 : decode cX8_reading 46 = .ok (.ireturn, 1) := by decide +kernel
theorem dX8_reading_47 : decode cX8_reading 47 = .ok (.aload_n 0, 1) := by decide +kernel
theorem dX8_reading_48 : decode cX8_reading 48 = .ok (.getfield 44, 3) := by decide +kernel
theorem dX8_reading_51 : decode cX8_reading 51 = .ok (.iload_n 1, 1) := by decide +kernel
theorem dX8_reading_52 : decode cX8_reading 52 = .ok (.iload_n 2, 1) := by decide +kernel
theorem dX8_reading_53 : decode cX8_reading 53 = .ok (.iload_n 3, 1) := by decide +kernel
theorem dX8_reading_54 : decode cX8_reading 54 = .ok (.iconst 1, 1) := by decide +kernel
theorem dX8_reading_55 : decode cX8_reading 55 = .ok (.if_icmp .ne 7, 3) := by decide +kernel
theorem dX8_reading_58 : decode cX8_reading 58 = .ok (.iconst 1, 1) := by decide +kernel
theorem dX8_reading_59 : decode cX8_reading 59 = .ok (.goto 4, 3) := by decide +kernel
theorem dX8_reading_62 : decode cX8_reading 62 = .ok (.iconst 0, 1) := by decide +kernel
theorem dX8_reading_63 : decode cX8_reading 63 = .ok (.invokevirtual 203, 3) := by decide +kernel
theorem dX8_reading_66 : decode cX8_reading 66 = .ok (.ireturn, 1) := by decide +kernel
theorem dX8_back_0 : decode cX8_back 0 = .ok (.iload_n 1, 1) := by decide +kernel
theorem dX8_back_1 : decode cX8_back 1 = .ok (.iconst 0, 1) := by decide +kernel
theorem dX8_back_2 : decode cX8_back 2 = .ok (.aload_n 0, 1) := by decide +kernel
theorem dX8_back_3 : decode cX8_back 3 = .ok (.getfield 44, 3) := by decide +kernel
theorem dX8_back_6 : decode cX8_back 6 = .ok (.getfield 202, 3) := by decide +kernel
theorem dX8_back_9 : decode cX8_back 9 = .ok (.invokestatic 122, 3) := by decide +kernel
theorem dX8_back_12 : decode cX8_back 12 = .ok (.ifCond .ne 6, 3) := by decide +kernel
theorem dX8_back_15 : decode cX8_back 15 = .ok (.bipush (-2), 2) := by decide +kernel
theorem dX8_back_17 : decode cX8_back 17 = .ok (.ireturn, 1) := by decide +kernel
theorem dX8_back_18 : decode cX8_back 18 = .ok (.aload_n 0, 1) := by decide +kernel
theorem dX8_back_19 : decode cX8_back 19 = .ok (.getfield 44, 3) := by decide +kernel
theorem dX8_back_22 : decode cX8_back 22 = .ok (.dup, 1) := by decide +kernel
theorem dX8_back_23 : decode cX8_back 23 = .ok (.getfield 202, 3) := by decide +kernel
theorem dX8_back_26 : decode cX8_back 26 = .ok (.iload_n 1, 1) := by decide +kernel
theorem dX8_back_27 : decode cX8_back 27 = .ok (.isub, 1) := by decide +kernel
theorem dX8_back_28 : decode cX8_back 28 = .ok (.putfield 202, 3) := by decide +kernel
theorem dX8_back_31 : decode cX8_back 31 = .ok (.aload_n 0, 1) := by decide +kernel
theorem dX8_back_32 : decode cX8_back 32 = .ok (.getfield 44, 3) := by decide +kernel
theorem dX8_back_35 : decode cX8_back 35 = .ok (.getfield 202, 3) := by decide +kernel
theorem dX8_back_38 : decode cX8_back 38 = .ok (.ireturn, 1) := by decide +kernel
theorem dX8_hastes_0 : decode cX8_hastes 0 = .ok (.aload_n 0, 1) := by decide +kernel
theorem dX8_hastes_1 : decode cX8_hastes 1 = .ok (.iload_n 1, 1) := by decide +kernel
theorem dX8_hastes_2 : decode cX8_hastes 2 = .ok (.invokevirtual 87, 3) := by decide +kernel
theorem dX8_hastes_5 : decode cX8_hastes 5 = .ok (.astore_n 2, 1) := by decide +kernel
theorem dX8_hastes_6 : decode cX8_hastes 6 = .ok (.aload_n 2, 1) := by decide +kernel
theorem dX8_hastes_7 : decode cX8_hastes 7 = .ok (.ifnonnull 5, 3) := by decide +kernel
theorem dX8_hastes_10 : decode cX8_hastes 10 = .ok (.iconst (-1), 1) := by decide +kernel
theorem dX8_hastes_11 : decode cX8_hastes 11 = .ok (.ireturn, 1) := by decide +kernel
theorem dX8_hastes_12 : decode cX8_hastes 12 = .ok (.aload_n 0, 1) := by decide +kernel
theorem dX8_hastes_13 : decode cX8_hastes 13 = .ok (.invokevirtual 129, 3) := by decide +kernel
theorem dX8_hastes_16 : decode cX8_hastes 16 = .ok (.astore_n 3, 1) := by decide +kernel
theorem dX8_hastes_17 : decode cX8_hastes 17 = .ok (.iconst 0, 1) := by decide +kernel
theorem dX8_hastes_18 : decode cX8_hastes 18 = .ok (.istore 4, 2) := by decide +kernel
theorem dX8_hastes_20 : decode cX8_hastes 20 = .ok (.iconst 0, 1) := by decide +kernel
theorem dX8_hastes_21 : decode cX8_hastes 21 = .ok (.istore 5, 2) := by decide +kernel
theorem dX8_hastes_23 : decode cX8_hastes 23 = .ok (.iload 5, 2) := by decide +kernel
theorem dX8_hastes_25 : decode cX8_hastes 25 = .ok (.bipush 9, 2) := by decide +kernel
theorem dX8_hastes_27 : decode cX8_hastes 27 = .ok (.if_icmp .gt 51, 3) := by decide +kernel
theorem dX8_hastes_30 : decode cX8_hastes 30 = .ok (.aload_n 3, 1) := by decide +kernel
theorem dX8_hastes_31 : decode cX8_hastes 31 = .ok (.iload_n 1, 1) := by decide +kernel
theorem dX8_hastes_32 : decode cX8_hastes 32 = .ok (.aload_n 0, 1) := by decide +kernel
theorem dX8_hastes_33 : decode cX8_hastes 33 = .ok (.aload_n 2, 1) := by decide +kernel
theorem dX8_hastes_34 : decode cX8_hastes 34 = .ok (.invokevirtual 91, 3) := by decide +kernel
theorem dX8_hastes_37 : decode cX8_hastes 37 = .ok (.iload 5, 2) := by decide +kernel
theorem dX8_hastes_39 : decode cX8_hastes 39 = .ok (.aload_n 2, 1) := by decide +kernel
theorem dX8_hastes_40 : decode cX8_hastes 40 = .ok (.getfield 98, 3) := by decide +kernel
theorem dX8_hastes_43 : decode cX8_hastes 43 = .ok (.invokevirtual 105, 3) := by decide +kernel
theorem dX8_hastes_46 : decode cX8_hastes 46 = .ok (.iastore, 1) := by decide +kernel
theorem dX8_hastes_47 : decode cX8_hastes 47 = .ok (.iload 4, 2) := by decide +kernel
theorem dX8_hastes_49 : decode cX8_hastes 49 = .ok (.aload_n 0, 1) := by decide +kernel
theorem dX8_hastes_50 : decode cX8_hastes 50 = .ok (.getfield 44, 3) := by decide +kernel
theorem dX8_hastes_53 : decode cX8_hastes 53 = .ok (.aload_n 3, 1) := by decide +kernel
theorem dX8_hastes_54 : decode cX8_hastes 54 = .ok (.invokevirtual 206, 3) := by decide +kernel
theorem dX8_hastes_57 : decode cX8_hastes 57 = .ok (.ifCond .eq 11, 3) := by decide +kernel
theorem dX8_hastes_60 : decode cX8_hastes 60 = .ok (.iload 5, 2) := by decide +kernel
theorem dX8_hastes_62 : decode cX8_hastes 62 = .ok (.invokestatic 137, 3) := by decide +kernel
theorem dX8_hastes_65 : decode cX8_hastes 65 = .ok (.goto 4, 3) := by decide +kernel
theorem dX8_hastes_68 : decode cX8_hastes 68 = .ok (.iconst 0, 1) := by decide +kernel
theorem dX8_hastes_69 : decode cX8_hastes 69 = .ok (.ior, 1) := by decide +kernel
theorem dX8_hastes_70 : decode cX8_hastes 70 = .ok (.istore 4, 2) := by decide +kernel
theorem dX8_hastes_72 : decode cX8_hastes 72 = .ok (.iinc 5 1, 3) := by decide +kernel
theorem dX8_hastes_75 : decode cX8_hastes 75 = .ok (.goto (-52), 3) := by decide +kernel
theorem dX8_hastes_78 : decode cX8_hastes 78 = .ok (.iload 4, 2) := by decide +kernel
theorem dX8_hastes_80 : decode cX8_hastes 80 = .ok (.ireturn, 1) := by decide +kernel
theorem dX8_rooms_0 : decode cX8_rooms 0 = .ok (.aload_n 0, 1) := by decide +kernel
theorem dX8_rooms_1 : decode cX8_rooms 1 = .ok (.iload_n 1, 1) := by decide +kernel
theorem dX8_rooms_2 : decode cX8_rooms 2 = .ok (.invokevirtual 87, 3) := by decide +kernel
theorem dX8_rooms_5 : decode cX8_rooms 5 = .ok (.astore_n 2, 1) := by decide +kernel
theorem dX8_rooms_6 : decode cX8_rooms 6 = .ok (.aload_n 2, 1) := by decide +kernel
theorem dX8_rooms_7 : decode cX8_rooms 7 = .ok (.ifnonnull 5, 3) := by decide +kernel
theorem dX8_rooms_10 : decode cX8_rooms 10 = .ok (.iconst (-1), 1) := by decide +kernel
theorem dX8_rooms_11 : decode cX8_rooms 11 = .ok (.ireturn, 1) := by decide +kernel
theorem dX8_rooms_12 : decode cX8_rooms 12 = .ok (.aload_n 0, 1) := by decide +kernel
theorem dX8_rooms_13 : decode cX8_rooms 13 = .ok (.invokevirtual 129, 3) := by decide +kernel
theorem dX8_rooms_16 : decode cX8_rooms 16 = .ok (.astore_n 3, 1) := by decide +kernel
theorem dX8_rooms_17 : decode cX8_rooms 17 = .ok (.iconst 0, 1) := by decide +kernel
theorem dX8_rooms_18 : decode cX8_rooms 18 = .ok (.istore 4, 2) := by decide +kernel
theorem dX8_rooms_20 : decode cX8_rooms 20 = .ok (.iconst 0, 1) := by decide +kernel
theorem dX8_rooms_21 : decode cX8_rooms 21 = .ok (.istore 5, 2) := by decide +kernel
theorem dX8_rooms_23 : decode cX8_rooms 23 = .ok (.iload 5, 2) := by decide +kernel
theorem dX8_rooms_25 : decode cX8_rooms 25 = .ok (.bipush 9, 2) := by decide +kernel
theorem dX8_rooms_27 : decode cX8_rooms 27 = .ok (.if_icmp .gt 51, 3) := by decide +kernel
theorem dX8_rooms_30 : decode cX8_rooms 30 = .ok (.aload_n 3, 1) := by decide +kernel
theorem dX8_rooms_31 : decode cX8_rooms 31 = .ok (.iload_n 1, 1) := by decide +kernel
theorem dX8_rooms_32 : decode cX8_rooms 32 = .ok (.aload_n 0, 1) := by decide +kernel
theorem dX8_rooms_33 : decode cX8_rooms 33 = .ok (.aload_n 2, 1) := by decide +kernel
theorem dX8_rooms_34 : decode cX8_rooms 34 = .ok (.invokevirtual 91, 3) := by decide +kernel
theorem dX8_rooms_37 : decode cX8_rooms 37 = .ok (.aload_n 2, 1) := by decide +kernel
theorem dX8_rooms_38 : decode cX8_rooms 38 = .ok (.getfield 95, 3) := by decide +kernel
theorem dX8_rooms_41 : decode cX8_rooms 41 = .ok (.iload 5, 2) := by decide +kernel
theorem dX8_rooms_43 : decode cX8_rooms 43 = .ok (.invokevirtual 105, 3) := by decide +kernel
theorem dX8_rooms_46 : decode cX8_rooms 46 = .ok (.iastore, 1) := by decide +kernel
theorem dX8_rooms_47 : decode cX8_rooms 47 = .ok (.iload 4, 2) := by decide +kernel
theorem dX8_rooms_49 : decode cX8_rooms 49 = .ok (.aload_n 0, 1) := by decide +kernel
theorem dX8_rooms_50 : decode cX8_rooms 50 = .ok (.getfield 44, 3) := by decide +kernel
theorem dX8_rooms_53 : decode cX8_rooms 53 = .ok (.aload_n 3, 1) := by decide +kernel
theorem dX8_rooms_54 : decode cX8_rooms 54 = .ok (.invokevirtual 206, 3) := by decide +kernel
theorem dX8_rooms_57 : decode cX8_rooms 57 = .ok (.ifCond .eq 11, 3) := by decide +kernel
theorem dX8_rooms_60 : decode cX8_rooms 60 = .ok (.iload 5, 2) := by decide +kernel
theorem dX8_rooms_62 : decode cX8_rooms 62 = .ok (.invokestatic 137, 3) := by decide +kernel
theorem dX8_rooms_65 : decode cX8_rooms 65 = .ok (.goto 4, 3) := by decide +kernel
theorem dX8_rooms_68 : decode cX8_rooms 68 = .ok (.iconst 0, 1) := by decide +kernel
theorem dX8_rooms_69 : decode cX8_rooms 69 = .ok (.ior, 1) := by decide +kernel
theorem dX8_rooms_70 : decode cX8_rooms 70 = .ok (.istore 4, 2) := by decide +kernel
theorem dX8_rooms_72 : decode cX8_rooms 72 = .ok (.iinc 5 1, 3) := by decide +kernel
theorem dX8_rooms_75 : decode cX8_rooms 75 = .ok (.goto (-52), 3) := by decide +kernel
theorem dX8_rooms_78 : decode cX8_rooms 78 = .ok (.iload 4, 2) := by decide +kernel
theorem dX8_rooms_80 : decode cX8_rooms 80 = .ok (.ireturn, 1) := by decide +kernel
theorem dX8_kinds_0 : decode cX8_kinds 0 = .ok (.aload_n 0, 1) := by decide +kernel
theorem dX8_kinds_1 : decode cX8_kinds 1 = .ok (.iload_n 1, 1) := by decide +kernel
theorem dX8_kinds_2 : decode cX8_kinds 2 = .ok (.invokevirtual 87, 3) := by decide +kernel
theorem dX8_kinds_5 : decode cX8_kinds 5 = .ok (.astore_n 2, 1) := by decide +kernel
theorem dX8_kinds_6 : decode cX8_kinds 6 = .ok (.aload_n 2, 1) := by decide +kernel
theorem dX8_kinds_7 : decode cX8_kinds 7 = .ok (.ifnonnull 5, 3) := by decide +kernel
theorem dX8_kinds_10 : decode cX8_kinds 10 = .ok (.iconst (-1), 1) := by decide +kernel
theorem dX8_kinds_11 : decode cX8_kinds 11 = .ok (.ireturn, 1) := by decide +kernel
theorem dX8_kinds_12 : decode cX8_kinds 12 = .ok (.aload_n 0, 1) := by decide +kernel
theorem dX8_kinds_13 : decode cX8_kinds 13 = .ok (.invokevirtual 129, 3) := by decide +kernel
theorem dX8_kinds_16 : decode cX8_kinds 16 = .ok (.astore_n 3, 1) := by decide +kernel
theorem dX8_kinds_17 : decode cX8_kinds 17 = .ok (.iconst 0, 1) := by decide +kernel
theorem dX8_kinds_18 : decode cX8_kinds 18 = .ok (.istore 4, 2) := by decide +kernel
theorem dX8_kinds_20 : decode cX8_kinds 20 = .ok (.iconst 0, 1) := by decide +kernel
theorem dX8_kinds_21 : decode cX8_kinds 21 = .ok (.istore 5, 2) := by decide +kernel
theorem dX8_kinds_23 : decode cX8_kinds 23 = .ok (.iload 5, 2) := by decide +kernel
theorem dX8_kinds_25 : decode cX8_kinds 25 = .ok (.iconst 2, 1) := by decide +kernel
theorem dX8_kinds_26 : decode cX8_kinds 26 = .ok (.if_icmp .gt 51, 3) := by decide +kernel
theorem dX8_kinds_29 : decode cX8_kinds 29 = .ok (.aload_n 3, 1) := by decide +kernel
theorem dX8_kinds_30 : decode cX8_kinds 30 = .ok (.iload_n 1, 1) := by decide +kernel
theorem dX8_kinds_31 : decode cX8_kinds 31 = .ok (.aload_n 0, 1) := by decide +kernel
theorem dX8_kinds_32 : decode cX8_kinds 32 = .ok (.iload 5, 2) := by decide +kernel
theorem dX8_kinds_34 : decode cX8_kinds 34 = .ok (.aload_n 2, 1) := by decide +kernel
theorem dX8_kinds_35 : decode cX8_kinds 35 = .ok (.getfield 95, 3) := by decide +kernel
theorem dX8_kinds_38 : decode cX8_kinds 38 = .ok (.aload_n 2, 1) := by decide +kernel
theorem dX8_kinds_39 : decode cX8_kinds 39 = .ok (.getfield 98, 3) := by decide +kernel
theorem dX8_kinds_42 : decode cX8_kinds 42 = .ok (.invokevirtual 105, 3) := by decide +kernel
theorem dX8_kinds_45 : decode cX8_kinds 45 = .ok (.iastore, 1) := by decide +kernel
theorem dX8_kinds_46 : decode cX8_kinds 46 = .ok (.iload 4, 2) := by decide +kernel
theorem dX8_kinds_48 : decode cX8_kinds 48 = .ok (.aload_n 0, 1) := by decide +kernel
theorem dX8_kinds_49 : decode cX8_kinds 49 = .ok (.getfield 44, 3) := by decide +kernel
theorem dX8_kinds_52 : decode cX8_kinds 52 = .ok (.aload_n 3, 1) := by decide +kernel
theorem dX8_kinds_53 : decode cX8_kinds 53 = .ok (.invokevirtual 206, 3) := by decide +kernel
theorem dX8_kinds_56 : decode cX8_kinds 56 = .ok (.ifCond .eq 11, 3) := by decide +kernel
theorem dX8_kinds_59 : decode cX8_kinds 59 = .ok (.iload 5, 2) := by decide +kernel
theorem dX8_kinds_61 : decode cX8_kinds 61 = .ok (.invokestatic 137, 3) := by decide +kernel
theorem dX8_kinds_64 : decode cX8_kinds 64 = .ok (.goto 4, 3) := by decide +kernel
theorem dX8_kinds_67 : decode cX8_kinds 67 = .ok (.iconst 0, 1) := by decide +kernel
theorem dX8_kinds_68 : decode cX8_kinds 68 = .ok (.ior, 1) := by decide +kernel
theorem dX8_kinds_69 : decode cX8_kinds 69 = .ok (.istore 4, 2) := by decide +kernel
theorem dX8_kinds_71 : decode cX8_kinds 71 = .ok (.iinc 5 1, 3) := by decide +kernel
theorem dX8_kinds_74 : decode cX8_kinds 74 = .ok (.goto (-51), 3) := by decide +kernel
theorem dX8_kinds_77 : decode cX8_kinds 77 = .ok (.iload 4, 2) := by decide +kernel
theorem dX8_kinds_79 : decode cX8_kinds 79 = .ok (.ireturn, 1) := by decide +kernel
theorem dX8_odds_0 : decode cX8_odds 0 = .ok (.aload_n 0, 1) := by decide +kernel
theorem dX8_odds_1 : decode cX8_odds 1 = .ok (.iload_n 1, 1) := by decide +kernel
theorem dX8_odds_2 : decode cX8_odds 2 = .ok (.invokevirtual 87, 3) := by decide +kernel
theorem dX8_odds_5 : decode cX8_odds 5 = .ok (.ifnull 12, 3) := by decide +kernel
theorem dX8_odds_8 : decode cX8_odds 8 = .ok (.iload_n 2, 1) := by decide +kernel
theorem dX8_odds_9 : decode cX8_odds 9 = .ok (.iconst 0, 1) := by decide +kernel
theorem dX8_odds_10 : decode cX8_odds 10 = .ok (.iconst 1, 1) := by decide +kernel
theorem dX8_odds_11 : decode cX8_odds 11 = .ok (.invokestatic 122, 3) := by decide +kernel
theorem dX8_odds_14 : decode cX8_odds 14 = .ok (.ifCond .ne 7, 3) := by decide +kernel
theorem dX8_odds_17 : decode cX8_odds 17 = .ok (.ldc2_w 210, 3) := by decide +kernel
theorem dX8_odds_20 : decode cX8_odds 20 = .ok (.lreturn, 1) := by decide +kernel
theorem dX8_odds_21 : decode cX8_odds 21 = .ok (.aload_n 0, 1) := by decide +kernel
theorem dX8_odds_22 : decode cX8_odds 22 = .ok (.invokevirtual 129, 3) := by decide +kernel
theorem dX8_odds_25 : decode cX8_odds 25 = .ok (.astore_n 3, 1) := by decide +kernel
theorem dX8_odds_26 : decode cX8_odds 26 = .ok (.iconst 0, 1) := by decide +kernel
theorem dX8_odds_27 : decode cX8_odds 27 = .ok (.istore 4, 2) := by decide +kernel
theorem dX8_odds_29 : decode cX8_odds 29 = .ok (.iconst 1, 1) := by decide +kernel
theorem dX8_odds_30 : decode cX8_odds 30 = .ok (.istore 5, 2) := by decide +kernel
theorem dX8_odds_32 : decode cX8_odds 32 = .ok (.iload 5, 2) := by decide +kernel
theorem dX8_odds_34 : decode cX8_odds 34 = .ok (.aload_n 0, 1) := by decide +kernel
theorem dX8_odds_35 : decode cX8_odds 35 = .ok (.invokevirtual 155, 3) := by decide +kernel
theorem dX8_odds_38 : decode cX8_odds 38 = .ok (.if_icmp .gt 33, 3) := by decide +kernel
theorem dX8_odds_41 : decode cX8_odds 41 = .ok (.iload 4, 2) := by decide +kernel
theorem dX8_odds_43 : decode cX8_odds 43 = .ok (.aload_n 0, 1) := by decide +kernel
theorem dX8_odds_44 : decode cX8_odds 44 = .ok (.getfield 30, 3) := by decide +kernel
theorem dX8_odds_47 : decode cX8_odds 47 = .ok (.aload_n 3, 1) := by decide +kernel
theorem dX8_odds_48 : decode cX8_odds 48 = .ok (.iload 5, 2) := by decide +kernel
theorem dX8_odds_50 : decode cX8_odds 50 = .ok (.invokevirtual 133, 3) := by decide +kernel
theorem dX8_odds_53 : decode cX8_odds 53 = .ok (.iload_n 1, 1) := by decide +kernel
theorem dX8_odds_54 : decode cX8_odds 54 = .ok (.if_icmp .ne 7, 3) := by decide +kernel
theorem dX8_odds_57 : decode cX8_odds 57 = .ok (.iconst 1, 1) := by decide +kernel
theorem dX8_odds_58 : decode cX8_odds 58 = .ok (.goto 4, 3) := by decide +kernel
theorem dX8_odds_61 : decode cX8_odds 61 = .ok (.iconst 0, 1) := by decide +kernel
theorem dX8_odds_62 : decode cX8_odds 62 = .ok (.iadd, 1) := by decide +kernel
theorem dX8_odds_63 : decode cX8_odds 63 = .ok (.istore 4, 2) := by decide +kernel
theorem dX8_odds_65 : decode cX8_odds 65 = .ok (.iinc 5 1, 3) := by decide +kernel
theorem dX8_odds_68 : decode cX8_odds 68 = .ok (.goto (-36), 3) := by decide +kernel
theorem dX8_odds_71 : decode cX8_odds 71 = .ok (.aload_n 0, 1) := by decide +kernel
theorem dX8_odds_72 : decode cX8_odds 72 = .ok (.getfield 84, 3) := by decide +kernel
theorem dX8_odds_75 : decode cX8_odds 75 = .ok (.invokestatic 137, 3) := by decide +kernel
theorem dX8_odds_78 : decode cX8_odds 78 = .ok (.istore 5, 2) := by decide +kernel
theorem dX8_odds_80 : decode cX8_odds 80 = .ok (.iconst 0, 1) := by decide +kernel
theorem dX8_odds_81 : decode cX8_odds 81 = .ok (.istore 6, 2) := by decide +kernel
theorem dX8_odds_83 : decode cX8_odds 83 = .ok (.iload 6, 2) := by decide +kernel
theorem dX8_odds_85 : decode cX8_odds 85 = .ok (.aload_n 0, 1) := by decide +kernel
theorem dX8_odds_86 : decode cX8_odds 86 = .ok (.getfield 84, 3) := by decide +kernel
theorem dX8_odds_89 : decode cX8_odds 89 = .ok (.if_icmp .ge 28, 3) := by decide +kernel
theorem dX8_odds_92 : decode cX8_odds 92 = .ok (.iload 4, 2) := by decide +kernel
theorem dX8_odds_94 : decode cX8_odds 94 = .ok (.iconst 2, 1) := by decide +kernel
theorem dX8_odds_95 : decode cX8_odds 95 = .ok (.irem, 1) := by decide +kernel
theorem dX8_odds_96 : decode cX8_odds 96 = .ok (.ifCond .ne 21, 3) := by decide +kernel
theorem dX8_odds_99 : decode cX8_odds 99 = .ok (.iload 4, 2) := by decide +kernel
theorem dX8_odds_101 : decode cX8_odds 101 = .ok (.iconst 2, 1) := by decide +kernel
theorem dX8_odds_102 : decode cX8_odds 102 = .ok (.idiv, 1) := by decide +kernel
theorem dX8_odds_103 : decode cX8_odds 103 = .ok (.istore 4, 2) := by decide +kernel
theorem dX8_odds_105 : decode cX8_odds 105 = .ok (.iload 5, 2) := by decide +kernel
theorem dX8_odds_107 : decode cX8_odds 107 = .ok (.iconst 2, 1) := by decide +kernel
theorem dX8_odds_108 : decode cX8_odds 108 = .ok (.idiv, 1) := by decide +kernel
theorem dX8_odds_109 : decode cX8_odds 109 = .ok (.istore 5, 2) := by decide +kernel
theorem dX8_odds_111 : decode cX8_odds 111 = .ok (.iinc 6 1, 3) := by decide +kernel
theorem dX8_odds_114 : decode cX8_odds 114 = .ok (.goto (-31), 3) := by decide +kernel
theorem dX8_odds_117 : decode cX8_odds 117 = .ok (.iload_n 2, 1) := by decide +kernel
theorem dX8_odds_118 : decode cX8_odds 118 = .ok (.ifCond .ne 9, 3) := by decide +kernel
theorem dX8_odds_121 : decode cX8_odds 121 = .ok (.iload 4, 2) := by decide +kernel
theorem dX8_odds_123 : decode cX8_odds 123 = .ok (.i2l, 1) := by decide +kernel
theorem dX8_odds_124 : decode cX8_odds 124 = .ok (.goto 6, 3) := by decide +kernel
theorem dX8_odds_127 : decode cX8_odds 127 = .ok (.iload 5, 2) := by decide +kernel
theorem dX8_odds_129 : decode cX8_odds 129 = .ok (.i2l, 1) := by decide +kernel
theorem dX8_odds_130 : decode cX8_odds 130 = .ok (.lreturn, 1) := by decide +kernel
theorem dX8_sheet_0 : decode cX8_sheet 0 = .ok (.aload_n 0, 1) := by decide +kernel
theorem dX8_sheet_1 : decode cX8_sheet 1 = .ok (.iconst 0, 1) := by decide +kernel
theorem dX8_sheet_2 : decode cX8_sheet 2 = .ok (.putfield 56, 3) := by decide +kernel
theorem dX8_sheet_5 : decode cX8_sheet 5 = .ok (.aload_n 0, 1) := by decide +kernel
theorem dX8_sheet_6 : decode cX8_sheet 6 = .ok (.iload_n 1, 1) := by decide +kernel
theorem dX8_sheet_7 : decode cX8_sheet 7 = .ok (.invokevirtual 60, 3) := by decide +kernel
theorem dX8_sheet_10 : decode cX8_sheet 10 = .ok (.astore 4, 2) := by decide +kernel
theorem dX8_sheet_12 : decode cX8_sheet 12 = .ok (.aload 4, 2) := by decide +kernel
theorem dX8_sheet_14 : decode cX8_sheet 14 = .ok (.ifnonnull 5, 3) := by decide +kernel
theorem dX8_sheet_17 : decode cX8_sheet 17 = .ok (.iconst (-1), 1) := by decide +kernel
theorem dX8_sheet_18 : decode cX8_sheet 18 = .ok (.ireturn, 1) := by decide +kernel
theorem dX8_sheet_19 : decode cX8_sheet 19 = .ok (.iload_n 2, 1) := by decide +kernel
theorem dX8_sheet_20 : decode cX8_sheet 20 = .ok (.invokestatic 64, 3) := by decide +kernel
theorem dX8_sheet_23 : decode cX8_sheet 23 = .ok (.ifCond .eq 9, 3) := by decide +kernel
theorem dX8_sheet_26 : decode cX8_sheet 26 = .ok (.iload_n 3, 1) := by decide +kernel
theorem dX8_sheet_27 : decode cX8_sheet 27 = .ok (.bipush 60, 2) := by decide +kernel
theorem dX8_sheet_29 : decode cX8_sheet 29 = .ok (.if_icmp .le 6, 3) := by decide +kernel
theorem dX8_sheet_32 : decode cX8_sheet 32 = .ok (.bipush (-2), 2) := by decide +kernel
theorem dX8_sheet_34 : decode cX8_sheet 34 = .ok (.ireturn, 1) := by decide +kernel
theorem dX8_sheet_35 : decode cX8_sheet 35 = .ok (.iload_n 3, 1) := by decide +kernel
theorem dX8_sheet_36 : decode cX8_sheet 36 = .ok (.ifCond .ge 9, 3) := by decide +kernel
theorem dX8_sheet_39 : decode cX8_sheet 39 = .ok (.aload_n 0, 1) := by decide +kernel
theorem dX8_sheet_40 : decode cX8_sheet 40 = .ok (.iconst 4, 1) := by decide +kernel
theorem dX8_sheet_41 : decode cX8_sheet 41 = .ok (.invokevirtual 72, 3) := by decide +kernel
theorem dX8_sheet_44 : decode cX8_sheet 44 = .ok (.ireturn, 1) := by decide +kernel
theorem dX8_sheet_45 : decode cX8_sheet 45 = .ok (.aload 4, 2) := by decide +kernel
theorem dX8_sheet_47 : decode cX8_sheet 47 = .ok (.iload_n 2, 1) := by decide +kernel
theorem dX8_sheet_48 : decode cX8_sheet 48 = .ok (.iload_n 3, 1) := by decide +kernel
theorem dX8_sheet_49 : decode cX8_sheet 49 = .ok (.invokevirtual 212, 3) := by decide +kernel
theorem dX8_sheet_52 : decode cX8_sheet 52 = .ok (.iconst 1, 1) := by decide +kernel
theorem dX8_sheet_53 : decode cX8_sheet 53 = .ok (.ireturn, 1) := by decide +kernel
theorem dX8_lose_0 : decode cX8_lose 0 = .ok (.aload_n 0, 1) := by decide +kernel
theorem dX8_lose_1 : decode cX8_lose 1 = .ok (.iload_n 1, 1) := by decide +kernel
theorem dX8_lose_2 : decode cX8_lose 2 = .ok (.invokevirtual 60, 3) := by decide +kernel
theorem dX8_lose_5 : decode cX8_lose 5 = .ok (.astore_n 2, 1) := by decide +kernel
theorem dX8_lose_6 : decode cX8_lose 6 = .ok (.aload_n 2, 1) := by decide +kernel
theorem dX8_lose_7 : decode cX8_lose 7 = .ok (.ifnonnull 5, 3) := by decide +kernel
theorem dX8_lose_10 : decode cX8_lose 10 = .ok (.iconst (-1), 1) := by decide +kernel
theorem dX8_lose_11 : decode cX8_lose 11 = .ok (.ireturn, 1) := by decide +kernel
theorem dX8_lose_12 : decode cX8_lose 12 = .ok (.aload_n 2, 1) := by decide +kernel
theorem dX8_lose_13 : decode cX8_lose 13 = .ok (.getfield 216, 3) := by decide +kernel
theorem dX8_lose_16 : decode cX8_lose 16 = .ok (.ifCond .eq 7, 3) := by decide +kernel
theorem dX8_lose_19 : decode cX8_lose 19 = .ok (.iconst 1, 1) := by decide +kernel
theorem dX8_lose_20 : decode cX8_lose 20 = .ok (.goto 4, 3) := by decide +kernel
theorem dX8_lose_23 : decode cX8_lose 23 = .ok (.iconst 0, 1) := by decide +kernel
theorem dX8_lose_24 : decode cX8_lose 24 = .ok (.istore_n 3, 1) := by decide +kernel
theorem dX8_lose_25 : decode cX8_lose 25 = .ok (.aload_n 2, 1) := by decide +kernel
theorem dX8_lose_26 : decode cX8_lose 26 = .ok (.iconst 0, 1) := by decide +kernel
theorem dX8_lose_27 : decode cX8_lose 27 = .ok (.putfield 216, 3) := by decide +kernel
theorem dX8_lose_30 : decode cX8_lose 30 = .ok (.iload_n 3, 1) := by decide +kernel
theorem dX8_lose_31 : decode cX8_lose 31 = .ok (.ireturn, 1) := by decide +kernel
theorem dX8_put_0 : decode cX8_put 0 = .ok (.aload_n 0, 1) := by decide +kernel
theorem dX8_put_1 : decode cX8_put 1 = .ok (.iconst 0, 1) := by decide +kernel
theorem dX8_put_2 : decode cX8_put 2 = .ok (.putfield 56, 3) := by decide +kernel
theorem dX8_put_5 : decode cX8_put 5 = .ok (.aload_n 0, 1) := by decide +kernel
theorem dX8_put_6 : decode cX8_put 6 = .ok (.iload_n 1, 1) := by decide +kernel
theorem dX8_put_7 : decode cX8_put 7 = .ok (.invokevirtual 60, 3) := by decide +kernel
theorem dX8_put_10 : decode cX8_put 10 = .ok (.astore 4, 2) := by decide +kernel
theorem dX8_put_12 : decode cX8_put 12 = .ok (.aload 4, 2) := by decide +kernel
theorem dX8_put_14 : decode cX8_put 14 = .ok (.ifnonnull 5, 3) := by decide +kernel
theorem dX8_put_17 : decode cX8_put 17 = .ok (.iconst (-1), 1) := by decide +kernel
theorem dX8_put_18 : decode cX8_put 18 = .ok (.ireturn, 1) := by decide +kernel
theorem dX8_put_19 : decode cX8_put 19 = .ok (.aload 4, 2) := by decide +kernel
theorem dX8_put_21 : decode cX8_put 21 = .ok (.aload 4, 2) := by decide +kernel
theorem dX8_put_23 : decode cX8_put 23 = .ok (.getfield 220, 3) := by decide +kernel
theorem dX8_put_26 : decode cX8_put 26 = .ok (.iload_n 2, 1) := by decide +kernel
theorem dX8_put_27 : decode cX8_put 27 = .ok (.iconst 1, 1) := by decide +kernel
theorem dX8_put_28 : decode cX8_put 28 = .ok (.invokestatic 68, 3) := by decide +kernel
theorem dX8_put_31 : decode cX8_put 31 = .ok (.istore 5, 2) := by decide +kernel
theorem dX8_put_33 : decode cX8_put 33 = .ok (.iload 5, 2) := by decide +kernel
theorem dX8_put_35 : decode cX8_put 35 = .ok (.ifCond .eq 10, 3) := by decide +kernel
theorem dX8_put_38 : decode cX8_put 38 = .ok (.aload_n 0, 1) := by decide +kernel
theorem dX8_put_39 : decode cX8_put 39 = .ok (.iload 5, 2) := by decide +kernel
theorem dX8_put_41 : decode cX8_put 41 = .ok (.invokevirtual 72, 3) := by decide +kernel
theorem dX8_put_44 : decode cX8_put 44 = .ok (.ireturn, 1) := by decide +kernel
theorem dX8_put_45 : decode cX8_put 45 = .ok (.aload 4, 2) := by decide +kernel
theorem dX8_put_47 : decode cX8_put 47 = .ok (.iload_n 2, 1) := by decide +kernel
theorem dX8_put_48 : decode cX8_put 48 = .ok (.iload_n 3, 1) := by decide +kernel
theorem dX8_put_49 : decode cX8_put 49 = .ok (.invokevirtual 223, 3) := by decide +kernel
theorem dX8_put_52 : decode cX8_put 52 = .ok (.iconst 1, 1) := by decide +kernel
theorem dX8_put_53 : decode cX8_put 53 = .ok (.ireturn, 1) := by decide +kernel
theorem dX8_cell_0 : decode cX8_cell 0 = .ok (.aload_n 0, 1) := by decide +kernel
theorem dX8_cell_1 : decode cX8_cell 1 = .ok (.iconst 0, 1) := by decide +kernel
theorem dX8_cell_2 : decode cX8_cell 2 = .ok (.putfield 56, 3) := by decide +kernel
theorem dX8_cell_5 : decode cX8_cell 5 = .ok (.aload_n 0, 1) := by decide +kernel
theorem dX8_cell_6 : decode cX8_cell 6 = .ok (.iload_n 1, 1) := by decide +kernel
theorem dX8_cell_7 : decode cX8_cell 7 = .ok (.invokevirtual 60, 3) := by decide +kernel
theorem dX8_cell_10 : decode cX8_cell 10 = .ok (.astore 4, 2) := by decide +kernel
theorem dX8_cell_12 : decode cX8_cell 12 = .ok (.aload 4, 2) := by decide +kernel
theorem dX8_cell_14 : decode cX8_cell 14 = .ok (.ifnull 10, 3) := by decide +kernel
theorem dX8_cell_17 : decode cX8_cell 17 = .ok (.iload_n 3, 1) := by decide +kernel
theorem dX8_cell_18 : decode cX8_cell 18 = .ok (.invokestatic 64, 3) := by decide +kernel
theorem dX8_cell_21 : decode cX8_cell 21 = .ok (.ifCond .ne 7, 3) := by decide +kernel
theorem dX8_cell_24 : decode cX8_cell 24 = .ok (.ldc2_w 210, 3) := by decide +kernel
theorem dX8_cell_27 : decode cX8_cell 27 = .ok (.lreturn, 1) := by decide +kernel
theorem dX8_cell_28 : decode cX8_cell 28 = .ok (.aload_n 0, 1) := by decide +kernel
theorem dX8_cell_29 : decode cX8_cell 29 = .ok (.aload 4, 2) := by decide +kernel
theorem dX8_cell_31 : decode cX8_cell 31 = .ok (.iload_n 3, 1) := by decide +kernel
theorem dX8_cell_32 : decode cX8_cell 32 = .ok (.iload_n 2, 1) := by decide +kernel
theorem dX8_cell_33 : decode cX8_cell 33 = .ok (.iconst 1, 1) := by decide +kernel
theorem dX8_cell_34 : decode cX8_cell 34 = .ok (.invokestatic 68, 3) := by decide +kernel
theorem dX8_cell_37 : decode cX8_cell 37 = .ok (.putfield 56, 3) := by decide +kernel
theorem dX8_cell_40 : decode cX8_cell 40 = .ok (.aload_n 0, 1) := by decide +kernel
theorem dX8_cell_41 : decode cX8_cell 41 = .ok (.getfield 56, 3) := by decide +kernel
theorem dX8_cell_44 : decode cX8_cell 44 = .ok (.ifCond .ne 13, 3) := by decide +kernel
theorem dX8_cell_47 : decode cX8_cell 47 = .ok (.aload 4, 2) := by decide +kernel
theorem dX8_cell_49 : decode cX8_cell 49 = .ok (.iload_n 2, 1) := by decide +kernel
theorem dX8_cell_50 : decode cX8_cell 50 = .ok (.invokevirtual 226, 3) := by decide +kernel
theorem dX8_cell_53 : decode cX8_cell 53 = .ok (.i2l, 1) := by decide +kernel
theorem dX8_cell_54 : decode cX8_cell 54 = .ok (.goto 6, 3) := by decide +kernel
theorem dX8_cell_57 : decode cX8_cell 57 = .ok (.ldc2_w 210, 3) := by decide +kernel
theorem dX8_cell_60 : decode cX8_cell 60 = .ok (.lreturn, 1) := by decide +kernel
theorem dX8_copy_0 : decode cX8_copy 0 = .ok (.aload_n 0, 1) := by decide +kernel
theorem dX8_copy_1 : decode cX8_copy 1 = .ok (.iconst 0, 1) := by decide +kernel
theorem dX8_copy_2 : decode cX8_copy 2 = .ok (.putfield 56, 3) := by decide +kernel
theorem dX8_copy_5 : decode cX8_copy 5 = .ok (.aload_n 0, 1) := by decide +kernel
theorem dX8_copy_6 : decode cX8_copy 6 = .ok (.iload_n 1, 1) := by decide +kernel
theorem dX8_copy_7 : decode cX8_copy 7 = .ok (.invokevirtual 60, 3) := by decide +kernel
theorem dX8_copy_10 : decode cX8_copy 10 = .ok (.astore 6, 2) := by decide +kernel
theorem dX8_copy_12 : decode cX8_copy 12 = .ok (.aload_n 0, 1) := by decide +kernel
theorem dX8_copy_13 : decode cX8_copy 13 = .ok (.iload_n 3, 1) := by decide +kernel
theorem dX8_copy_14 : decode cX8_copy 14 = .ok (.invokevirtual 60, 3) := by decide +kernel
theorem dX8_copy_17 : decode cX8_copy 17 = .ok (.astore 7, 2) := by decide +kernel
theorem dX8_copy_19 : decode cX8_copy 19 = .ok (.aload 6, 2) := by decide +kernel
theorem dX8_copy_21 : decode cX8_copy 21 = .ok (.ifnull 8, 3) := by decide +kernel
theorem dX8_copy_24 : decode cX8_copy 24 = .ok (.aload 7, 2) := by decide +kernel
theorem dX8_copy_26 : decode cX8_copy 26 = .ok (.ifnonnull 5, 3) := by decide +kernel
theorem dX8_copy_29 : decode cX8_copy 29 = .ok (.iconst (-1), 1) := by decide +kernel
theorem dX8_copy_30 : decode cX8_copy 30 = .ok (.ireturn, 1) := by decide +kernel
theorem dX8_copy_31 : decode cX8_copy 31 = .ok (.aload 6, 2) := by decide +kernel
theorem dX8_copy_33 : decode cX8_copy 33 = .ok (.getfield 216, 3) := by decide +kernel
theorem dX8_copy_36 : decode cX8_copy 36 = .ok (.ifCond .eq 11, 3) := by decide +kernel
theorem dX8_copy_39 : decode cX8_copy 39 = .ok (.aload 7, 2) := by decide +kernel
theorem dX8_copy_41 : decode cX8_copy 41 = .ok (.getfield 216, 3) := by decide +kernel
theorem dX8_copy_44 : decode cX8_copy 44 = .ok (.ifCond .ne 9, 3) := by decide +kernel
theorem dX8_copy_47 : decode cX8_copy 47 = .ok (.aload_n 0, 1) := by decide +kernel
theorem dX8_copy_48 : decode cX8_copy 48 = .ok (.iconst 1, 1) := by decide +kernel
theorem dX8_copy_49 : decode cX8_copy 49 = .ok (.invokevirtual 72, 3) := by decide +kernel
theorem dX8_copy_52 : decode cX8_copy 52 = .ok (.ireturn, 1) := by decide +kernel
theorem dX8_copy_53 : decode cX8_copy 53 = .ok (.aload 6, 2) := by decide +kernel
theorem dX8_copy_55 : decode cX8_copy 55 = .ok (.getfield 220, 3) := by decide +kernel
theorem dX8_copy_58 : decode cX8_copy 58 = .ok (.aload 7, 2) := by decide +kernel
theorem dX8_copy_60 : decode cX8_copy 60 = .ok (.getfield 220, 3) := by decide +kernel
theorem dX8_copy_63 : decode cX8_copy 63 = .ok (.if_icmp .eq 9, 3) := by decide +kernel
theorem dX8_copy_66 : decode cX8_copy 66 = .ok (.aload_n 0, 1) := by decide +kernel
theorem dX8_copy_67 : decode cX8_copy 67 = .ok (.iconst 2, 1) := by decide +kernel
theorem dX8_copy_68 : decode cX8_copy 68 = .ok (.invokevirtual 72, 3) := by decide +kernel
theorem dX8_copy_71 : decode cX8_copy 71 = .ok (.ireturn, 1) := by decide +kernel
theorem dX8_copy_72 : decode cX8_copy 72 = .ok (.aload 6, 2) := by decide +kernel
theorem dX8_copy_74 : decode cX8_copy 74 = .ok (.iload_n 2, 1) := by decide +kernel
theorem dX8_copy_75 : decode cX8_copy 75 = .ok (.iload 5, 2) := by decide +kernel
theorem dX8_copy_77 : decode cX8_copy 77 = .ok (.invokevirtual 229, 3) := by decide +kernel
theorem dX8_copy_80 : decode cX8_copy 80 = .ok (.ifCond .eq 15, 3) := by decide +kernel
theorem dX8_copy_83 : decode cX8_copy 83 = .ok (.aload 7, 2) := by decide +kernel
theorem dX8_copy_85 : decode cX8_copy 85 = .ok (.iload 4, 2) := by decide +kernel
theorem dX8_copy_87 : decode cX8_copy 87 = .ok (.iload 5, 2) := by decide +kernel
theorem dX8_copy_89 : decode cX8_copy 89 = .ok (.invokevirtual 229, 3) := by decide +kernel
theorem dX8_copy_92 : decode cX8_copy 92 = .ok (.ifCond .ne 9, 3) := by decide +kernel
theorem dX8_copy_95 : decode cX8_copy 95 = .ok (.aload_n 0, 1) := by decide +kernel
theorem dX8_copy_96 : decode cX8_copy 96 = .ok (.iconst 3, 1) := by decide +kernel
theorem dX8_copy_97 : decode cX8_copy 97 = .ok (.invokevirtual 72, 3) := by decide +kernel
theorem dX8_copy_100 : decode cX8_copy 100 = .ok (.ireturn, 1) := by decide +kernel
theorem dX8_copy_101 : decode cX8_copy 101 = .ok (.aload 6, 2) := by decide +kernel
theorem dX8_copy_103 : decode cX8_copy 103 = .ok (.getfield 232, 3) := by decide +kernel
theorem dX8_copy_106 : decode cX8_copy 106 = .ok (.iload_n 2, 1) := by decide +kernel
theorem dX8_copy_107 : decode cX8_copy 107 = .ok (.aload 7, 2) := by decide +kernel
theorem dX8_copy_109 : decode cX8_copy 109 = .ok (.getfield 232, 3) := by decide +kernel
theorem dX8_copy_112 : decode cX8_copy 112 = .ok (.iload 4, 2) := by decide +kernel
theorem dX8_copy_114 : decode cX8_copy 114 = .ok (.iload 5, 2) := by decide +kernel
theorem dX8_copy_116 : decode cX8_copy 116 = .ok (.invokestatic 235, 3) := by decide +kernel
theorem dX8_copy_119 : decode cX8_copy 119 = .ok (.iload 5, 2) := by decide +kernel
theorem dX8_copy_121 : decode cX8_copy 121 = .ok (.ireturn, 1) := by decide +kernel
theorem dX8_tell_0 : decode cX8_tell 0 = .ok (.aload_n 0, 1) := by decide +kernel
theorem dX8_tell_1 : decode cX8_tell 1 = .ok (.iload_n 1, 1) := by decide +kernel
theorem dX8_tell_2 : decode cX8_tell 2 = .ok (.invokevirtual 87, 3) := by decide +kernel
theorem dX8_tell_5 : decode cX8_tell 5 = .ok (.astore_n 2, 1) := by decide +kernel
theorem dX8_tell_6 : decode cX8_tell 6 = .ok (.aload_n 2, 1) := by decide +kernel
theorem dX8_tell_7 : decode cX8_tell 7 = .ok (.ifnonnull 7, 3) := by decide +kernel
theorem dX8_tell_10 : decode cX8_tell 10 = .ok (.iconst (-1), 1) := by decide +kernel
theorem dX8_tell_11 : decode cX8_tell 11 = .ok (.goto 11, 3) := by decide +kernel
theorem dX8_tell_14 : decode cX8_tell 14 = .ok (.aload_n 2, 1) := by decide +kernel
theorem dX8_tell_15 : decode cX8_tell 15 = .ok (.aload_n 0, 1) := by decide +kernel
theorem dX8_tell_16 : decode cX8_tell 16 = .ok (.getfield 51, 3) := by decide +kernel
theorem dX8_tell_19 : decode cX8_tell 19 = .ok (.invokevirtual 241, 3) := by decide +kernel
theorem dX8_tell_22 : decode cX8_tell 22 = .ok (.ireturn, 1) := by decide +kernel
theorem dX8_hear_0 : decode cX8_hear 0 = .ok (.aload_n 0, 1) := by decide +kernel
theorem dX8_hear_1 : decode cX8_hear 1 = .ok (.iload_n 1, 1) := by decide +kernel
theorem dX8_hear_2 : decode cX8_hear 2 = .ok (.invokevirtual 87, 3) := by decide +kernel
theorem dX8_hear_5 : decode cX8_hear 5 = .ok (.astore_n 2, 1) := by decide +kernel
theorem dX8_hear_6 : decode cX8_hear 6 = .ok (.aload_n 2, 1) := by decide +kernel
theorem dX8_hear_7 : decode cX8_hear 7 = .ok (.ifnonnull 7, 3) := by decide +kernel
theorem dX8_hear_10 : decode cX8_hear 10 = .ok (.iconst (-1), 1) := by decide +kernel
theorem dX8_hear_11 : decode cX8_hear 11 = .ok (.goto 11, 3) := by decide +kernel
theorem dX8_hear_14 : decode cX8_hear 14 = .ok (.aload_n 2, 1) := by decide +kernel
theorem dX8_hear_15 : decode cX8_hear 15 = .ok (.aload_n 0, 1) := by decide +kernel
theorem dX8_hear_16 : decode cX8_hear 16 = .ok (.getfield 51, 3) := by decide +kernel
theorem dX8_hear_19 : decode cX8_hear 19 = .ok (.invokevirtual 245, 3) := by decide +kernel
theorem dX8_hear_22 : decode cX8_hear 22 = .ok (.ireturn, 1) := by decide +kernel
theorem dX8_as_0 : decode cX8_as 0 = .ok (.aload_n 0, 1) := by decide +kernel
theorem dX8_as_1 : decode cX8_as 1 = .ok (.iconst 0, 1) := by decide +kernel
theorem dX8_as_2 : decode cX8_as 2 = .ok (.putfield 56, 3) := by decide +kernel
theorem dX8_as_5 : decode cX8_as 5 = .ok (.aload_n 0, 1) := by decide +kernel
theorem dX8_as_6 : decode cX8_as 6 = .ok (.iload_n 1, 1) := by decide +kernel
theorem dX8_as_7 : decode cX8_as 7 = .ok (.invokevirtual 87, 3) := by decide +kernel
theorem dX8_as_10 : decode cX8_as 10 = .ok (.astore_n 3, 1) := by decide +kernel
theorem dX8_as_11 : decode cX8_as 11 = .ok (.aload_n 3, 1) := by decide +kernel
theorem dX8_as_12 : decode cX8_as 12 = .ok (.ifnonnull 5, 3) := by decide +kernel
theorem dX8_as_15 : decode cX8_as 15 = .ok (.iconst (-1), 1) := by decide +kernel
theorem dX8_as_16 : decode cX8_as 16 = .ok (.ireturn, 1) := by decide +kernel
theorem dX8_as_17 : decode cX8_as 17 = .ok (.iload_n 2, 1) := by decide +kernel
theorem dX8_as_18 : decode cX8_as 18 = .ok (.iconst 0, 1) := by decide +kernel
theorem dX8_as_19 : decode cX8_as 19 = .ok (.iconst 2, 1) := by decide +kernel
theorem dX8_as_20 : decode cX8_as 20 = .ok (.invokestatic 122, 3) := by decide +kernel
theorem dX8_as_23 : decode cX8_as 23 = .ok (.ifCond .ne 6, 3) := by decide +kernel
theorem dX8_as_26 : decode cX8_as 26 = .ok (.bipush (-2), 2) := by decide +kernel
theorem dX8_as_28 : decode cX8_as 28 = .ok (.ireturn, 1) := by decide +kernel
theorem dX8_as_29 : decode cX8_as 29 = .ok (.aload_n 3, 1) := by decide +kernel
theorem dX8_as_30 : decode cX8_as 30 = .ok (.iload_n 2, 1) := by decide +kernel
theorem dX8_as_31 : decode cX8_as 31 = .ok (.invokestatic 248, 3) := by decide +kernel
theorem dX8_as_34 : decode cX8_as 34 = .ok (.ifCond .eq 7, 3) := by decide +kernel
theorem dX8_as_37 : decode cX8_as 37 = .ok (.iconst 1, 1) := by decide +kernel
theorem dX8_as_38 : decode cX8_as 38 = .ok (.goto 8, 3) := by decide +kernel
theorem dX8_as_41 : decode cX8_as 41 = .ok (.aload_n 0, 1) := by decide +kernel
theorem dX8_as_42 : decode cX8_as 42 = .ok (.iconst 2, 1) := by decide +kernel
theorem dX8_as_43 : decode cX8_as 43 = .ok (.invokevirtual 72, 3) := by decide +kernel
theorem dX8_as_46 : decode cX8_as 46 = .ok (.ireturn, 1) := by decide +kernel
theorem dX8_trace_0 : decode cX8_trace 0 = .ok (.aload_n 0, 1) := by decide +kernel
theorem dX8_trace_1 : decode cX8_trace 1 = .ok (.getfield 51, 3) := by decide +kernel
theorem dX8_trace_4 : decode cX8_trace 4 = .ok (.getfield 252, 3) := by decide +kernel
theorem dX8_trace_7 : decode cX8_trace 7 = .ok (.ireturn, 1) := by decide +kernel
theorem dX8_fault_0 : decode cX8_fault 0 = .ok (.aload_n 0, 1) := by decide +kernel
theorem dX8_fault_1 : decode cX8_fault 1 = .ok (.getfield 56, 3) := by decide +kernel
theorem dX8_fault_4 : decode cX8_fault 4 = .ok (.ireturn, 1) := by decide +kernel
theorem dX8_many_0 : decode cX8_many 0 = .ok (.iload_n 1, 1) := by decide +kernel
theorem dX8_many_1 : decode cX8_many 1 = .ok (.tableswitch 66 0 4 #[35, 40, 45, 53, 58], 35) := by decide +kernel
theorem dX8_many_36 : decode cX8_many 36 = .ok (.aload_n 0, 1) := by decide +kernel
theorem dX8_many_37 : decode cX8_many 37 = .ok (.getfield 84, 3) := by decide +kernel
theorem dX8_many_40 : decode cX8_many 40 = .ok (.ireturn, 1) := by decide +kernel
theorem dX8_many_41 : decode cX8_many 41 = .ok (.aload_n 0, 1) := by decide +kernel
theorem dX8_many_42 : decode cX8_many 42 = .ok (.getfield 126, 3) := by decide +kernel
theorem dX8_many_45 : decode cX8_many 45 = .ok (.ireturn, 1) := by decide +kernel
theorem dX8_many_46 : decode cX8_many 46 = .ok (.aload_n 0, 1) := by decide +kernel
theorem dX8_many_47 : decode cX8_many 47 = .ok (.getfield 109, 3) := by decide +kernel
theorem dX8_many_50 : decode cX8_many 50 = .ok (.invokestatic 150, 3) := by decide +kernel
theorem dX8_many_53 : decode cX8_many 53 = .ok (.ireturn, 1) := by decide +kernel
theorem dX8_many_54 : decode cX8_many 54 = .ok (.aload_n 0, 1) := by decide +kernel
theorem dX8_many_55 : decode cX8_many 55 = .ok (.getfield 158, 3) := by decide +kernel
theorem dX8_many_58 : decode cX8_many 58 = .ok (.ireturn, 1) := by decide +kernel
theorem dX8_many_59 : decode cX8_many 59 = .ok (.aload_n 0, 1) := by decide +kernel
theorem dX8_many_60 : decode cX8_many 60 = .ok (.getfield 44, 3) := by decide +kernel
theorem dX8_many_63 : decode cX8_many 63 = .ok (.getfield 202, 3) := by decide +kernel
theorem dX8_many_66 : decode cX8_many 66 = .ok (.ireturn, 1) := by decide +kernel
theorem dX8_many_67 : decode cX8_many 67 = .ok (.bipush (-2), 2) := by decide +kernel
theorem dX8_many_69 : decode cX8_many 69 = .ok (.ireturn, 1) := by decide +kernel
theorem dX8_isWithin_0 : decode cX8_isWithin 0 = .ok (.iload_n 0, 1) := by decide +kernel
theorem dX8_isWithin_1 : decode cX8_isWithin 1 = .ok (.iload_n 1, 1) := by decide +kernel
theorem dX8_isWithin_2 : decode cX8_isWithin 2 = .ok (.if_icmp .lt 12, 3) := by decide +kernel
theorem dX8_isWithin_5 : decode cX8_isWithin 5 = .ok (.iload_n 0, 1) := by decide +kernel
theorem dX8_isWithin_6 : decode cX8_isWithin 6 = .ok (.iload_n 2, 1) := by decide +kernel
theorem dX8_isWithin_7 : decode cX8_isWithin 7 = .ok (.if_icmp .gt 7, 3) := by decide +kernel
theorem dX8_isWithin_10 : decode cX8_isWithin 10 = .ok (.iconst 1, 1) := by decide +kernel
theorem dX8_isWithin_11 : decode cX8_isWithin 11 = .ok (.goto 4, 3) := by decide +kernel
theorem dX8_isWithin_14 : decode cX8_isWithin 14 = .ok (.iconst 0, 1) := by decide +kernel
theorem dX8_isWithin_15 : decode cX8_isWithin 15 = .ok (.ireturn, 1) := by decide +kernel
theorem dX8_isLane_0 : decode cX8_isLane 0 = .ok (.iload_n 0, 1) := by decide +kernel
theorem dX8_isLane_1 : decode cX8_isLane 1 = .ok (.iconst 0, 1) := by decide +kernel
theorem dX8_isLane_2 : decode cX8_isLane 2 = .ok (.iconst 2, 1) := by decide +kernel
theorem dX8_isLane_3 : decode cX8_isLane 3 = .ok (.invokestatic 122, 3) := by decide +kernel
theorem dX8_isLane_6 : decode cX8_isLane 6 = .ok (.ireturn, 1) := by decide +kernel
theorem dX8_bit_0 : decode cX8_bit 0 = .ok (.iconst 1, 1) := by decide +kernel
theorem dX8_bit_1 : decode cX8_bit 1 = .ok (.iload_n 0, 1) := by decide +kernel
theorem dX8_bit_2 : decode cX8_bit 2 = .ok (.ishl, 1) := by decide +kernel
theorem dX8_bit_3 : decode cX8_bit 3 = .ok (.ireturn, 1) := by decide +kernel
theorem dX8_has_0 : decode cX8_has 0 = .ok (.iload_n 0, 1) := by decide +kernel
theorem dX8_has_1 : decode cX8_has 1 = .ok (.iload_n 1, 1) := by decide +kernel
theorem dX8_has_2 : decode cX8_has 2 = .ok (.invokestatic 137, 3) := by decide +kernel
theorem dX8_has_5 : decode cX8_has 5 = .ok (.iand, 1) := by decide +kernel
theorem dX8_has_6 : decode cX8_has 6 = .ok (.ifCond .eq 7, 3) := by decide +kernel
theorem dX8_has_9 : decode cX8_has 9 = .ok (.iconst 1, 1) := by decide +kernel
theorem dX8_has_10 : decode cX8_has 10 = .ok (.goto 4, 3) := by decide +kernel
theorem dX8_has_13 : decode cX8_has 13 = .ok (.iconst 0, 1) := by decide +kernel
theorem dX8_has_14 : decode cX8_has 14 = .ok (.ireturn, 1) := by decide +kernel
theorem dX8_everybody_0 : decode cX8_everybody 0 = .ok (.aload_n 0, 1) := by decide +kernel
theorem dX8_everybody_1 : decode cX8_everybody 1 = .ok (.getfield 84, 3) := by decide +kernel
theorem dX8_everybody_4 : decode cX8_everybody 4 = .ok (.invokestatic 137, 3) := by decide +kernel
theorem dX8_everybody_7 : decode cX8_everybody 7 = .ok (.iconst 1, 1) := by decide +kernel
theorem dX8_everybody_8 : decode cX8_everybody 8 = .ok (.isub, 1) := by decide +kernel
theorem dX8_everybody_9 : decode cX8_everybody 9 = .ok (.ireturn, 1) := by decide +kernel
theorem dX8_sheetAt_0 : decode cX8_sheetAt 0 = .ok (.iload_n 1, 1) := by decide +kernel
theorem dX8_sheetAt_1 : decode cX8_sheetAt 1 = .ok (.ifCond .lt 17, 3) := by decide +kernel
theorem dX8_sheetAt_4 : decode cX8_sheetAt 4 = .ok (.iload_n 1, 1) := by decide +kernel
theorem dX8_sheetAt_5 : decode cX8_sheetAt 5 = .ok (.iconst 4, 1) := by decide +kernel
theorem dX8_sheetAt_6 : decode cX8_sheetAt 6 = .ok (.if_icmp .ge 12, 3) := by decide +kernel
theorem dX8_sheetAt_9 : decode cX8_sheetAt 9 = .ok (.aload_n 0, 1) := by decide +kernel
theorem dX8_sheetAt_10 : decode cX8_sheetAt 10 = .ok (.getfield 13, 3) := by decide +kernel
theorem dX8_sheetAt_13 : decode cX8_sheetAt 13 = .ok (.iload_n 1, 1) := by decide +kernel
theorem dX8_sheetAt_14 : decode cX8_sheetAt 14 = .ok (.aaload, 1) := by decide +kernel
theorem dX8_sheetAt_15 : decode cX8_sheetAt 15 = .ok (.goto 4, 3) := by decide +kernel
theorem dX8_sheetAt_18 : decode cX8_sheetAt 18 = .ok (.aconst_null, 1) := by decide +kernel
theorem dX8_sheetAt_19 : decode cX8_sheetAt 19 = .ok (.areturn, 1) := by decide +kernel
theorem dX8_personAt_0 : decode cX8_personAt 0 = .ok (.iload_n 1, 1) := by decide +kernel
theorem dX8_personAt_1 : decode cX8_personAt 1 = .ok (.ifCond .lt 20, 3) := by decide +kernel
theorem dX8_personAt_4 : decode cX8_personAt 4 = .ok (.iload_n 1, 1) := by decide +kernel
theorem dX8_personAt_5 : decode cX8_personAt 5 = .ok (.aload_n 0, 1) := by decide +kernel
theorem dX8_personAt_6 : decode cX8_personAt 6 = .ok (.getfield 84, 3) := by decide +kernel
theorem dX8_personAt_9 : decode cX8_personAt 9 = .ok (.if_icmp .ge 12, 3) := by decide +kernel
theorem dX8_personAt_12 : decode cX8_personAt 12 = .ok (.aload_n 0, 1) := by decide +kernel
theorem dX8_personAt_13 : decode cX8_personAt 13 = .ok (.getfield 19, 3) := by decide +kernel
theorem dX8_personAt_16 : decode cX8_personAt 16 = .ok (.iload_n 1, 1) := by decide +kernel
theorem dX8_personAt_17 : decode cX8_personAt 17 = .ok (.aaload, 1) := by decide +kernel
theorem dX8_personAt_18 : decode cX8_personAt 18 = .ok (.goto 4, 3) := by decide +kernel
theorem dX8_personAt_21 : decode cX8_personAt 21 = .ok (.aconst_null, 1) := by decide +kernel
theorem dX8_personAt_22 : decode cX8_personAt 22 = .ok (.areturn, 1) := by decide +kernel
theorem dX8_areTwo_0 : decode cX8_areTwo 0 = .ok (.aload_n 0, 1) := by decide +kernel
theorem dX8_areTwo_1 : decode cX8_areTwo 1 = .ok (.iload_n 1, 1) := by decide +kernel
theorem dX8_areTwo_2 : decode cX8_areTwo 2 = .ok (.invokevirtual 87, 3) := by decide +kernel
theorem dX8_areTwo_5 : decode cX8_areTwo 5 = .ok (.ifnull 20, 3) := by decide +kernel
theorem dX8_areTwo_8 : decode cX8_areTwo 8 = .ok (.aload_n 0, 1) := by decide +kernel
theorem dX8_areTwo_9 : decode cX8_areTwo 9 = .ok (.iload_n 2, 1) := by decide +kernel
theorem dX8_areTwo_10 : decode cX8_areTwo 10 = .ok (.invokevirtual 87, 3) := by decide +kernel
theorem dX8_areTwo_13 : decode cX8_areTwo 13 = .ok (.ifnull 12, 3) := by decide +kernel
theorem dX8_areTwo_16 : decode cX8_areTwo 16 = .ok (.iload_n 1, 1) := by decide +kernel
theorem dX8_areTwo_17 : decode cX8_areTwo 17 = .ok (.iload_n 2, 1) := by decide +kernel
theorem dX8_areTwo_18 : decode cX8_areTwo 18 = .ok (.if_icmp .eq 7, 3) := by decide +kernel
theorem dX8_areTwo_21 : decode cX8_areTwo 21 = .ok (.iconst 1, 1) := by decide +kernel
theorem dX8_areTwo_22 : decode cX8_areTwo 22 = .ok (.goto 4, 3) := by decide +kernel
theorem dX8_areTwo_25 : decode cX8_areTwo 25 = .ok (.iconst 0, 1) := by decide +kernel
theorem dX8_areTwo_26 : decode cX8_areTwo 26 = .ok (.ireturn, 1) := by decide +kernel
theorem dX8_faulted_0 : decode cX8_faulted 0 = .ok (.aload_n 0, 1) := by decide +kernel
theorem dX8_faulted_1 : decode cX8_faulted 1 = .ok (.iload_n 1, 1) := by decide +kernel
theorem dX8_faulted_2 : decode cX8_faulted 2 = .ok (.putfield 56, 3) := by decide +kernel
theorem dX8_faulted_5 : decode cX8_faulted 5 = .ok (.bipush (-10), 2) := by decide +kernel
theorem dX8_faulted_7 : decode cX8_faulted 7 = .ok (.iload_n 1, 1) := by decide +kernel
theorem dX8_faulted_8 : decode cX8_faulted 8 = .ok (.isub, 1) := by decide +kernel
theorem dX8_faulted_9 : decode cX8_faulted 9 = .ok (.ireturn, 1) := by decide +kernel
theorem dX8_faultOfTaking_0 : decode cX8_faultOfTaking 0 = .ok (.aload_n 0, 1) := by decide +kernel
theorem dX8_faultOfTaking_1 : decode cX8_faultOfTaking 1 = .ok (.getfield 216, 3) := by decide +kernel
theorem dX8_faultOfTaking_4 : decode cX8_faultOfTaking 4 = .ok (.ifCond .ne 5, 3) := by decide +kernel
theorem dX8_faultOfTaking_7 : decode cX8_faultOfTaking 7 = .ok (.iconst 1, 1) := by decide +kernel
theorem dX8_faultOfTaking_8 : decode cX8_faultOfTaking 8 = .ok (.ireturn, 1) := by decide +kernel
theorem dX8_faultOfTaking_9 : decode cX8_faultOfTaking 9 = .ok (.aload_n 0, 1) := by decide +kernel
theorem dX8_faultOfTaking_10 : decode cX8_faultOfTaking 10 = .ok (.getfield 220, 3) := by decide +kernel
theorem dX8_faultOfTaking_13 : decode cX8_faultOfTaking 13 = .ok (.iload_n 1, 1) := by decide +kernel
theorem dX8_faultOfTaking_14 : decode cX8_faultOfTaking 14 = .ok (.if_icmp .eq 5, 3) := by decide +kernel
theorem dX8_faultOfTaking_17 : decode cX8_faultOfTaking 17 = .ok (.iconst 2, 1) := by decide +kernel
theorem dX8_faultOfTaking_18 : decode cX8_faultOfTaking 18 = .ok (.ireturn, 1) := by decide +kernel
theorem dX8_faultOfTaking_19 : decode cX8_faultOfTaking 19 = .ok (.iload_n 3, 1) := by decide +kernel
theorem dX8_faultOfTaking_20 : decode cX8_faultOfTaking 20 = .ok (.ifCond .ge 5, 3) := by decide +kernel
theorem dX8_faultOfTaking_23 : decode cX8_faultOfTaking 23 = .ok (.iconst 4, 1) := by decide +kernel
theorem dX8_faultOfTaking_24 : decode cX8_faultOfTaking 24 = .ok (.ireturn, 1) := by decide +kernel
theorem dX8_faultOfTaking_25 : decode cX8_faultOfTaking 25 = .ok (.aload_n 0, 1) := by decide +kernel
theorem dX8_faultOfTaking_26 : decode cX8_faultOfTaking 26 = .ok (.iload_n 2, 1) := by decide +kernel
theorem dX8_faultOfTaking_27 : decode cX8_faultOfTaking 27 = .ok (.iload_n 3, 1) := by decide +kernel
theorem dX8_faultOfTaking_28 : decode cX8_faultOfTaking 28 = .ok (.invokevirtual 229, 3) := by decide +kernel
theorem dX8_faultOfTaking_31 : decode cX8_faultOfTaking 31 = .ok (.ifCond .eq 7, 3) := by decide +kernel
theorem dX8_faultOfTaking_34 : decode cX8_faultOfTaking 34 = .ok (.iconst 0, 1) := by decide +kernel
theorem dX8_faultOfTaking_35 : decode cX8_faultOfTaking 35 = .ok (.goto 4, 3) := by decide +kernel
theorem dX8_faultOfTaking_38 : decode cX8_faultOfTaking 38 = .ok (.iconst 3, 1) := by decide +kernel
theorem dX8_faultOfTaking_39 : decode cX8_faultOfTaking 39 = .ok (.ireturn, 1) := by decide +kernel
theorem dX8_isOneOf_0 : decode cX8_isOneOf 0 = .ok (.iload_n 1, 1) := by decide +kernel
theorem dX8_isOneOf_1 : decode cX8_isOneOf 1 = .ok (.lookupswitch 34 #[(0, 27), (1, 29)], 27) := by decide +kernel
theorem dX8_isOneOf_28 : decode cX8_isOneOf 28 = .ok (.iconst 1, 1) := by decide +kernel
theorem dX8_isOneOf_29 : decode cX8_isOneOf 29 = .ok (.ireturn, 1) := by decide +kernel
theorem dX8_isOneOf_30 : decode cX8_isOneOf 30 = .ok (.aload_n 0, 1) := by decide +kernel
theorem dX8_isOneOf_31 : decode cX8_isOneOf 31 = .ok (.instanceof 255, 3) := by decide +kernel
theorem dX8_isOneOf_34 : decode cX8_isOneOf 34 = .ok (.ireturn, 1) := by decide +kernel
theorem dX8_isOneOf_35 : decode cX8_isOneOf 35 = .ok (.aload_n 0, 1) := by decide +kernel
theorem dX8_isOneOf_36 : decode cX8_isOneOf 36 = .ok (.instanceof 257, 3) := by decide +kernel
theorem dX8_isOneOf_39 : decode cX8_isOneOf 39 = .ok (.ireturn, 1) := by decide +kernel
theorem dX8_wouldGo_0 : decode cX8_wouldGo 0 = .ok (.iload_n 0, 1) := by decide +kernel
theorem dX8_wouldGo_1 : decode cX8_wouldGo 1 = .ok (.lookupswitch 35 #[(1, 27), (2, 31)], 27) := by decide +kernel
theorem dX8_wouldGo_28 : decode cX8_wouldGo 28 = .ok (.iconst 2, 1) := by decide +kernel
theorem dX8_wouldGo_29 : decode cX8_wouldGo 29 = .ok (.iload_n 1, 1) := by decide +kernel
theorem dX8_wouldGo_30 : decode cX8_wouldGo 30 = .ok (.imul, 1) := by decide +kernel
theorem dX8_wouldGo_31 : decode cX8_wouldGo 31 = .ok (.ireturn, 1) := by decide +kernel
theorem dX8_wouldGo_32 : decode cX8_wouldGo 32 = .ok (.iload_n 1, 1) := by decide +kernel
theorem dX8_wouldGo_33 : decode cX8_wouldGo 33 = .ok (.iconst 2, 1) := by decide +kernel
theorem dX8_wouldGo_34 : decode cX8_wouldGo 34 = .ok (.idiv, 1) := by decide +kernel
theorem dX8_wouldGo_35 : decode cX8_wouldGo 35 = .ok (.ireturn, 1) := by decide +kernel
theorem dX8_wouldGo_36 : decode cX8_wouldGo 36 = .ok (.iload_n 1, 1) := by decide +kernel
theorem dX8_wouldGo_37 : decode cX8_wouldGo 37 = .ok (.ireturn, 1) := by decide +kernel
theorem dX8_mayGo_0 : decode cX8_mayGo 0 = .ok (.iload_n 1, 1) := by decide +kernel
theorem dX8_mayGo_1 : decode cX8_mayGo 1 = .ok (.iload_n 2, 1) := by decide +kernel
theorem dX8_mayGo_2 : decode cX8_mayGo 2 = .ok (.invokestatic 101, 3) := by decide +kernel
theorem dX8_mayGo_5 : decode cX8_mayGo 5 = .ok (.iload_n 3, 1) := by decide +kernel
theorem dX8_mayGo_6 : decode cX8_mayGo 6 = .ok (.aload_n 0, 1) := by decide +kernel
theorem dX8_mayGo_7 : decode cX8_mayGo 7 = .ok (.getfield 126, 3) := by decide +kernel
theorem dX8_mayGo_10 : decode cX8_mayGo 10 = .ok (.iadd, 1) := by decide +kernel
theorem dX8_mayGo_11 : decode cX8_mayGo 11 = .ok (.invokestatic 259, 3) := by decide +kernel
theorem dX8_mayGo_14 : decode cX8_mayGo 14 = .ok (.ireturn, 1) := by decide +kernel
theorem dX8_maysNow_0 : decode cX8_maysNow 0 = .ok (.iconst 0, 1) := by decide +kernel
theorem dX8_maysNow_1 : decode cX8_maysNow 1 = .ok (.istore_n 1, 1) := by decide +kernel
theorem dX8_maysNow_2 : decode cX8_maysNow 2 = .ok (.iload_n 1, 1) := by decide +kernel
theorem dX8_maysNow_3 : decode cX8_maysNow 3 = .ok (.bipush 6, 2) := by decide +kernel
theorem dX8_maysNow_5 : decode cX8_maysNow 5 = .ok (.if_icmp .ge 45, 3) := by decide +kernel
theorem dX8_maysNow_8 : decode cX8_maysNow 8 = .ok (.aload_n 0, 1) := by decide +kernel
theorem dX8_maysNow_9 : decode cX8_maysNow 9 = .ok (.iload_n 1, 1) := by decide +kernel
theorem dX8_maysNow_10 : decode cX8_maysNow 10 = .ok (.invokevirtual 87, 3) := by decide +kernel
theorem dX8_maysNow_13 : decode cX8_maysNow 13 = .ok (.astore_n 2, 1) := by decide +kernel
theorem dX8_maysNow_14 : decode cX8_maysNow 14 = .ok (.aload_n 0, 1) := by decide +kernel
theorem dX8_maysNow_15 : decode cX8_maysNow 15 = .ok (.getfield 23, 3) := by decide +kernel
theorem dX8_maysNow_18 : decode cX8_maysNow 18 = .ok (.iload_n 1, 1) := by decide +kernel
theorem dX8_maysNow_19 : decode cX8_maysNow 19 = .ok (.aload_n 2, 1) := by decide +kernel
theorem dX8_maysNow_20 : decode cX8_maysNow 20 = .ok (.ifnonnull 7, 3) := by decide +kernel
theorem dX8_maysNow_23 : decode cX8_maysNow 23 = .ok (.iconst 0, 1) := by decide +kernel
theorem dX8_maysNow_24 : decode cX8_maysNow 24 = .ok (.goto 19, 3) := by decide +kernel
theorem dX8_maysNow_27 : decode cX8_maysNow 27 = .ok (.aload_n 0, 1) := by decide +kernel
theorem dX8_maysNow_28 : decode cX8_maysNow 28 = .ok (.aload_n 2, 1) := by decide +kernel
theorem dX8_maysNow_29 : decode cX8_maysNow 29 = .ok (.invokevirtual 91, 3) := by decide +kernel
theorem dX8_maysNow_32 : decode cX8_maysNow 32 = .ok (.aload_n 2, 1) := by decide +kernel
theorem dX8_maysNow_33 : decode cX8_maysNow 33 = .ok (.getfield 95, 3) := by decide +kernel
theorem dX8_maysNow_36 : decode cX8_maysNow 36 = .ok (.aload_n 2, 1) := by decide +kernel
theorem dX8_maysNow_37 : decode cX8_maysNow 37 = .ok (.getfield 98, 3) := by decide +kernel
theorem dX8_maysNow_40 : decode cX8_maysNow 40 = .ok (.invokevirtual 105, 3) := by decide +kernel
theorem dX8_maysNow_43 : decode cX8_maysNow 43 = .ok (.iastore, 1) := by decide +kernel
theorem dX8_maysNow_44 : decode cX8_maysNow 44 = .ok (.iinc 1 1, 3) := by decide +kernel
theorem dX8_maysNow_47 : decode cX8_maysNow 47 = .ok (.goto (-45), 3) := by decide +kernel
theorem dX8_maysNow_50 : decode cX8_maysNow 50 = .ok (.aload_n 0, 1) := by decide +kernel
theorem dX8_maysNow_51 : decode cX8_maysNow 51 = .ok (.getfield 23, 3) := by decide +kernel
theorem dX8_maysNow_54 : decode cX8_maysNow 54 = .ok (.areturn, 1) := by decide +kernel
theorem dX8_hasteOf_0 : decode cX8_hasteOf 0 = .ok (.aload_n 0, 1) := by decide +kernel
theorem dX8_hasteOf_1 : decode cX8_hasteOf 1 = .ok (.iload_n 1, 1) := by decide +kernel
theorem dX8_hasteOf_2 : decode cX8_hasteOf 2 = .ok (.invokevirtual 87, 3) := by decide +kernel
theorem dX8_hasteOf_5 : decode cX8_hasteOf 5 = .ok (.astore_n 2, 1) := by decide +kernel
theorem dX8_hasteOf_6 : decode cX8_hasteOf 6 = .ok (.aload_n 2, 1) := by decide +kernel
theorem dX8_hasteOf_7 : decode cX8_hasteOf 7 = .ok (.ifnonnull 7, 3) := by decide +kernel
theorem dX8_hasteOf_10 : decode cX8_hasteOf 10 = .ok (.iconst 0, 1) := by decide +kernel
theorem dX8_hasteOf_11 : decode cX8_hasteOf 11 = .ok (.goto 7, 3) := by decide +kernel
theorem dX8_hasteOf_14 : decode cX8_hasteOf 14 = .ok (.aload_n 2, 1) := by decide +kernel
theorem dX8_hasteOf_15 : decode cX8_hasteOf 15 = .ok (.getfield 95, 3) := by decide +kernel
theorem dX8_hasteOf_18 : decode cX8_hasteOf 18 = .ok (.ireturn, 1) := by decide +kernel
theorem dX8_firstFault_0 : decode cX8_firstFault 0 = .ok (.iconst 0, 1) := by decide +kernel
theorem dX8_firstFault_1 : decode cX8_firstFault 1 = .ok (.istore_n 3, 1) := by decide +kernel
theorem dX8_firstFault_2 : decode cX8_firstFault 2 = .ok (.iload_n 3, 1) := by decide +kernel
theorem dX8_firstFault_3 : decode cX8_firstFault 3 = .ok (.iload_n 2, 1) := by decide +kernel
theorem dX8_firstFault_4 : decode cX8_firstFault 4 = .ok (.if_icmp .ge 25, 3) := by decide +kernel
theorem dX8_firstFault_7 : decode cX8_firstFault 7 = .ok (.aload_n 0, 1) := by decide +kernel
theorem dX8_firstFault_8 : decode cX8_firstFault 8 = .ok (.iload_n 1, 1) := by decide +kernel
theorem dX8_firstFault_9 : decode cX8_firstFault 9 = .ok (.iload_n 3, 1) := by decide +kernel
theorem dX8_firstFault_10 : decode cX8_firstFault 10 = .ok (.iadd, 1) := by decide +kernel
theorem dX8_firstFault_11 : decode cX8_firstFault 11 = .ok (.invokevirtual 226, 3) := by decide +kernel
theorem dX8_firstFault_14 : decode cX8_firstFault 14 = .ok (.iload_n 3, 1) := by decide +kernel
theorem dX8_firstFault_15 : decode cX8_firstFault 15 = .ok (.invokestatic 264, 3) := by decide +kernel
theorem dX8_firstFault_18 : decode cX8_firstFault 18 = .ok (.ifCond .ne 5, 3) := by decide +kernel
theorem dX8_firstFault_21 : decode cX8_firstFault 21 = .ok (.iload_n 3, 1) := by decide +kernel
theorem dX8_firstFault_22 : decode cX8_firstFault 22 = .ok (.ireturn, 1) := by decide +kernel
theorem dX8_firstFault_23 : decode cX8_firstFault 23 = .ok (.iinc 3 1, 3) := by decide +kernel
theorem dX8_firstFault_26 : decode cX8_firstFault 26 = .ok (.goto (-24), 3) := by decide +kernel
theorem dX8_firstFault_29 : decode cX8_firstFault 29 = .ok (.iload_n 2, 1) := by decide +kernel
theorem dX8_firstFault_30 : decode cX8_firstFault 30 = .ok (.bipush 10, 2) := by decide +kernel
theorem dX8_firstFault_32 : decode cX8_firstFault 32 = .ok (.if_icmp .lt 15, 3) := by decide +kernel
theorem dX8_firstFault_35 : decode cX8_firstFault 35 = .ok (.iload_n 2, 1) := by decide +kernel
theorem dX8_firstFault_36 : decode cX8_firstFault 36 = .ok (.iconst 2, 1) := by decide +kernel
theorem dX8_firstFault_37 : decode cX8_firstFault 37 = .ok (.isub, 1) := by decide +kernel
theorem dX8_firstFault_38 : decode cX8_firstFault 38 = .ok (.iconst 4, 1) := by decide +kernel
theorem dX8_firstFault_39 : decode cX8_firstFault 39 = .ok (.irem, 1) := by decide +kernel
theorem dX8_firstFault_40 : decode cX8_firstFault 40 = .ok (.ifCond .ne 7, 3) := by decide +kernel
theorem dX8_firstFault_43 : decode cX8_firstFault 43 = .ok (.iconst 1, 1) := by decide +kernel
theorem dX8_firstFault_44 : decode cX8_firstFault 44 = .ok (.goto 4, 3) := by decide +kernel
theorem dX8_firstFault_47 : decode cX8_firstFault 47 = .ok (.iconst 0, 1) := by decide +kernel
theorem dX8_firstFault_48 : decode cX8_firstFault 48 = .ok (.istore_n 3, 1) := by decide +kernel
theorem dX8_firstFault_49 : decode cX8_firstFault 49 = .ok (.iload_n 3, 1) := by decide +kernel
theorem dX8_firstFault_50 : decode cX8_firstFault 50 = .ok (.ifCond .eq 8, 3) := by decide +kernel
theorem dX8_firstFault_53 : decode cX8_firstFault 53 = .ok (.bipush (-9), 2) := by decide +kernel
theorem dX8_firstFault_55 : decode cX8_firstFault 55 = .ok (.goto 4, 3) := by decide +kernel
theorem dX8_firstFault_58 : decode cX8_firstFault 58 = .ok (.iload_n 2, 1) := by decide +kernel
theorem dX8_firstFault_59 : decode cX8_firstFault 59 = .ok (.ireturn, 1) := by decide +kernel
theorem dX8_isFit_0 : decode cX8_isFit 0 = .ok (.iload_n 1, 1) := by decide +kernel
theorem dX8_isFit_1 : decode cX8_isFit 1 = .ok (.bipush 26, 2) := by decide +kernel
theorem dX8_isFit_3 : decode cX8_isFit 3 = .ok (.if_icmp .lt 5, 3) := by decide +kernel
theorem dX8_isFit_6 : decode cX8_isFit 6 = .ok (.iconst 0, 1) := by decide +kernel
theorem dX8_isFit_7 : decode cX8_isFit 7 = .ok (.ireturn, 1) := by decide +kernel
theorem dX8_isFit_8 : decode cX8_isFit 8 = .ok (.iload_n 1, 1) := by decide +kernel
theorem dX8_isFit_9 : decode cX8_isFit 9 = .ok (.iconst 2, 1) := by decide +kernel
theorem dX8_isFit_10 : decode cX8_isFit 10 = .ok (.if_icmp .ge 26, 3) := by decide +kernel
theorem dX8_isFit_13 : decode cX8_isFit 13 = .ok (.iload_n 1, 1) := by decide +kernel
theorem dX8_isFit_14 : decode cX8_isFit 14 = .ok (.ifCond .ne 17, 3) := by decide +kernel
theorem dX8_isFit_17 : decode cX8_isFit 17 = .ok (.iload_n 0, 1) := by decide +kernel
theorem dX8_isFit_18 : decode cX8_isFit 18 = .ok (.bipush 109, 2) := by decide +kernel
theorem dX8_isFit_20 : decode cX8_isFit 20 = .ok (.if_icmp .ne 7, 3) := by decide +kernel
theorem dX8_isFit_23 : decode cX8_isFit 23 = .ok (.iconst 1, 1) := by decide +kernel
theorem dX8_isFit_24 : decode cX8_isFit 24 = .ok (.goto 11, 3) := by decide +kernel
theorem dX8_isFit_27 : decode cX8_isFit 27 = .ok (.iconst 0, 1) := by decide +kernel
theorem dX8_isFit_28 : decode cX8_isFit 28 = .ok (.goto 7, 3) := by decide +kernel
theorem dX8_isFit_31 : decode cX8_isFit 31 = .ok (.iload_n 0, 1) := by decide +kernel
theorem dX8_isFit_32 : decode cX8_isFit 32 = .ok (.invokestatic 267, 3) := by decide +kernel
theorem dX8_isFit_35 : decode cX8_isFit 35 = .ok (.ireturn, 1) := by decide +kernel
theorem dX8_isFit_36 : decode cX8_isFit 36 = .ok (.iload_n 1, 1) := by decide +kernel
theorem dX8_isFit_37 : decode cX8_isFit 37 = .ok (.iconst 2, 1) := by decide +kernel
theorem dX8_isFit_38 : decode cX8_isFit 38 = .ok (.isub, 1) := by decide +kernel
theorem dX8_isFit_39 : decode cX8_isFit 39 = .ok (.iconst 4, 1) := by decide +kernel
theorem dX8_isFit_40 : decode cX8_isFit 40 = .ok (.irem, 1) := by decide +kernel
theorem dX8_isFit_41 : decode cX8_isFit 41 = .ok (.lookupswitch 63 #[(0, 27), (1, 39)], 27) := by decide +kernel
theorem dX8_isFit_68 : decode cX8_isFit 68 = .ok (.iload_n 0, 1) := by decide +kernel
theorem dX8_isFit_69 : decode cX8_isFit 69 = .ok (.bipush 59, 2) := by decide +kernel
theorem dX8_isFit_71 : decode cX8_isFit 71 = .ok (.if_icmp .ne 7, 3) := by decide +kernel
theorem dX8_isFit_74 : decode cX8_isFit 74 = .ok (.iconst 1, 1) := by decide +kernel
theorem dX8_isFit_75 : decode cX8_isFit 75 = .ok (.goto 4, 3) := by decide +kernel
theorem dX8_isFit_78 : decode cX8_isFit 78 = .ok (.iconst 0, 1) := by decide +kernel
theorem dX8_isFit_79 : decode cX8_isFit 79 = .ok (.ireturn, 1) := by decide +kernel
theorem dX8_isFit_80 : decode cX8_isFit 80 = .ok (.iload_n 0, 1) := by decide +kernel
theorem dX8_isFit_81 : decode cX8_isFit 81 = .ok (.bipush 112, 2) := by decide +kernel
theorem dX8_isFit_83 : decode cX8_isFit 83 = .ok (.if_icmp .eq 15, 3) := by decide +kernel
theorem dX8_isFit_86 : decode cX8_isFit 86 = .ok (.iload_n 0, 1) := by decide +kernel
theorem dX8_isFit_87 : decode cX8_isFit 87 = .ok (.bipush 117, 2) := by decide +kernel
theorem dX8_isFit_89 : decode cX8_isFit 89 = .ok (.if_icmp .eq 9, 3) := by decide +kernel
theorem dX8_isFit_92 : decode cX8_isFit 92 = .ok (.iload_n 0, 1) := by decide +kernel
theorem dX8_isFit_93 : decode cX8_isFit 93 = .ok (.bipush 108, 2) := by decide +kernel
theorem dX8_isFit_95 : decode cX8_isFit 95 = .ok (.if_icmp .ne 7, 3) := by decide +kernel
theorem dX8_isFit_98 : decode cX8_isFit 98 = .ok (.iconst 1, 1) := by decide +kernel
theorem dX8_isFit_99 : decode cX8_isFit 99 = .ok (.goto 4, 3) := by decide +kernel
theorem dX8_isFit_102 : decode cX8_isFit 102 = .ok (.iconst 0, 1) := by decide +kernel
theorem dX8_isFit_103 : decode cX8_isFit 103 = .ok (.ireturn, 1) := by decide +kernel
theorem dX8_isFit_104 : decode cX8_isFit 104 = .ok (.iload_n 0, 1) := by decide +kernel
theorem dX8_isFit_105 : decode cX8_isFit 105 = .ok (.invokestatic 267, 3) := by decide +kernel
theorem dX8_isFit_108 : decode cX8_isFit 108 = .ok (.ireturn, 1) := by decide +kernel
theorem dX8_isDigit_0 : decode cX8_isDigit 0 = .ok (.iload_n 0, 1) := by decide +kernel
theorem dX8_isDigit_1 : decode cX8_isDigit 1 = .ok (.bipush 48, 2) := by decide +kernel
theorem dX8_isDigit_3 : decode cX8_isDigit 3 = .ok (.bipush 57, 2) := by decide +kernel
theorem dX8_isDigit_5 : decode cX8_isDigit 5 = .ok (.invokestatic 122, 3) := by decide +kernel
theorem dX8_isDigit_8 : decode cX8_isDigit 8 = .ok (.ireturn, 1) := by decide +kernel
theorem dX8_takeText_0 : decode cX8_takeText 0 = .ok (.aload_n 0, 1) := by decide +kernel
theorem dX8_takeText_1 : decode cX8_takeText 1 = .ok (.aload_n 1, 1) := by decide +kernel
theorem dX8_takeText_2 : decode cX8_takeText 2 = .ok (.iload_n 2, 1) := by decide +kernel
theorem dX8_takeText_3 : decode cX8_takeText 3 = .ok (.iconst 1, 1) := by decide +kernel
theorem dX8_takeText_4 : decode cX8_takeText 4 = .ok (.iadd, 1) := by decide +kernel
theorem dX8_takeText_5 : decode cX8_takeText 5 = .ok (.invokevirtual 226, 3) := by decide +kernel
theorem dX8_takeText_8 : decode cX8_takeText 8 = .ok (.bipush 48, 2) := by decide +kernel
theorem dX8_takeText_10 : decode cX8_takeText 10 = .ok (.isub, 1) := by decide +kernel
theorem dX8_takeText_11 : decode cX8_takeText 11 = .ok (.putfield 126, 3) := by decide +kernel
theorem dX8_takeText_14 : decode cX8_takeText 14 = .ok (.aload_n 0, 1) := by decide +kernel
theorem dX8_takeText_15 : decode cX8_takeText 15 = .ok (.iload_n 3, 1) := by decide +kernel
theorem dX8_takeText_16 : decode cX8_takeText 16 = .ok (.iconst 2, 1) := by decide +kernel
theorem dX8_takeText_17 : decode cX8_takeText 17 = .ok (.isub, 1) := by decide +kernel
theorem dX8_takeText_18 : decode cX8_takeText 18 = .ok (.iconst 4, 1) := by decide +kernel
theorem dX8_takeText_19 : decode cX8_takeText 19 = .ok (.idiv, 1) := by decide +kernel
theorem dX8_takeText_20 : decode cX8_takeText 20 = .ok (.bipush 6, 2) := by decide +kernel
theorem dX8_takeText_22 : decode cX8_takeText 22 = .ok (.invokestatic 259, 3) := by decide +kernel
theorem dX8_takeText_25 : decode cX8_takeText 25 = .ok (.putfield 84, 3) := by decide +kernel
theorem dX8_takeText_28 : decode cX8_takeText 28 = .ok (.iconst 0, 1) := by decide +kernel
theorem dX8_takeText_29 : decode cX8_takeText 29 = .ok (.istore 4, 2) := by decide +kernel
theorem dX8_takeText_31 : decode cX8_takeText 31 = .ok (.iload 4, 2) := by decide +kernel
theorem dX8_takeText_33 : decode cX8_takeText 33 = .ok (.aload_n 0, 1) := by decide +kernel
theorem dX8_takeText_34 : decode cX8_takeText 34 = .ok (.getfield 84, 3) := by decide +kernel
theorem dX8_takeText_37 : decode cX8_takeText 37 = .ok (.if_icmp .ge 61, 3) := by decide +kernel
theorem dX8_takeText_40 : decode cX8_takeText 40 = .ok (.iload_n 2, 1) := by decide +kernel
theorem dX8_takeText_41 : decode cX8_takeText 41 = .ok (.iconst 2, 1) := by decide +kernel
theorem dX8_takeText_42 : decode cX8_takeText 42 = .ok (.iadd, 1) := by decide +kernel
theorem dX8_takeText_43 : decode cX8_takeText 43 = .ok (.iload 4, 2) := by decide +kernel
theorem dX8_takeText_45 : decode cX8_takeText 45 = .ok (.iconst 4, 1) := by decide +kernel
theorem dX8_takeText_46 : decode cX8_takeText 46 = .ok (.imul, 1) := by decide +kernel
theorem dX8_takeText_47 : decode cX8_takeText 47 = .ok (.iadd, 1) := by decide +kernel
theorem dX8_takeText_48 : decode cX8_takeText 48 = .ok (.istore 5, 2) := by decide +kernel
theorem dX8_takeText_50 : decode cX8_takeText 50 = .ok (.aload_n 0, 1) := by decide +kernel
theorem dX8_takeText_51 : decode cX8_takeText 51 = .ok (.getfield 19, 3) := by decide +kernel
theorem dX8_takeText_54 : decode cX8_takeText 54 = .ok (.iload 4, 2) := by decide +kernel
theorem dX8_takeText_56 : decode cX8_takeText 56 = .ok (.aload_n 1, 1) := by decide +kernel
theorem dX8_takeText_57 : decode cX8_takeText 57 = .ok (.iload 5, 2) := by decide +kernel
theorem dX8_takeText_59 : decode cX8_takeText 59 = .ok (.iconst 1, 1) := by decide +kernel
theorem dX8_takeText_60 : decode cX8_takeText 60 = .ok (.iadd, 1) := by decide +kernel
theorem dX8_takeText_61 : decode cX8_takeText 61 = .ok (.invokevirtual 226, 3) := by decide +kernel
theorem dX8_takeText_64 : decode cX8_takeText 64 = .ok (.iload 4, 2) := by decide +kernel
theorem dX8_takeText_66 : decode cX8_takeText 66 = .ok (.aload_n 1, 1) := by decide +kernel
theorem dX8_takeText_67 : decode cX8_takeText 67 = .ok (.iload 5, 2) := by decide +kernel
theorem dX8_takeText_69 : decode cX8_takeText 69 = .ok (.iconst 2, 1) := by decide +kernel
theorem dX8_takeText_70 : decode cX8_takeText 70 = .ok (.iadd, 1) := by decide +kernel
theorem dX8_takeText_71 : decode cX8_takeText 71 = .ok (.invokevirtual 226, 3) := by decide +kernel
theorem dX8_takeText_74 : decode cX8_takeText 74 = .ok (.bipush 48, 2) := by decide +kernel
theorem dX8_takeText_76 : decode cX8_takeText 76 = .ok (.isub, 1) := by decide +kernel
theorem dX8_takeText_77 : decode cX8_takeText 77 = .ok (.aload_n 1, 1) := by decide +kernel
theorem dX8_takeText_78 : decode cX8_takeText 78 = .ok (.iload 5, 2) := by decide +kernel
theorem dX8_takeText_80 : decode cX8_takeText 80 = .ok (.iconst 3, 1) := by decide +kernel
theorem dX8_takeText_81 : decode cX8_takeText 81 = .ok (.iadd, 1) := by decide +kernel
theorem dX8_takeText_82 : decode cX8_takeText 82 = .ok (.invokevirtual 226, 3) := by decide +kernel
theorem dX8_takeText_85 : decode cX8_takeText 85 = .ok (.bipush 48, 2) := by decide +kernel
theorem dX8_takeText_87 : decode cX8_takeText 87 = .ok (.isub, 1) := by decide +kernel
theorem dX8_takeText_88 : decode cX8_takeText 88 = .ok (.invokestatic 270, 3) := by decide +kernel
theorem dX8_takeText_91 : decode cX8_takeText 91 = .ok (.aastore, 1) := by decide +kernel
theorem dX8_takeText_92 : decode cX8_takeText 92 = .ok (.iinc 4 1, 3) := by decide +kernel
theorem dX8_takeText_95 : decode cX8_takeText 95 = .ok (.goto (-64), 3) := by decide +kernel
theorem dX8_takeText_98 : decode cX8_takeText 98 = .ok (.aload_n 0, 1) := by decide +kernel
theorem dX8_takeText_99 : decode cX8_takeText 99 = .ok (.aload_n 0, 1) := by decide +kernel
theorem dX8_takeText_100 : decode cX8_takeText 100 = .ok (.invokevirtual 155, 3) := by decide +kernel
theorem dX8_takeText_103 : decode cX8_takeText 103 = .ok (.putfield 109, 3) := by decide +kernel
theorem dX8_takeText_106 : decode cX8_takeText 106 = .ok (.aload_n 0, 1) := by decide +kernel
theorem dX8_takeText_107 : decode cX8_takeText 107 = .ok (.iconst 0, 1) := by decide +kernel
theorem dX8_takeText_108 : decode cX8_takeText 108 = .ok (.putfield 158, 3) := by decide +kernel
theorem dX8_takeText_111 : decode cX8_takeText 111 = .ok (.aload_n 0, 1) := by decide +kernel
theorem dX8_takeText_112 : decode cX8_takeText 112 = .ok (.getfield 37, 3) := by decide +kernel
theorem dX8_takeText_115 : decode cX8_takeText 115 = .ok (.invokevirtual 274, 3) := by decide +kernel
theorem dX8_takeText_118 : decode cX8_takeText 118 = .ok (.aload_n 0, 1) := by decide +kernel
theorem dX8_takeText_119 : decode cX8_takeText 119 = .ok (.getfield 44, 3) := by decide +kernel
theorem dX8_takeText_122 : decode cX8_takeText 122 = .ok (.iconst 0, 1) := by decide +kernel
theorem dX8_takeText_123 : decode cX8_takeText 123 = .ok (.putfield 202, 3) := by decide +kernel
theorem dX8_takeText_126 : decode cX8_takeText 126 = .ok (.return_, 1) := by decide +kernel
theorem dX8_newPerson_0 : decode cX8_newPerson 0 = .ok (.iload_n 0, 1) := by decide +kernel
theorem dX8_newPerson_1 : decode cX8_newPerson 1 = .ok (.lookupswitch 49 #[(108, 38), (117, 27)], 27) := by decide +kernel
theorem dX8_newPerson_28 : decode cX8_newPerson 28 = .ok (.new 255, 3) := by decide +kernel
theorem dX8_newPerson_31 : decode cX8_newPerson 31 = .ok (.dup, 1) := by decide +kernel
theorem dX8_newPerson_32 : decode cX8_newPerson 32 = .ok (.iload_n 1, 1) := by decide +kernel
theorem dX8_newPerson_33 : decode cX8_newPerson 33 = .ok (.iload_n 2, 1) := by decide +kernel
theorem dX8_newPerson_34 : decode cX8_newPerson 34 = .ok (.iload_n 3, 1) := by decide +kernel
theorem dX8_newPerson_35 : decode cX8_newPerson 35 = .ok (.invokespecial 277, 3) := by decide +kernel
theorem dX8_newPerson_38 : decode cX8_newPerson 38 = .ok (.areturn, 1) := by decide +kernel
theorem dX8_newPerson_39 : decode cX8_newPerson 39 = .ok (.new 257, 3) := by decide +kernel
theorem dX8_newPerson_42 : decode cX8_newPerson 42 = .ok (.dup, 1) := by decide +kernel
theorem dX8_newPerson_43 : decode cX8_newPerson 43 = .ok (.iload_n 1, 1) := by decide +kernel
theorem dX8_newPerson_44 : decode cX8_newPerson 44 = .ok (.iload_n 2, 1) := by decide +kernel
theorem dX8_newPerson_45 : decode cX8_newPerson 45 = .ok (.iload_n 3, 1) := by decide +kernel
theorem dX8_newPerson_46 : decode cX8_newPerson 46 = .ok (.invokespecial 279, 3) := by decide +kernel
theorem dX8_newPerson_49 : decode cX8_newPerson 49 = .ok (.areturn, 1) := by decide +kernel
theorem dX8_newPerson_50 : decode cX8_newPerson 50 = .ok (.new 17, 3) := by decide +kernel
theorem dX8_newPerson_53 : decode cX8_newPerson 53 = .ok (.dup, 1) := by decide +kernel
theorem dX8_newPerson_54 : decode cX8_newPerson 54 = .ok (.iload_n 1, 1) := by decide +kernel
theorem dX8_newPerson_55 : decode cX8_newPerson 55 = .ok (.iload_n 2, 1) := by decide +kernel
theorem dX8_newPerson_56 : decode cX8_newPerson 56 = .ok (.iload_n 3, 1) := by decide +kernel
theorem dX8_newPerson_57 : decode cX8_newPerson 57 = .ok (.invokespecial 280, 3) := by decide +kernel
theorem dX8_newPerson_60 : decode cX8_newPerson 60 = .ok (.areturn, 1) := by decide +kernel
theorem dX8_allNameSomebody_0 : decode cX8_allNameSomebody 0 = .ok (.iconst 0, 1) := by decide +kernel
theorem dX8_allNameSomebody_1 : decode cX8_allNameSomebody 1 = .ok (.istore 4, 2) := by decide +kernel
theorem dX8_allNameSomebody_3 : decode cX8_allNameSomebody 3 = .ok (.iload 4, 2) := by decide +kernel
theorem dX8_allNameSomebody_5 : decode cX8_allNameSomebody 5 = .ok (.iload_n 3, 1) := by decide +kernel
theorem dX8_allNameSomebody_6 : decode cX8_allNameSomebody 6 = .ok (.if_icmp .ge 28, 3) := by decide +kernel
theorem dX8_allNameSomebody_9 : decode cX8_allNameSomebody 9 = .ok (.aload_n 0, 1) := by decide +kernel
theorem dX8_allNameSomebody_10 : decode cX8_allNameSomebody 10 = .ok (.aload_n 1, 1) := by decide +kernel
theorem dX8_allNameSomebody_11 : decode cX8_allNameSomebody 11 = .ok (.iload_n 2, 1) := by decide +kernel
theorem dX8_allNameSomebody_12 : decode cX8_allNameSomebody 12 = .ok (.iconst 2, 1) := by decide +kernel
theorem dX8_allNameSomebody_13 : decode cX8_allNameSomebody 13 = .ok (.iload 4, 2) := by decide +kernel
theorem dX8_allNameSomebody_15 : decode cX8_allNameSomebody 15 = .ok (.imul, 1) := by decide +kernel
theorem dX8_allNameSomebody_16 : decode cX8_allNameSomebody 16 = .ok (.iadd, 1) := by decide +kernel
theorem dX8_allNameSomebody_17 : decode cX8_allNameSomebody 17 = .ok (.invokevirtual 226, 3) := by decide +kernel
theorem dX8_allNameSomebody_20 : decode cX8_allNameSomebody 20 = .ok (.invokevirtual 87, 3) := by decide +kernel
theorem dX8_allNameSomebody_23 : decode cX8_allNameSomebody 23 = .ok (.ifnonnull 5, 3) := by decide +kernel
theorem dX8_allNameSomebody_26 : decode cX8_allNameSomebody 26 = .ok (.iconst 0, 1) := by decide +kernel
theorem dX8_allNameSomebody_27 : decode cX8_allNameSomebody 27 = .ok (.ireturn, 1) := by decide +kernel
theorem dX8_allNameSomebody_28 : decode cX8_allNameSomebody 28 = .ok (.iinc 4 1, 3) := by decide +kernel
theorem dX8_allNameSomebody_31 : decode cX8_allNameSomebody 31 = .ok (.goto (-28), 3) := by decide +kernel
theorem dX8_allNameSomebody_34 : decode cX8_allNameSomebody 34 = .ok (.iconst 1, 1) := by decide +kernel
theorem dX8_allNameSomebody_35 : decode cX8_allNameSomebody 35 = .ok (.ireturn, 1) := by decide +kernel
theorem dX8_callsTold_0 : decode cX8_callsTold 0 = .ok (.aload_n 0, 1) := by decide +kernel
theorem dX8_callsTold_1 : decode cX8_callsTold 1 = .ok (.invokevirtual 129, 3) := by decide +kernel
theorem dX8_callsTold_4 : decode cX8_callsTold 4 = .ok (.astore 5, 2) := by decide +kernel
theorem dX8_callsTold_6 : decode cX8_callsTold 6 = .ok (.iconst 0, 1) := by decide +kernel
theorem dX8_callsTold_7 : decode cX8_callsTold 7 = .ok (.istore 6, 2) := by decide +kernel
theorem dX8_callsTold_9 : decode cX8_callsTold 9 = .ok (.bipush (-9), 2) := by decide +kernel
theorem dX8_callsTold_11 : decode cX8_callsTold 11 = .ok (.istore 7, 2) := by decide +kernel
theorem dX8_callsTold_13 : decode cX8_callsTold 13 = .ok (.iconst 0, 1) := by decide +kernel
theorem dX8_callsTold_14 : decode cX8_callsTold 14 = .ok (.istore 8, 2) := by decide +kernel
theorem dX8_callsTold_16 : decode cX8_callsTold 16 = .ok (.iload 8, 2) := by decide +kernel
theorem dX8_callsTold_18 : decode cX8_callsTold 18 = .ok (.iload_n 3, 1) := by decide +kernel
theorem dX8_callsTold_19 : decode cX8_callsTold 19 = .ok (.if_icmp .ge 98, 3) := by decide +kernel
theorem dX8_callsTold_22 : decode cX8_callsTold 22 = .ok (.aload_n 1, 1) := by decide +kernel
theorem dX8_callsTold_23 : decode cX8_callsTold 23 = .ok (.iload_n 2, 1) := by decide +kernel
theorem dX8_callsTold_24 : decode cX8_callsTold 24 = .ok (.iconst 2, 1) := by decide +kernel
theorem dX8_callsTold_25 : decode cX8_callsTold 25 = .ok (.iload 8, 2) := by decide +kernel
theorem dX8_callsTold_27 : decode cX8_callsTold 27 = .ok (.imul, 1) := by decide +kernel
theorem dX8_callsTold_28 : decode cX8_callsTold 28 = .ok (.iadd, 1) := by decide +kernel
theorem dX8_callsTold_29 : decode cX8_callsTold 29 = .ok (.invokevirtual 226, 3) := by decide +kernel
theorem dX8_callsTold_32 : decode cX8_callsTold 32 = .ok (.istore 9, 2) := by decide +kernel
theorem dX8_callsTold_34 : decode cX8_callsTold 34 = .ok (.aload_n 1, 1) := by decide +kernel
theorem dX8_callsTold_35 : decode cX8_callsTold 35 = .ok (.iload_n 2, 1) := by decide +kernel
theorem dX8_callsTold_36 : decode cX8_callsTold 36 = .ok (.iconst 2, 1) := by decide +kernel
theorem dX8_callsTold_37 : decode cX8_callsTold 37 = .ok (.iload 8, 2) := by decide +kernel
theorem dX8_callsTold_39 : decode cX8_callsTold 39 = .ok (.imul, 1) := by decide +kernel
theorem dX8_callsTold_40 : decode cX8_callsTold 40 = .ok (.iadd, 1) := by decide +kernel
theorem dX8_callsTold_41 : decode cX8_callsTold 41 = .ok (.iconst 1, 1) := by decide +kernel
theorem dX8_callsTold_42 : decode cX8_callsTold 42 = .ok (.iadd, 1) := by decide +kernel
theorem dX8_callsTold_43 : decode cX8_callsTold 43 = .ok (.invokevirtual 226, 3) := by decide +kernel
theorem dX8_callsTold_46 : decode cX8_callsTold 46 = .ok (.istore 10, 2) := by decide +kernel
theorem dX8_callsTold_48 : decode cX8_callsTold 48 = .ok (.aload_n 0, 1) := by decide +kernel
theorem dX8_callsTold_49 : decode cX8_callsTold 49 = .ok (.iload 9, 2) := by decide +kernel
theorem dX8_callsTold_51 : decode cX8_callsTold 51 = .ok (.invokevirtual 87, 3) := by decide +kernel
theorem dX8_callsTold_54 : decode cX8_callsTold 54 = .ok (.ifnull 32, 3) := by decide +kernel
theorem dX8_callsTold_57 : decode cX8_callsTold 57 = .ok (.aload_n 0, 1) := by decide +kernel
theorem dX8_callsTold_58 : decode cX8_callsTold 58 = .ok (.getfield 109, 3) := by decide +kernel
theorem dX8_callsTold_61 : decode cX8_callsTold 61 = .ok (.iload 9, 2) := by decide +kernel
theorem dX8_callsTold_63 : decode cX8_callsTold 63 = .ok (.invokestatic 112, 3) := by decide +kernel
theorem dX8_callsTold_66 : decode cX8_callsTold 66 = .ok (.ifCond .eq 20, 3) := by decide +kernel
theorem dX8_callsTold_69 : decode cX8_callsTold 69 = .ok (.aload 5, 2) := by decide +kernel
theorem dX8_callsTold_71 : decode cX8_callsTold 71 = .ok (.iload 9, 2) := by decide +kernel
theorem dX8_callsTold_73 : decode cX8_callsTold 73 = .ok (.iaload, 1) := by decide +kernel
theorem dX8_callsTold_74 : decode cX8_callsTold 74 = .ok (.iload 10, 2) := by decide +kernel
theorem dX8_callsTold_76 : decode cX8_callsTold 76 = .ok (.if_icmp .lt 10, 3) := by decide +kernel
theorem dX8_callsTold_79 : decode cX8_callsTold 79 = .ok (.iload 10, 2) := by decide +kernel
theorem dX8_callsTold_81 : decode cX8_callsTold 81 = .ok (.iload 6, 2) := by decide +kernel
theorem dX8_callsTold_83 : decode cX8_callsTold 83 = .ok (.if_icmp .gt 20, 3) := by decide +kernel
theorem dX8_callsTold_86 : decode cX8_callsTold 86 = .ok (.iload 4, 2) := by decide +kernel
theorem dX8_callsTold_88 : decode cX8_callsTold 88 = .ok (.iconst 1, 1) := by decide +kernel
theorem dX8_callsTold_89 : decode cX8_callsTold 89 = .ok (.if_icmp .ne 8, 3) := by decide +kernel
theorem dX8_callsTold_92 : decode cX8_callsTold 92 = .ok (.iload 8, 2) := by decide +kernel
theorem dX8_callsTold_94 : decode cX8_callsTold 94 = .ok (.goto 8, 3) := by decide +kernel
theorem dX8_callsTold_97 : decode cX8_callsTold 97 = .ok (.bipush (-100), 2) := by decide +kernel
theorem dX8_callsTold_99 : decode cX8_callsTold 99 = .ok (.iload 8, 2) := by decide +kernel
theorem dX8_callsTold_101 : decode cX8_callsTold 101 = .ok (.isub, 1) := by decide +kernel
theorem dX8_callsTold_102 : decode cX8_callsTold 102 = .ok (.ireturn, 1) := by decide +kernel
theorem dX8_callsTold_103 : decode cX8_callsTold 103 = .ok (.iload 10, 2) := by decide +kernel
theorem dX8_callsTold_105 : decode cX8_callsTold 105 = .ok (.istore 6, 2) := by decide +kernel
theorem dX8_callsTold_107 : decode cX8_callsTold 107 = .ok (.iload 9, 2) := by decide +kernel
theorem dX8_callsTold_109 : decode cX8_callsTold 109 = .ok (.istore 7, 2) := by decide +kernel
theorem dX8_callsTold_111 : decode cX8_callsTold 111 = .ok (.iinc 8 1, 3) := by decide +kernel
theorem dX8_callsTold_114 : decode cX8_callsTold 114 = .ok (.goto (-98), 3) := by decide +kernel
theorem dX8_callsTold_117 : decode cX8_callsTold 117 = .ok (.iload 4, 2) := by decide +kernel
theorem dX8_callsTold_119 : decode cX8_callsTold 119 = .ok (.tableswitch 34 0 2 #[25, 28, 31], 25) := by decide +kernel
theorem dX8_callsTold_144 : decode cX8_callsTold 144 = .ok (.iload 6, 2) := by decide +kernel
theorem dX8_callsTold_146 : decode cX8_callsTold 146 = .ok (.ireturn, 1) := by decide +kernel
theorem dX8_callsTold_147 : decode cX8_callsTold 147 = .ok (.bipush (-9), 2) := by decide +kernel
theorem dX8_callsTold_149 : decode cX8_callsTold 149 = .ok (.ireturn, 1) := by decide +kernel
theorem dX8_callsTold_150 : decode cX8_callsTold 150 = .ok (.iload 7, 2) := by decide +kernel
theorem dX8_callsTold_152 : decode cX8_callsTold 152 = .ok (.ireturn, 1) := by decide +kernel
theorem dX8_callsTold_153 : decode cX8_callsTold 153 = .ok (.aload_n 0, 1) := by decide +kernel
theorem dX8_callsTold_154 : decode cX8_callsTold 154 = .ok (.aload 5, 2) := by decide +kernel
theorem dX8_callsTold_156 : decode cX8_callsTold 156 = .ok (.iload 6, 2) := by decide +kernel
theorem dX8_callsTold_158 : decode cX8_callsTold 158 = .ok (.iload 7, 2) := by decide +kernel
theorem dX8_callsTold_160 : decode cX8_callsTold 160 = .ok (.invokevirtual 281, 3) := by decide +kernel
theorem dX8_callsTold_163 : decode cX8_callsTold 163 = .ok (.ireturn, 1) := by decide +kernel
theorem dX8_howManyGoOn_0 : decode cX8_howManyGoOn 0 = .ok (.iconst 0, 1) := by decide +kernel
theorem dX8_howManyGoOn_1 : decode cX8_howManyGoOn 1 = .ok (.istore 4, 2) := by decide +kernel
theorem dX8_howManyGoOn_3 : decode cX8_howManyGoOn 3 = .ok (.iconst 0, 1) := by decide +kernel
theorem dX8_howManyGoOn_4 : decode cX8_howManyGoOn 4 = .ok (.istore 5, 2) := by decide +kernel
theorem dX8_howManyGoOn_6 : decode cX8_howManyGoOn 6 = .ok (.iload 5, 2) := by decide +kernel
theorem dX8_howManyGoOn_8 : decode cX8_howManyGoOn 8 = .ok (.aload_n 0, 1) := by decide +kernel
theorem dX8_howManyGoOn_9 : decode cX8_howManyGoOn 9 = .ok (.getfield 84, 3) := by decide +kernel
theorem dX8_howManyGoOn_12 : decode cX8_howManyGoOn 12 = .ok (.if_icmp .ge 45, 3) := by decide +kernel
theorem dX8_howManyGoOn_15 : decode cX8_howManyGoOn 15 = .ok (.iload 4, 2) := by decide +kernel
theorem dX8_howManyGoOn_17 : decode cX8_howManyGoOn 17 = .ok (.aload_n 0, 1) := by decide +kernel
theorem dX8_howManyGoOn_18 : decode cX8_howManyGoOn 18 = .ok (.getfield 109, 3) := by decide +kernel
theorem dX8_howManyGoOn_21 : decode cX8_howManyGoOn 21 = .ok (.iload 5, 2) := by decide +kernel
theorem dX8_howManyGoOn_23 : decode cX8_howManyGoOn 23 = .ok (.invokestatic 112, 3) := by decide +kernel
theorem dX8_howManyGoOn_26 : decode cX8_howManyGoOn 26 = .ok (.ifCond .eq 21, 3) := by decide +kernel
theorem dX8_howManyGoOn_29 : decode cX8_howManyGoOn 29 = .ok (.iload 5, 2) := by decide +kernel
theorem dX8_howManyGoOn_31 : decode cX8_howManyGoOn 31 = .ok (.iload_n 3, 1) := by decide +kernel
theorem dX8_howManyGoOn_32 : decode cX8_howManyGoOn 32 = .ok (.if_icmp .eq 15, 3) := by decide +kernel
theorem dX8_howManyGoOn_35 : decode cX8_howManyGoOn 35 = .ok (.aload_n 1, 1) := by decide +kernel
theorem dX8_howManyGoOn_36 : decode cX8_howManyGoOn 36 = .ok (.iload 5, 2) := by decide +kernel
theorem dX8_howManyGoOn_38 : decode cX8_howManyGoOn 38 = .ok (.iaload, 1) := by decide +kernel
theorem dX8_howManyGoOn_39 : decode cX8_howManyGoOn 39 = .ok (.iload_n 2, 1) := by decide +kernel
theorem dX8_howManyGoOn_40 : decode cX8_howManyGoOn 40 = .ok (.if_icmp .le 7, 3) := by decide +kernel
theorem dX8_howManyGoOn_43 : decode cX8_howManyGoOn 43 = .ok (.iconst 1, 1) := by decide +kernel
theorem dX8_howManyGoOn_44 : decode cX8_howManyGoOn 44 = .ok (.goto 4, 3) := by decide +kernel
theorem dX8_howManyGoOn_47 : decode cX8_howManyGoOn 47 = .ok (.iconst 0, 1) := by decide +kernel
theorem dX8_howManyGoOn_48 : decode cX8_howManyGoOn 48 = .ok (.iadd, 1) := by decide +kernel
theorem dX8_howManyGoOn_49 : decode cX8_howManyGoOn 49 = .ok (.istore 4, 2) := by decide +kernel
theorem dX8_howManyGoOn_51 : decode cX8_howManyGoOn 51 = .ok (.iinc 5 1, 3) := by decide +kernel
theorem dX8_howManyGoOn_54 : decode cX8_howManyGoOn 54 = .ok (.goto (-48), 3) := by decide +kernel
theorem dX8_howManyGoOn_57 : decode cX8_howManyGoOn 57 = .ok (.iload 4, 2) := by decide +kernel
theorem dX8_howManyGoOn_59 : decode cX8_howManyGoOn 59 = .ok (.ireturn, 1) := by decide +kernel
theorem dX8_lossOfOrder_0 : decode cX8_lossOfOrder 0 = .ok (.aload_n 0, 1) := by decide +kernel
theorem dX8_lossOfOrder_1 : decode cX8_lossOfOrder 1 = .ok (.getfield 30, 3) := by decide +kernel
theorem dX8_lossOfOrder_4 : decode cX8_lossOfOrder 4 = .ok (.aload_n 0, 1) := by decide +kernel
theorem dX8_lossOfOrder_5 : decode cX8_lossOfOrder 5 = .ok (.invokevirtual 129, 3) := by decide +kernel
theorem dX8_lossOfOrder_8 : decode cX8_lossOfOrder 8 = .ok (.aload_n 0, 1) := by decide +kernel
theorem dX8_lossOfOrder_9 : decode cX8_lossOfOrder 9 = .ok (.getfield 109, 3) := by decide +kernel
theorem dX8_lossOfOrder_12 : decode cX8_lossOfOrder 12 = .ok (.invokevirtual 174, 3) := by decide +kernel
theorem dX8_lossOfOrder_15 : decode cX8_lossOfOrder 15 = .ok (.istore_n 1, 1) := by decide +kernel
theorem dX8_lossOfOrder_16 : decode cX8_lossOfOrder 16 = .ok (.iconst 0, 1) := by decide +kernel
theorem dX8_lossOfOrder_17 : decode cX8_lossOfOrder 17 = .ok (.istore_n 2, 1) := by decide +kernel
theorem dX8_lossOfOrder_18 : decode cX8_lossOfOrder 18 = .ok (.iconst 0, 1) := by decide +kernel
theorem dX8_lossOfOrder_19 : decode cX8_lossOfOrder 19 = .ok (.istore_n 3, 1) := by decide +kernel
theorem dX8_lossOfOrder_20 : decode cX8_lossOfOrder 20 = .ok (.iload_n 3, 1) := by decide +kernel
theorem dX8_lossOfOrder_21 : decode cX8_lossOfOrder 21 = .ok (.iload_n 1, 1) := by decide +kernel
theorem dX8_lossOfOrder_22 : decode cX8_lossOfOrder 22 = .ok (.if_icmp .ge 27, 3) := by decide +kernel
theorem dX8_lossOfOrder_25 : decode cX8_lossOfOrder 25 = .ok (.iload_n 2, 1) := by decide +kernel
theorem dX8_lossOfOrder_26 : decode cX8_lossOfOrder 26 = .ok (.iload_n 3, 1) := by decide +kernel
theorem dX8_lossOfOrder_27 : decode cX8_lossOfOrder 27 = .ok (.aload_n 0, 1) := by decide +kernel
theorem dX8_lossOfOrder_28 : decode cX8_lossOfOrder 28 = .ok (.aload_n 0, 1) := by decide +kernel
theorem dX8_lossOfOrder_29 : decode cX8_lossOfOrder 29 = .ok (.getfield 30, 3) := by decide +kernel
theorem dX8_lossOfOrder_32 : decode cX8_lossOfOrder 32 = .ok (.getfield 177, 3) := by decide +kernel
theorem dX8_lossOfOrder_35 : decode cX8_lossOfOrder 35 = .ok (.iload_n 3, 1) := by decide +kernel
theorem dX8_lossOfOrder_36 : decode cX8_lossOfOrder 36 = .ok (.iaload, 1) := by decide +kernel
theorem dX8_lossOfOrder_37 : decode cX8_lossOfOrder 37 = .ok (.invokevirtual 285, 3) := by decide +kernel
theorem dX8_lossOfOrder_40 : decode cX8_lossOfOrder 40 = .ok (.imul, 1) := by decide +kernel
theorem dX8_lossOfOrder_41 : decode cX8_lossOfOrder 41 = .ok (.iadd, 1) := by decide +kernel
theorem dX8_lossOfOrder_42 : decode cX8_lossOfOrder 42 = .ok (.istore_n 2, 1) := by decide +kernel
theorem dX8_lossOfOrder_43 : decode cX8_lossOfOrder 43 = .ok (.iinc 3 1, 3) := by decide +kernel
theorem dX8_lossOfOrder_46 : decode cX8_lossOfOrder 46 = .ok (.goto (-26), 3) := by decide +kernel
theorem dX8_lossOfOrder_49 : decode cX8_lossOfOrder 49 = .ok (.iload_n 2, 1) := by decide +kernel
theorem dX8_lossOfOrder_50 : decode cX8_lossOfOrder 50 = .ok (.ireturn, 1) := by decide +kernel
theorem dX8_leastLoss_0 : decode cX8_leastLoss 0 = .ok (.iconst 0, 1) := by decide +kernel
theorem dX8_leastLoss_1 : decode cX8_leastLoss 1 = .ok (.istore_n 1, 1) := by decide +kernel
theorem dX8_leastLoss_2 : decode cX8_leastLoss 2 = .ok (.iconst 0, 1) := by decide +kernel
theorem dX8_leastLoss_3 : decode cX8_leastLoss 3 = .ok (.istore_n 2, 1) := by decide +kernel
theorem dX8_leastLoss_4 : decode cX8_leastLoss 4 = .ok (.iload_n 2, 1) := by decide +kernel
theorem dX8_leastLoss_5 : decode cX8_leastLoss 5 = .ok (.aload_n 0, 1) := by decide +kernel
theorem dX8_leastLoss_6 : decode cX8_leastLoss 6 = .ok (.getfield 84, 3) := by decide +kernel
theorem dX8_leastLoss_9 : decode cX8_leastLoss 9 = .ok (.if_icmp .ge 76, 3) := by decide +kernel
theorem dX8_leastLoss_12 : decode cX8_leastLoss 12 = .ok (.iconst 0, 1) := by decide +kernel
theorem dX8_leastLoss_13 : decode cX8_leastLoss 13 = .ok (.istore_n 3, 1) := by decide +kernel
theorem dX8_leastLoss_14 : decode cX8_leastLoss 14 = .ok (.iload_n 3, 1) := by decide +kernel
theorem dX8_leastLoss_15 : decode cX8_leastLoss 15 = .ok (.iload_n 2, 1) := by decide +kernel
theorem dX8_leastLoss_16 : decode cX8_leastLoss 16 = .ok (.if_icmp .ge 63, 3) := by decide +kernel
theorem dX8_leastLoss_19 : decode cX8_leastLoss 19 = .ok (.aload_n 0, 1) := by decide +kernel
theorem dX8_leastLoss_20 : decode cX8_leastLoss 20 = .ok (.getfield 109, 3) := by decide +kernel
theorem dX8_leastLoss_23 : decode cX8_leastLoss 23 = .ok (.iload_n 2, 1) := by decide +kernel
theorem dX8_leastLoss_24 : decode cX8_leastLoss 24 = .ok (.invokestatic 112, 3) := by decide +kernel
theorem dX8_leastLoss_27 : decode cX8_leastLoss 27 = .ok (.ifCond .eq 18, 3) := by decide +kernel
theorem dX8_leastLoss_30 : decode cX8_leastLoss 30 = .ok (.aload_n 0, 1) := by decide +kernel
theorem dX8_leastLoss_31 : decode cX8_leastLoss 31 = .ok (.getfield 109, 3) := by decide +kernel
theorem dX8_leastLoss_34 : decode cX8_leastLoss 34 = .ok (.iload_n 3, 1) := by decide +kernel
theorem dX8_leastLoss_35 : decode cX8_leastLoss 35 = .ok (.invokestatic 112, 3) := by decide +kernel
theorem dX8_leastLoss_38 : decode cX8_leastLoss 38 = .ok (.ifCond .eq 7, 3) := by decide +kernel
theorem dX8_leastLoss_41 : decode cX8_leastLoss 41 = .ok (.iconst 1, 1) := by decide +kernel
theorem dX8_leastLoss_42 : decode cX8_leastLoss 42 = .ok (.goto 4, 3) := by decide +kernel
theorem dX8_leastLoss_45 : decode cX8_leastLoss 45 = .ok (.iconst 0, 1) := by decide +kernel
theorem dX8_leastLoss_46 : decode cX8_leastLoss 46 = .ok (.istore 4, 2) := by decide +kernel
theorem dX8_leastLoss_48 : decode cX8_leastLoss 48 = .ok (.iload_n 1, 1) := by decide +kernel
theorem dX8_leastLoss_49 : decode cX8_leastLoss 49 = .ok (.iload 4, 2) := by decide +kernel
theorem dX8_leastLoss_51 : decode cX8_leastLoss 51 = .ok (.ifCond .eq 19, 3) := by decide +kernel
theorem dX8_leastLoss_54 : decode cX8_leastLoss 54 = .ok (.aload_n 0, 1) := by decide +kernel
theorem dX8_leastLoss_55 : decode cX8_leastLoss 55 = .ok (.iload_n 2, 1) := by decide +kernel
theorem dX8_leastLoss_56 : decode cX8_leastLoss 56 = .ok (.invokevirtual 285, 3) := by decide +kernel
theorem dX8_leastLoss_59 : decode cX8_leastLoss 59 = .ok (.aload_n 0, 1) := by decide +kernel
theorem dX8_leastLoss_60 : decode cX8_leastLoss 60 = .ok (.iload_n 3, 1) := by decide +kernel
theorem dX8_leastLoss_61 : decode cX8_leastLoss 61 = .ok (.invokevirtual 285, 3) := by decide +kernel
theorem dX8_leastLoss_64 : decode cX8_leastLoss 64 = .ok (.invokestatic 259, 3) := by decide +kernel
theorem dX8_leastLoss_67 : decode cX8_leastLoss 67 = .ok (.goto 4, 3) := by decide +kernel
theorem dX8_leastLoss_70 : decode cX8_leastLoss 70 = .ok (.iconst 0, 1) := by decide +kernel
theorem dX8_leastLoss_71 : decode cX8_leastLoss 71 = .ok (.iadd, 1) := by decide +kernel
theorem dX8_leastLoss_72 : decode cX8_leastLoss 72 = .ok (.istore_n 1, 1) := by decide +kernel
theorem dX8_leastLoss_73 : decode cX8_leastLoss 73 = .ok (.iinc 3 1, 3) := by decide +kernel
theorem dX8_leastLoss_76 : decode cX8_leastLoss 76 = .ok (.goto (-62), 3) := by decide +kernel
theorem dX8_leastLoss_79 : decode cX8_leastLoss 79 = .ok (.iinc 2 1, 3) := by decide +kernel
theorem dX8_leastLoss_82 : decode cX8_leastLoss 82 = .ok (.goto (-78), 3) := by decide +kernel
theorem dX8_leastLoss_85 : decode cX8_leastLoss 85 = .ok (.iload_n 1, 1) := by decide +kernel
theorem dX8_leastLoss_86 : decode cX8_leastLoss 86 = .ok (.ireturn, 1) := by decide +kernel
end
section
theorem dX9_init_0 : decode cX9_init 0 = .ok (.aload_n 0, 1) := by decide +kernel
theorem dX9_init_1 : decode cX9_init 1 = .ok (.invokespecial 1, 3) := by decide +kernel
theorem dX9_init_4 : decode cX9_init 4 = .ok (.aload_n 0, 1) := by decide +kernel
theorem dX9_init_5 : decode cX9_init 5 = .ok (.iconst 4, 1) := by decide +kernel
theorem dX9_init_6 : decode cX9_init 6 = .ok (.newarray .int, 2) := by decide +kernel
theorem dX9_init_8 : decode cX9_init 8 = .ok (.dup, 1) := by decide +kernel
theorem dX9_init_9 : decode cX9_init 9 = .ok (.iconst 0, 1) := by decide +kernel
theorem dX9_init_10 : decode cX9_init 10 = .ok (.bipush (-9), 2) := by decide +kernel
theorem dX9_init_12 : decode cX9_init 12 = .ok (.iastore, 1) := by decide +kernel
theorem dX9_init_13 : decode cX9_init 13 = .ok (.dup, 1) := by decide +kernel
theorem dX9_init_14 : decode cX9_init 14 = .ok (.iconst 1, 1) := by decide +kernel
theorem dX9_init_15 : decode cX9_init 15 = .ok (.bipush (-9), 2) := by decide +kernel
theorem dX9_init_17 : decode cX9_init 17 = .ok (.iastore, 1) := by decide +kernel
theorem dX9_init_18 : decode cX9_init 18 = .ok (.dup, 1) := by decide +kernel
theorem dX9_init_19 : decode cX9_init 19 = .ok (.iconst 2, 1) := by decide +kernel
theorem dX9_init_20 : decode cX9_init 20 = .ok (.bipush (-9), 2) := by decide +kernel
theorem dX9_init_22 : decode cX9_init 22 = .ok (.iastore, 1) := by decide +kernel
theorem dX9_init_23 : decode cX9_init 23 = .ok (.dup, 1) := by decide +kernel
theorem dX9_init_24 : decode cX9_init 24 = .ok (.iconst 3, 1) := by decide +kernel
theorem dX9_init_25 : decode cX9_init 25 = .ok (.bipush (-9), 2) := by decide +kernel
theorem dX9_init_27 : decode cX9_init 27 = .ok (.iastore, 1) := by decide +kernel
theorem dX9_init_28 : decode cX9_init 28 = .ok (.putfield 9, 3) := by decide +kernel
theorem dX9_init_31 : decode cX9_init 31 = .ok (.aload_n 0, 1) := by decide +kernel
theorem dX9_init_32 : decode cX9_init 32 = .ok (.iconst 4, 1) := by decide +kernel
theorem dX9_init_33 : decode cX9_init 33 = .ok (.newarray .int, 2) := by decide +kernel
theorem dX9_init_35 : decode cX9_init 35 = .ok (.putfield 13, 3) := by decide +kernel
theorem dX9_init_38 : decode cX9_init 38 = .ok (.aload_n 0, 1) := by decide +kernel
theorem dX9_init_39 : decode cX9_init 39 = .ok (.sipush 240, 3) := by decide +kernel
theorem dX9_init_42 : decode cX9_init 42 = .ok (.newarray .int, 2) := by decide +kernel
theorem dX9_init_44 : decode cX9_init 44 = .ok (.putfield 16, 3) := by decide +kernel
theorem dX9_init_47 : decode cX9_init 47 = .ok (.aload_n 0, 1) := by decide +kernel
theorem dX9_init_48 : decode cX9_init 48 = .ok (.bipush 6, 2) := by decide +kernel
theorem dX9_init_50 : decode cX9_init 50 = .ok (.newarray .int, 2) := by decide +kernel
theorem dX9_init_52 : decode cX9_init 52 = .ok (.putfield 19, 3) := by decide +kernel
theorem dX9_init_55 : decode cX9_init 55 = .ok (.aload_n 0, 1) := by decide +kernel
theorem dX9_init_56 : decode cX9_init 56 = .ok (.bipush 6, 2) := by decide +kernel
theorem dX9_init_58 : decode cX9_init 58 = .ok (.newarray .int, 2) := by decide +kernel
theorem dX9_init_60 : decode cX9_init 60 = .ok (.putfield 22, 3) := by decide +kernel
theorem dX9_init_63 : decode cX9_init 63 = .ok (.aload_n 0, 1) := by decide +kernel
theorem dX9_init_64 : decode cX9_init 64 = .ok (.bipush 6, 2) := by decide +kernel
theorem dX9_init_66 : decode cX9_init 66 = .ok (.newarray .int, 2) := by decide +kernel
theorem dX9_init_68 : decode cX9_init 68 = .ok (.putfield 25, 3) := by decide +kernel
theorem dX9_init_71 : decode cX9_init 71 = .ok (.aload_n 0, 1) := by decide +kernel
theorem dX9_init_72 : decode cX9_init 72 = .ok (.bipush 36, 2) := by decide +kernel
theorem dX9_init_74 : decode cX9_init 74 = .ok (.newarray .int, 2) := by decide +kernel
theorem dX9_init_76 : decode cX9_init 76 = .ok (.putfield 28, 3) := by decide +kernel
theorem dX9_init_79 : decode cX9_init 79 = .ok (.aload_n 0, 1) := by decide +kernel
theorem dX9_init_80 : decode cX9_init 80 = .ok (.bipush 18, 2) := by decide +kernel
theorem dX9_init_82 : decode cX9_init 82 = .ok (.newarray .int, 2) := by decide +kernel
theorem dX9_init_84 : decode cX9_init 84 = .ok (.putfield 31, 3) := by decide +kernel
theorem dX9_init_87 : decode cX9_init 87 = .ok (.aload_n 0, 1) := by decide +kernel
theorem dX9_init_88 : decode cX9_init 88 = .ok (.bipush 6, 2) := by decide +kernel
theorem dX9_init_90 : decode cX9_init 90 = .ok (.newarray .int, 2) := by decide +kernel
theorem dX9_init_92 : decode cX9_init 92 = .ok (.putfield 34, 3) := by decide +kernel
theorem dX9_init_95 : decode cX9_init 95 = .ok (.aload_n 0, 1) := by decide +kernel
theorem dX9_init_96 : decode cX9_init 96 = .ok (.bipush 6, 2) := by decide +kernel
theorem dX9_init_98 : decode cX9_init 98 = .ok (.newarray .int, 2) := by decide +kernel
theorem dX9_init_100 : decode cX9_init 100 = .ok (.putfield 37, 3) := by decide +kernel
theorem dX9_init_103 : decode cX9_init 103 = .ok (.aload_n 0, 1) := by decide +kernel
theorem dX9_init_104 : decode cX9_init 104 = .ok (.bipush 64, 2) := by decide +kernel
theorem dX9_init_106 : decode cX9_init 106 = .ok (.newarray .int, 2) := by decide +kernel
theorem dX9_init_108 : decode cX9_init 108 = .ok (.putfield 40, 3) := by decide +kernel
theorem dX9_init_111 : decode cX9_init 111 = .ok (.aload_n 0, 1) := by decide +kernel
theorem dX9_init_112 : decode cX9_init 112 = .ok (.bipush 8, 2) := by decide +kernel
theorem dX9_init_114 : decode cX9_init 114 = .ok (.newarray .int, 2) := by decide +kernel
theorem dX9_init_116 : decode cX9_init 116 = .ok (.putfield 43, 3) := by decide +kernel
theorem dX9_init_119 : decode cX9_init 119 = .ok (.aload_n 0, 1) := by decide +kernel
theorem dX9_init_120 : decode cX9_init 120 = .ok (.bipush 8, 2) := by decide +kernel
theorem dX9_init_122 : decode cX9_init 122 = .ok (.newarray .int, 2) := by decide +kernel
theorem dX9_init_124 : decode cX9_init 124 = .ok (.putfield 46, 3) := by decide +kernel
theorem dX9_init_127 : decode cX9_init 127 = .ok (.aload_n 0, 1) := by decide +kernel
theorem dX9_init_128 : decode cX9_init 128 = .ok (.bipush 8, 2) := by decide +kernel
theorem dX9_init_130 : decode cX9_init 130 = .ok (.newarray .int, 2) := by decide +kernel
theorem dX9_init_132 : decode cX9_init 132 = .ok (.putfield 49, 3) := by decide +kernel
theorem dX9_init_135 : decode cX9_init 135 = .ok (.return_, 1) := by decide +kernel
theorem dX9_fails_0 : decode cX9_fails 0 = .ok (.aload_n 0, 1) := by decide +kernel
theorem dX9_fails_1 : decode cX9_fails 1 = .ok (.iload_n 1, 1) := by decide +kernel
theorem dX9_fails_2 : decode cX9_fails 2 = .ok (.putfield 52, 3) := by decide +kernel
theorem dX9_fails_5 : decode cX9_fails 5 = .ok (.bipush (-10), 2) := by decide +kernel
theorem dX9_fails_7 : decode cX9_fails 7 = .ok (.iload_n 1, 1) := by decide +kernel
theorem dX9_fails_8 : decode cX9_fails 8 = .ok (.isub, 1) := by decide +kernel
theorem dX9_fails_9 : decode cX9_fails 9 = .ok (.ireturn, 1) := by decide +kernel
theorem dX9_lost_0 : decode cX9_lost 0 = .ok (.aload_n 0, 1) := by decide +kernel
theorem dX9_lost_1 : decode cX9_lost 1 = .ok (.iload_n 1, 1) := by decide +kernel
theorem dX9_lost_2 : decode cX9_lost 2 = .ok (.putfield 52, 3) := by decide +kernel
theorem dX9_lost_5 : decode cX9_lost 5 = .ok (.ldc2_w 56, 3) := by decide +kernel
theorem dX9_lost_8 : decode cX9_lost 8 = .ok (.lreturn, 1) := by decide +kernel
theorem dX9_within_0 : decode cX9_within 0 = .ok (.iload_n 0, 1) := by decide +kernel
theorem dX9_within_1 : decode cX9_within 1 = .ok (.iload_n 1, 1) := by decide +kernel
theorem dX9_within_2 : decode cX9_within 2 = .ok (.if_icmp .lt 12, 3) := by decide +kernel
theorem dX9_within_5 : decode cX9_within 5 = .ok (.iload_n 0, 1) := by decide +kernel
theorem dX9_within_6 : decode cX9_within 6 = .ok (.iload_n 2, 1) := by decide +kernel
theorem dX9_within_7 : decode cX9_within 7 = .ok (.if_icmp .gt 7, 3) := by decide +kernel
theorem dX9_within_10 : decode cX9_within 10 = .ok (.iconst 1, 1) := by decide +kernel
theorem dX9_within_11 : decode cX9_within 11 = .ok (.goto 4, 3) := by decide +kernel
theorem dX9_within_14 : decode cX9_within 14 = .ok (.iconst 0, 1) := by decide +kernel
theorem dX9_within_15 : decode cX9_within 15 = .ok (.ireturn, 1) := by decide +kernel
theorem dX9_isSheet_0 : decode cX9_isSheet 0 = .ok (.iload_n 0, 1) := by decide +kernel
theorem dX9_isSheet_1 : decode cX9_isSheet 1 = .ok (.iconst 0, 1) := by decide +kernel
theorem dX9_isSheet_2 : decode cX9_isSheet 2 = .ok (.iconst 3, 1) := by decide +kernel
theorem dX9_isSheet_3 : decode cX9_isSheet 3 = .ok (.invokestatic 58, 3) := by decide +kernel
theorem dX9_isSheet_6 : decode cX9_isSheet 6 = .ok (.ireturn, 1) := by decide +kernel
theorem dX9_isSort_0 : decode cX9_isSort 0 = .ok (.iload_n 0, 1) := by decide +kernel
theorem dX9_isSort_1 : decode cX9_isSort 1 = .ok (.iconst 0, 1) := by decide +kernel
theorem dX9_isSort_2 : decode cX9_isSort 2 = .ok (.iconst 2, 1) := by decide +kernel
theorem dX9_isSort_3 : decode cX9_isSort 3 = .ok (.invokestatic 58, 3) := by decide +kernel
theorem dX9_isSort_6 : decode cX9_isSort 6 = .ok (.ireturn, 1) := by decide +kernel
theorem dX9_against_0 : decode cX9_against 0 = .ok (.aload_n 0, 1) := by decide +kernel
theorem dX9_against_1 : decode cX9_against 1 = .ok (.getfield 9, 3) := by decide +kernel
theorem dX9_against_4 : decode cX9_against 4 = .ok (.iload_n 1, 1) := by decide +kernel
theorem dX9_against_5 : decode cX9_against 5 = .ok (.iaload, 1) := by decide +kernel
theorem dX9_against_6 : decode cX9_against 6 = .ok (.bipush (-9), 2) := by decide +kernel
theorem dX9_against_8 : decode cX9_against 8 = .ok (.if_icmp .eq 15, 3) := by decide +kernel
theorem dX9_against_11 : decode cX9_against 11 = .ok (.aload_n 0, 1) := by decide +kernel
theorem dX9_against_12 : decode cX9_against 12 = .ok (.getfield 9, 3) := by decide +kernel
theorem dX9_against_15 : decode cX9_against 15 = .ok (.iload_n 1, 1) := by decide +kernel
theorem dX9_against_16 : decode cX9_against 16 = .ok (.iaload, 1) := by decide +kernel
theorem dX9_against_17 : decode cX9_against 17 = .ok (.iload_n 2, 1) := by decide +kernel
theorem dX9_against_18 : decode cX9_against 18 = .ok (.if_icmp .eq 5, 3) := by decide +kernel
theorem dX9_against_21 : decode cX9_against 21 = .ok (.iconst 2, 1) := by decide +kernel
theorem dX9_against_22 : decode cX9_against 22 = .ok (.ireturn, 1) := by decide +kernel
theorem dX9_against_23 : decode cX9_against 23 = .ok (.aload_n 0, 1) := by decide +kernel
theorem dX9_against_24 : decode cX9_against 24 = .ok (.getfield 9, 3) := by decide +kernel
theorem dX9_against_27 : decode cX9_against 27 = .ok (.iload_n 1, 1) := by decide +kernel
theorem dX9_against_28 : decode cX9_against 28 = .ok (.iaload, 1) := by decide +kernel
theorem dX9_against_29 : decode cX9_against 29 = .ok (.bipush (-9), 2) := by decide +kernel
theorem dX9_against_31 : decode cX9_against 31 = .ok (.if_icmp .ne 5, 3) := by decide +kernel
theorem dX9_against_34 : decode cX9_against 34 = .ok (.iconst 1, 1) := by decide +kernel
theorem dX9_against_35 : decode cX9_against 35 = .ok (.ireturn, 1) := by decide +kernel
theorem dX9_against_36 : decode cX9_against 36 = .ok (.iload 4, 2) := by decide +kernel
theorem dX9_against_38 : decode cX9_against 38 = .ok (.ifCond .ge 5, 3) := by decide +kernel
theorem dX9_against_41 : decode cX9_against 41 = .ok (.iconst 4, 1) := by decide +kernel
theorem dX9_against_42 : decode cX9_against 42 = .ok (.ireturn, 1) := by decide +kernel
theorem dX9_against_43 : decode cX9_against 43 = .ok (.iload_n 3, 1) := by decide +kernel
theorem dX9_against_44 : decode cX9_against 44 = .ok (.ifCond .lt 26, 3) := by decide +kernel
theorem dX9_against_47 : decode cX9_against 47 = .ok (.iload_n 3, 1) := by decide +kernel
theorem dX9_against_48 : decode cX9_against 48 = .ok (.aload_n 0, 1) := by decide +kernel
theorem dX9_against_49 : decode cX9_against 49 = .ok (.getfield 13, 3) := by decide +kernel
theorem dX9_against_52 : decode cX9_against 52 = .ok (.iload_n 1, 1) := by decide +kernel
theorem dX9_against_53 : decode cX9_against 53 = .ok (.iaload, 1) := by decide +kernel
theorem dX9_against_54 : decode cX9_against 54 = .ok (.if_icmp .gt 16, 3) := by decide +kernel
theorem dX9_against_57 : decode cX9_against 57 = .ok (.iload 4, 2) := by decide +kernel
theorem dX9_against_59 : decode cX9_against 59 = .ok (.aload_n 0, 1) := by decide +kernel
theorem dX9_against_60 : decode cX9_against 60 = .ok (.getfield 13, 3) := by decide +kernel
theorem dX9_against_63 : decode cX9_against 63 = .ok (.iload_n 1, 1) := by decide +kernel
theorem dX9_against_64 : decode cX9_against 64 = .ok (.iaload, 1) := by decide +kernel
theorem dX9_against_65 : decode cX9_against 65 = .ok (.iload_n 3, 1) := by decide +kernel
theorem dX9_against_66 : decode cX9_against 66 = .ok (.isub, 1) := by decide +kernel
theorem dX9_against_67 : decode cX9_against 67 = .ok (.if_icmp .le 7, 3) := by decide +kernel
theorem dX9_against_70 : decode cX9_against 70 = .ok (.iconst 3, 1) := by decide +kernel
theorem dX9_against_71 : decode cX9_against 71 = .ok (.goto 4, 3) := by decide +kernel
theorem dX9_against_74 : decode cX9_against 74 = .ok (.iconst 0, 1) := by decide +kernel
theorem dX9_against_75 : decode cX9_against 75 = .ok (.ireturn, 1) := by decide +kernel
theorem dX9_isPerson_0 : decode cX9_isPerson 0 = .ok (.iload_n 1, 1) := by decide +kernel
theorem dX9_isPerson_1 : decode cX9_isPerson 1 = .ok (.ifCond .lt 15, 3) := by decide +kernel
theorem dX9_isPerson_4 : decode cX9_isPerson 4 = .ok (.iload_n 1, 1) := by decide +kernel
theorem dX9_isPerson_5 : decode cX9_isPerson 5 = .ok (.aload_n 0, 1) := by decide +kernel
theorem dX9_isPerson_6 : decode cX9_isPerson 6 = .ok (.getfield 62, 3) := by decide +kernel
theorem dX9_isPerson_9 : decode cX9_isPerson 9 = .ok (.if_icmp .ge 7, 3) := by decide +kernel
theorem dX9_isPerson_12 : decode cX9_isPerson 12 = .ok (.iconst 1, 1) := by decide +kernel
theorem dX9_isPerson_13 : decode cX9_isPerson 13 = .ok (.goto 4, 3) := by decide +kernel
theorem dX9_isPerson_16 : decode cX9_isPerson 16 = .ok (.iconst 0, 1) := by decide +kernel
theorem dX9_isPerson_17 : decode cX9_isPerson 17 = .ok (.ireturn, 1) := by decide +kernel
theorem dX9_isOf_0 : decode cX9_isOf 0 = .ok (.iload_n 0, 1) := by decide +kernel
theorem dX9_isOf_1 : decode cX9_isOf 1 = .ok (.iload_n 1, 1) := by decide +kernel
theorem dX9_isOf_2 : decode cX9_isOf 2 = .ok (.ishr, 1) := by decide +kernel
theorem dX9_isOf_3 : decode cX9_isOf 3 = .ok (.iconst 1, 1) := by decide +kernel
theorem dX9_isOf_4 : decode cX9_isOf 4 = .ok (.iand, 1) := by decide +kernel
theorem dX9_isOf_5 : decode cX9_isOf 5 = .ok (.iconst 1, 1) := by decide +kernel
theorem dX9_isOf_6 : decode cX9_isOf 6 = .ok (.if_icmp .ne 7, 3) := by decide +kernel
theorem dX9_isOf_9 : decode cX9_isOf 9 = .ok (.iconst 1, 1) := by decide +kernel
theorem dX9_isOf_10 : decode cX9_isOf 10 = .ok (.goto 4, 3) := by decide +kernel
theorem dX9_isOf_13 : decode cX9_isOf 13 = .ok (.iconst 0, 1) := by decide +kernel
theorem dX9_isOf_14 : decode cX9_isOf 14 = .ok (.ireturn, 1) := by decide +kernel
theorem dX9_size_0 : decode cX9_size 0 = .ok (.iconst 0, 1) := by decide +kernel
theorem dX9_size_1 : decode cX9_size 1 = .ok (.istore_n 1, 1) := by decide +kernel
theorem dX9_size_2 : decode cX9_size 2 = .ok (.iload_n 0, 1) := by decide +kernel
theorem dX9_size_3 : decode cX9_size 3 = .ok (.istore_n 2, 1) := by decide +kernel
theorem dX9_size_4 : decode cX9_size 4 = .ok (.iload_n 2, 1) := by decide +kernel
theorem dX9_size_5 : decode cX9_size 5 = .ok (.ifCond .le 16, 3) := by decide +kernel
theorem dX9_size_8 : decode cX9_size 8 = .ok (.iload_n 1, 1) := by decide +kernel
theorem dX9_size_9 : decode cX9_size 9 = .ok (.iload_n 2, 1) := by decide +kernel
theorem dX9_size_10 : decode cX9_size 10 = .ok (.iconst 1, 1) := by decide +kernel
theorem dX9_size_11 : decode cX9_size 11 = .ok (.iand, 1) := by decide +kernel
theorem dX9_size_12 : decode cX9_size 12 = .ok (.iadd, 1) := by decide +kernel
theorem dX9_size_13 : decode cX9_size 13 = .ok (.istore_n 1, 1) := by decide +kernel
theorem dX9_size_14 : decode cX9_size 14 = .ok (.iload_n 2, 1) := by decide +kernel
theorem dX9_size_15 : decode cX9_size 15 = .ok (.iconst 1, 1) := by decide +kernel
theorem dX9_size_16 : decode cX9_size 16 = .ok (.ishr, 1) := by decide +kernel
theorem dX9_size_17 : decode cX9_size 17 = .ok (.istore_n 2, 1) := by decide +kernel
theorem dX9_size_18 : decode cX9_size 18 = .ok (.goto (-14), 3) := by decide +kernel
theorem dX9_size_21 : decode cX9_size 21 = .ok (.iload_n 1, 1) := by decide +kernel
theorem dX9_size_22 : decode cX9_size 22 = .ok (.ireturn, 1) := by decide +kernel
theorem dX9_digit_0 : decode cX9_digit 0 = .ok (.aload_n 0, 1) := by decide +kernel
theorem dX9_digit_1 : decode cX9_digit 1 = .ok (.getfield 65, 3) := by decide +kernel
theorem dX9_digit_4 : decode cX9_digit 4 = .ok (.iload_n 1, 1) := by decide +kernel
theorem dX9_digit_5 : decode cX9_digit 5 = .ok (.if_icmp .ge 22, 3) := by decide +kernel
theorem dX9_digit_8 : decode cX9_digit 8 = .ok (.aload_n 0, 1) := by decide +kernel
theorem dX9_digit_9 : decode cX9_digit 9 = .ok (.getfield 16, 3) := by decide +kernel
theorem dX9_digit_12 : decode cX9_digit 12 = .ok (.aload_n 0, 1) := by decide +kernel
theorem dX9_digit_13 : decode cX9_digit 13 = .ok (.getfield 65, 3) := by decide +kernel
theorem dX9_digit_16 : decode cX9_digit 16 = .ok (.iaload, 1) := by decide +kernel
theorem dX9_digit_17 : decode cX9_digit 17 = .ok (.bipush 48, 2) := by decide +kernel
theorem dX9_digit_19 : decode cX9_digit 19 = .ok (.bipush 57, 2) := by decide +kernel
theorem dX9_digit_21 : decode cX9_digit 21 = .ok (.invokestatic 58, 3) := by decide +kernel
theorem dX9_digit_24 : decode cX9_digit 24 = .ok (.ifCond .ne 6, 3) := by decide +kernel
theorem dX9_digit_27 : decode cX9_digit 27 = .ok (.bipush (-9), 2) := by decide +kernel
theorem dX9_digit_29 : decode cX9_digit 29 = .ok (.ireturn, 1) := by decide +kernel
theorem dX9_digit_30 : decode cX9_digit 30 = .ok (.aload_n 0, 1) := by decide +kernel
theorem dX9_digit_31 : decode cX9_digit 31 = .ok (.dup, 1) := by decide +kernel
theorem dX9_digit_32 : decode cX9_digit 32 = .ok (.getfield 65, 3) := by decide +kernel
theorem dX9_digit_35 : decode cX9_digit 35 = .ok (.iconst 1, 1) := by decide +kernel
theorem dX9_digit_36 : decode cX9_digit 36 = .ok (.iadd, 1) := by decide +kernel
theorem dX9_digit_37 : decode cX9_digit 37 = .ok (.putfield 65, 3) := by decide +kernel
theorem dX9_digit_40 : decode cX9_digit 40 = .ok (.aload_n 0, 1) := by decide +kernel
theorem dX9_digit_41 : decode cX9_digit 41 = .ok (.getfield 16, 3) := by decide +kernel
theorem dX9_digit_44 : decode cX9_digit 44 = .ok (.aload_n 0, 1) := by decide +kernel
theorem dX9_digit_45 : decode cX9_digit 45 = .ok (.getfield 65, 3) := by decide +kernel
theorem dX9_digit_48 : decode cX9_digit 48 = .ok (.iconst 1, 1) := by decide +kernel
theorem dX9_digit_49 : decode cX9_digit 49 = .ok (.isub, 1) := by decide +kernel
theorem dX9_digit_50 : decode cX9_digit 50 = .ok (.iaload, 1) := by decide +kernel
theorem dX9_digit_51 : decode cX9_digit 51 = .ok (.bipush 48, 2) := by decide +kernel
theorem dX9_digit_53 : decode cX9_digit 53 = .ok (.isub, 1) := by decide +kernel
theorem dX9_digit_54 : decode cX9_digit 54 = .ok (.ireturn, 1) := by decide +kernel
theorem dX9_isSign_0 : decode cX9_isSign 0 = .ok (.aload_n 0, 1) := by decide +kernel
theorem dX9_isSign_1 : decode cX9_isSign 1 = .ok (.getfield 65, 3) := by decide +kernel
theorem dX9_isSign_4 : decode cX9_isSign 4 = .ok (.iload_n 1, 1) := by decide +kernel
theorem dX9_isSign_5 : decode cX9_isSign 5 = .ok (.if_icmp .ge 16, 3) := by decide +kernel
theorem dX9_isSign_8 : decode cX9_isSign 8 = .ok (.aload_n 0, 1) := by decide +kernel
theorem dX9_isSign_9 : decode cX9_isSign 9 = .ok (.getfield 16, 3) := by decide +kernel
theorem dX9_isSign_12 : decode cX9_isSign 12 = .ok (.aload_n 0, 1) := by decide +kernel
theorem dX9_isSign_13 : decode cX9_isSign 13 = .ok (.getfield 65, 3) := by decide +kernel
theorem dX9_isSign_16 : decode cX9_isSign 16 = .ok (.iaload, 1) := by decide +kernel
theorem dX9_isSign_17 : decode cX9_isSign 17 = .ok (.iload_n 2, 1) := by decide +kernel
theorem dX9_isSign_18 : decode cX9_isSign 18 = .ok (.if_icmp .eq 5, 3) := by decide +kernel
theorem dX9_isSign_21 : decode cX9_isSign 21 = .ok (.iconst 0, 1) := by decide +kernel
theorem dX9_isSign_22 : decode cX9_isSign 22 = .ok (.ireturn, 1) := by decide +kernel
theorem dX9_isSign_23 : decode cX9_isSign 23 = .ok (.aload_n 0, 1) := by decide +kernel
theorem dX9_isSign_24 : decode cX9_isSign 24 = .ok (.dup, 1) := by decide +kernel
theorem dX9_isSign_25 : decode cX9_isSign 25 = .ok (.getfield 65, 3) := by decide +kernel
theorem dX9_isSign_28 : decode cX9_isSign 28 = .ok (.iconst 1, 1) := by decide +kernel
theorem dX9_isSign_29 : decode cX9_isSign 29 = .ok (.iadd, 1) := by decide +kernel
theorem dX9_isSign_30 : decode cX9_isSign 30 = .ok (.putfield 65, 3) := by decide +kernel
theorem dX9_isSign_33 : decode cX9_isSign 33 = .ok (.iconst 1, 1) := by decide +kernel
theorem dX9_isSign_34 : decode cX9_isSign 34 = .ok (.ireturn, 1) := by decide +kernel
theorem dX9_line_0 : decode cX9_line 0 = .ok (.aload_n 0, 1) := by decide +kernel
theorem dX9_line_1 : decode cX9_line 1 = .ok (.iconst 0, 1) := by decide +kernel
theorem dX9_line_2 : decode cX9_line 2 = .ok (.putfield 52, 3) := by decide +kernel
theorem dX9_line_5 : decode cX9_line 5 = .ok (.iload_n 1, 1) := by decide +kernel
theorem dX9_line_6 : decode cX9_line 6 = .ok (.invokestatic 68, 3) := by decide +kernel
theorem dX9_line_9 : decode cX9_line 9 = .ok (.ifCond .ne 5, 3) := by decide +kernel
theorem dX9_line_12 : decode cX9_line 12 = .ok (.iconst (-1), 1) := by decide +kernel
theorem dX9_line_13 : decode cX9_line 13 = .ok (.ireturn, 1) := by decide +kernel
theorem dX9_line_14 : decode cX9_line 14 = .ok (.iload_n 2, 1) := by decide +kernel
theorem dX9_line_15 : decode cX9_line 15 = .ok (.invokestatic 72, 3) := by decide +kernel
theorem dX9_line_18 : decode cX9_line 18 = .ok (.ifCond .ne 6, 3) := by decide +kernel
theorem dX9_line_21 : decode cX9_line 21 = .ok (.bipush (-2), 2) := by decide +kernel
theorem dX9_line_23 : decode cX9_line 23 = .ok (.ireturn, 1) := by decide +kernel
theorem dX9_line_24 : decode cX9_line 24 = .ok (.aload_n 0, 1) := by decide +kernel
theorem dX9_line_25 : decode cX9_line 25 = .ok (.iload_n 1, 1) := by decide +kernel
theorem dX9_line_26 : decode cX9_line 26 = .ok (.iload_n 2, 1) := by decide +kernel
theorem dX9_line_27 : decode cX9_line 27 = .ok (.iload_n 3, 1) := by decide +kernel
theorem dX9_line_28 : decode cX9_line 28 = .ok (.iload 4, 2) := by decide +kernel
theorem dX9_line_30 : decode cX9_line 30 = .ok (.invokevirtual 75, 3) := by decide +kernel
theorem dX9_line_33 : decode cX9_line 33 = .ok (.istore 5, 2) := by decide +kernel
theorem dX9_line_35 : decode cX9_line 35 = .ok (.iload 5, 2) := by decide +kernel
theorem dX9_line_37 : decode cX9_line 37 = .ok (.ifCond .eq 10, 3) := by decide +kernel
theorem dX9_line_40 : decode cX9_line 40 = .ok (.aload_n 0, 1) := by decide +kernel
theorem dX9_line_41 : decode cX9_line 41 = .ok (.iload 5, 2) := by decide +kernel
theorem dX9_line_43 : decode cX9_line 43 = .ok (.invokevirtual 79, 3) := by decide +kernel
theorem dX9_line_46 : decode cX9_line 46 = .ok (.ireturn, 1) := by decide +kernel
theorem dX9_line_47 : decode cX9_line 47 = .ok (.bipush 60, 2) := by decide +kernel
theorem dX9_line_49 : decode cX9_line 49 = .ok (.iload_n 1, 1) := by decide +kernel
theorem dX9_line_50 : decode cX9_line 50 = .ok (.imul, 1) := by decide +kernel
theorem dX9_line_51 : decode cX9_line 51 = .ok (.iload_n 3, 1) := by decide +kernel
theorem dX9_line_52 : decode cX9_line 52 = .ok (.iadd, 1) := by decide +kernel
theorem dX9_line_53 : decode cX9_line 53 = .ok (.istore 6, 2) := by decide +kernel
theorem dX9_line_55 : decode cX9_line 55 = .ok (.aload_n 0, 1) := by decide +kernel
theorem dX9_line_56 : decode cX9_line 56 = .ok (.iload 6, 2) := by decide +kernel
theorem dX9_line_58 : decode cX9_line 58 = .ok (.putfield 65, 3) := by decide +kernel
theorem dX9_line_61 : decode cX9_line 61 = .ok (.aload_n 0, 1) := by decide +kernel
theorem dX9_line_62 : decode cX9_line 62 = .ok (.iload 6, 2) := by decide +kernel
theorem dX9_line_64 : decode cX9_line 64 = .ok (.iload 4, 2) := by decide +kernel
theorem dX9_line_66 : decode cX9_line 66 = .ok (.iadd, 1) := by decide +kernel
theorem dX9_line_67 : decode cX9_line 67 = .ok (.invokevirtual 83, 3) := by decide +kernel
theorem dX9_line_70 : decode cX9_line 70 = .ok (.ifCond .ne 14, 3) := by decide +kernel
theorem dX9_line_73 : decode cX9_line 73 = .ok (.bipush (-100), 2) := by decide +kernel
theorem dX9_line_75 : decode cX9_line 75 = .ok (.aload_n 0, 1) := by decide +kernel
theorem dX9_line_76 : decode cX9_line 76 = .ok (.getfield 65, 3) := by decide +kernel
theorem dX9_line_79 : decode cX9_line 79 = .ok (.iload 6, 2) := by decide +kernel
theorem dX9_line_81 : decode cX9_line 81 = .ok (.isub, 1) := by decide +kernel
theorem dX9_line_82 : decode cX9_line 82 = .ok (.isub, 1) := by decide +kernel
theorem dX9_line_83 : decode cX9_line 83 = .ok (.ireturn, 1) := by decide +kernel
theorem dX9_line_84 : decode cX9_line 84 = .ok (.aload_n 0, 1) := by decide +kernel
theorem dX9_line_85 : decode cX9_line 85 = .ok (.invokevirtual 86, 3) := by decide +kernel
theorem dX9_line_88 : decode cX9_line 88 = .ok (.aload_n 0, 1) := by decide +kernel
theorem dX9_line_89 : decode cX9_line 89 = .ok (.getfield 62, 3) := by decide +kernel
theorem dX9_line_92 : decode cX9_line 92 = .ok (.ireturn, 1) := by decide +kernel
theorem dX9_takeLine_0 : decode cX9_takeLine 0 = .ok (.aload_n 0, 1) := by decide +kernel
theorem dX9_takeLine_1 : decode cX9_takeLine 1 = .ok (.aload_n 0, 1) := by decide +kernel
theorem dX9_takeLine_2 : decode cX9_takeLine 2 = .ok (.getfield 89, 3) := by decide +kernel
theorem dX9_takeLine_5 : decode cX9_takeLine 5 = .ok (.putfield 92, 3) := by decide +kernel
theorem dX9_takeLine_8 : decode cX9_takeLine 8 = .ok (.aload_n 0, 1) := by decide +kernel
theorem dX9_takeLine_9 : decode cX9_takeLine 9 = .ok (.aload_n 0, 1) := by decide +kernel
theorem dX9_takeLine_10 : decode cX9_takeLine 10 = .ok (.getfield 95, 3) := by decide +kernel
theorem dX9_takeLine_13 : decode cX9_takeLine 13 = .ok (.putfield 62, 3) := by decide +kernel
theorem dX9_takeLine_16 : decode cX9_takeLine 16 = .ok (.iconst 0, 1) := by decide +kernel
theorem dX9_takeLine_17 : decode cX9_takeLine 17 = .ok (.istore_n 1, 1) := by decide +kernel
theorem dX9_takeLine_18 : decode cX9_takeLine 18 = .ok (.iload_n 1, 1) := by decide +kernel
theorem dX9_takeLine_19 : decode cX9_takeLine 19 = .ok (.aload_n 0, 1) := by decide +kernel
theorem dX9_takeLine_20 : decode cX9_takeLine 20 = .ok (.getfield 62, 3) := by decide +kernel
theorem dX9_takeLine_23 : decode cX9_takeLine 23 = .ok (.if_icmp .ge 55, 3) := by decide +kernel
theorem dX9_takeLine_26 : decode cX9_takeLine 26 = .ok (.aload_n 0, 1) := by decide +kernel
theorem dX9_takeLine_27 : decode cX9_takeLine 27 = .ok (.getfield 19, 3) := by decide +kernel
theorem dX9_takeLine_30 : decode cX9_takeLine 30 = .ok (.iload_n 1, 1) := by decide +kernel
theorem dX9_takeLine_31 : decode cX9_takeLine 31 = .ok (.aload_n 0, 1) := by decide +kernel
theorem dX9_takeLine_32 : decode cX9_takeLine 32 = .ok (.getfield 31, 3) := by decide +kernel
theorem dX9_takeLine_35 : decode cX9_takeLine 35 = .ok (.iconst 3, 1) := by decide +kernel
theorem dX9_takeLine_36 : decode cX9_takeLine 36 = .ok (.iload_n 1, 1) := by decide +kernel
theorem dX9_takeLine_37 : decode cX9_takeLine 37 = .ok (.imul, 1) := by decide +kernel
theorem dX9_takeLine_38 : decode cX9_takeLine 38 = .ok (.iaload, 1) := by decide +kernel
theorem dX9_takeLine_39 : decode cX9_takeLine 39 = .ok (.iastore, 1) := by decide +kernel
theorem dX9_takeLine_40 : decode cX9_takeLine 40 = .ok (.aload_n 0, 1) := by decide +kernel
theorem dX9_takeLine_41 : decode cX9_takeLine 41 = .ok (.getfield 22, 3) := by decide +kernel
theorem dX9_takeLine_44 : decode cX9_takeLine 44 = .ok (.iload_n 1, 1) := by decide +kernel
theorem dX9_takeLine_45 : decode cX9_takeLine 45 = .ok (.aload_n 0, 1) := by decide +kernel
theorem dX9_takeLine_46 : decode cX9_takeLine 46 = .ok (.getfield 31, 3) := by decide +kernel
theorem dX9_takeLine_49 : decode cX9_takeLine 49 = .ok (.iconst 3, 1) := by decide +kernel
theorem dX9_takeLine_50 : decode cX9_takeLine 50 = .ok (.iload_n 1, 1) := by decide +kernel
theorem dX9_takeLine_51 : decode cX9_takeLine 51 = .ok (.imul, 1) := by decide +kernel
theorem dX9_takeLine_52 : decode cX9_takeLine 52 = .ok (.iconst 1, 1) := by decide +kernel
theorem dX9_takeLine_53 : decode cX9_takeLine 53 = .ok (.iadd, 1) := by decide +kernel
theorem dX9_takeLine_54 : decode cX9_takeLine 54 = .ok (.iaload, 1) := by decide +kernel
theorem dX9_takeLine_55 : decode cX9_takeLine 55 = .ok (.iastore, 1) := by decide +kernel
theorem dX9_takeLine_56 : decode cX9_takeLine 56 = .ok (.aload_n 0, 1) := by decide +kernel
theorem dX9_takeLine_57 : decode cX9_takeLine 57 = .ok (.getfield 25, 3) := by decide +kernel
theorem dX9_takeLine_60 : decode cX9_takeLine 60 = .ok (.iload_n 1, 1) := by decide +kernel
theorem dX9_takeLine_61 : decode cX9_takeLine 61 = .ok (.aload_n 0, 1) := by decide +kernel
theorem dX9_takeLine_62 : decode cX9_takeLine 62 = .ok (.getfield 31, 3) := by decide +kernel
theorem dX9_takeLine_65 : decode cX9_takeLine 65 = .ok (.iconst 3, 1) := by decide +kernel
theorem dX9_takeLine_66 : decode cX9_takeLine 66 = .ok (.iload_n 1, 1) := by decide +kernel
theorem dX9_takeLine_67 : decode cX9_takeLine 67 = .ok (.imul, 1) := by decide +kernel
theorem dX9_takeLine_68 : decode cX9_takeLine 68 = .ok (.iconst 2, 1) := by decide +kernel
theorem dX9_takeLine_69 : decode cX9_takeLine 69 = .ok (.iadd, 1) := by decide +kernel
theorem dX9_takeLine_70 : decode cX9_takeLine 70 = .ok (.iaload, 1) := by decide +kernel
theorem dX9_takeLine_71 : decode cX9_takeLine 71 = .ok (.iastore, 1) := by decide +kernel
theorem dX9_takeLine_72 : decode cX9_takeLine 72 = .ok (.iinc 1 1, 3) := by decide +kernel
theorem dX9_takeLine_75 : decode cX9_takeLine 75 = .ok (.goto (-57), 3) := by decide +kernel
theorem dX9_takeLine_78 : decode cX9_takeLine 78 = .ok (.iconst 0, 1) := by decide +kernel
theorem dX9_takeLine_79 : decode cX9_takeLine 79 = .ok (.istore_n 1, 1) := by decide +kernel
theorem dX9_takeLine_80 : decode cX9_takeLine 80 = .ok (.iload_n 1, 1) := by decide +kernel
theorem dX9_takeLine_81 : decode cX9_takeLine 81 = .ok (.bipush 36, 2) := by decide +kernel
theorem dX9_takeLine_83 : decode cX9_takeLine 83 = .ok (.if_icmp .ge 16, 3) := by decide +kernel
theorem dX9_takeLine_86 : decode cX9_takeLine 86 = .ok (.aload_n 0, 1) := by decide +kernel
theorem dX9_takeLine_87 : decode cX9_takeLine 87 = .ok (.getfield 28, 3) := by decide +kernel
theorem dX9_takeLine_90 : decode cX9_takeLine 90 = .ok (.iload_n 1, 1) := by decide +kernel
theorem dX9_takeLine_91 : decode cX9_takeLine 91 = .ok (.iconst 0, 1) := by decide +kernel
theorem dX9_takeLine_92 : decode cX9_takeLine 92 = .ok (.iastore, 1) := by decide +kernel
theorem dX9_takeLine_93 : decode cX9_takeLine 93 = .ok (.iinc 1 1, 3) := by decide +kernel
theorem dX9_takeLine_96 : decode cX9_takeLine 96 = .ok (.goto (-16), 3) := by decide +kernel
theorem dX9_takeLine_99 : decode cX9_takeLine 99 = .ok (.aload_n 0, 1) := by decide +kernel
theorem dX9_takeLine_100 : decode cX9_takeLine 100 = .ok (.iconst 1, 1) := by decide +kernel
theorem dX9_takeLine_101 : decode cX9_takeLine 101 = .ok (.aload_n 0, 1) := by decide +kernel
theorem dX9_takeLine_102 : decode cX9_takeLine 102 = .ok (.getfield 62, 3) := by decide +kernel
theorem dX9_takeLine_105 : decode cX9_takeLine 105 = .ok (.ishl, 1) := by decide +kernel
theorem dX9_takeLine_106 : decode cX9_takeLine 106 = .ok (.iconst 1, 1) := by decide +kernel
theorem dX9_takeLine_107 : decode cX9_takeLine 107 = .ok (.isub, 1) := by decide +kernel
theorem dX9_takeLine_108 : decode cX9_takeLine 108 = .ok (.putfield 98, 3) := by decide +kernel
theorem dX9_takeLine_111 : decode cX9_takeLine 111 = .ok (.aload_n 0, 1) := by decide +kernel
theorem dX9_takeLine_112 : decode cX9_takeLine 112 = .ok (.iconst 0, 1) := by decide +kernel
theorem dX9_takeLine_113 : decode cX9_takeLine 113 = .ok (.putfield 101, 3) := by decide +kernel
theorem dX9_takeLine_116 : decode cX9_takeLine 116 = .ok (.aload_n 0, 1) := by decide +kernel
theorem dX9_takeLine_117 : decode cX9_takeLine 117 = .ok (.iconst 0, 1) := by decide +kernel
theorem dX9_takeLine_118 : decode cX9_takeLine 118 = .ok (.putfield 104, 3) := by decide +kernel
theorem dX9_takeLine_121 : decode cX9_takeLine 121 = .ok (.return_, 1) := by decide +kernel
theorem dX9_readLine_0 : decode cX9_readLine 0 = .ok (.aload_n 0, 1) := by decide +kernel
theorem dX9_readLine_1 : decode cX9_readLine 1 = .ok (.iconst 0, 1) := by decide +kernel
theorem dX9_readLine_2 : decode cX9_readLine 2 = .ok (.putfield 95, 3) := by decide +kernel
theorem dX9_readLine_5 : decode cX9_readLine 5 = .ok (.aload_n 0, 1) := by decide +kernel
theorem dX9_readLine_6 : decode cX9_readLine 6 = .ok (.iload_n 1, 1) := by decide +kernel
theorem dX9_readLine_7 : decode cX9_readLine 7 = .ok (.bipush 109, 2) := by decide +kernel
theorem dX9_readLine_9 : decode cX9_readLine 9 = .ok (.invokevirtual 107, 3) := by decide +kernel
theorem dX9_readLine_12 : decode cX9_readLine 12 = .ok (.ifCond .ne 5, 3) := by decide +kernel
theorem dX9_readLine_15 : decode cX9_readLine 15 = .ok (.iconst 0, 1) := by decide +kernel
theorem dX9_readLine_16 : decode cX9_readLine 16 = .ok (.ireturn, 1) := by decide +kernel
theorem dX9_readLine_17 : decode cX9_readLine 17 = .ok (.aload_n 0, 1) := by decide +kernel
theorem dX9_readLine_18 : decode cX9_readLine 18 = .ok (.aload_n 0, 1) := by decide +kernel
theorem dX9_readLine_19 : decode cX9_readLine 19 = .ok (.iload_n 1, 1) := by decide +kernel
theorem dX9_readLine_20 : decode cX9_readLine 20 = .ok (.invokevirtual 111, 3) := by decide +kernel
theorem dX9_readLine_23 : decode cX9_readLine 23 = .ok (.putfield 89, 3) := by decide +kernel
theorem dX9_readLine_26 : decode cX9_readLine 26 = .ok (.aload_n 0, 1) := by decide +kernel
theorem dX9_readLine_27 : decode cX9_readLine 27 = .ok (.getfield 89, 3) := by decide +kernel
theorem dX9_readLine_30 : decode cX9_readLine 30 = .ok (.bipush (-9), 2) := by decide +kernel
theorem dX9_readLine_32 : decode cX9_readLine 32 = .ok (.if_icmp .ne 5, 3) := by decide +kernel
theorem dX9_readLine_35 : decode cX9_readLine 35 = .ok (.iconst 0, 1) := by decide +kernel
theorem dX9_readLine_36 : decode cX9_readLine 36 = .ok (.ireturn, 1) := by decide +kernel
theorem dX9_readLine_37 : decode cX9_readLine 37 = .ok (.aload_n 0, 1) := by decide +kernel
theorem dX9_readLine_38 : decode cX9_readLine 38 = .ok (.getfield 95, 3) := by decide +kernel
theorem dX9_readLine_41 : decode cX9_readLine 41 = .ok (.iconst 2, 1) := by decide +kernel
theorem dX9_readLine_42 : decode cX9_readLine 42 = .ok (.if_icmp .lt 20, 3) := by decide +kernel
theorem dX9_readLine_45 : decode cX9_readLine 45 = .ok (.aload_n 0, 1) := by decide +kernel
theorem dX9_readLine_46 : decode cX9_readLine 46 = .ok (.getfield 95, 3) := by decide +kernel
theorem dX9_readLine_49 : decode cX9_readLine 49 = .ok (.bipush 6, 2) := by decide +kernel
theorem dX9_readLine_51 : decode cX9_readLine 51 = .ok (.if_icmp .ge 31, 3) := by decide +kernel
theorem dX9_readLine_54 : decode cX9_readLine 54 = .ok (.aload_n 0, 1) := by decide +kernel
theorem dX9_readLine_55 : decode cX9_readLine 55 = .ok (.getfield 65, 3) := by decide +kernel
theorem dX9_readLine_58 : decode cX9_readLine 58 = .ok (.iload_n 1, 1) := by decide +kernel
theorem dX9_readLine_59 : decode cX9_readLine 59 = .ok (.if_icmp .ge 23, 3) := by decide +kernel
theorem dX9_readLine_62 : decode cX9_readLine 62 = .ok (.aload_n 0, 1) := by decide +kernel
theorem dX9_readLine_63 : decode cX9_readLine 63 = .ok (.iload_n 1, 1) := by decide +kernel
theorem dX9_readLine_64 : decode cX9_readLine 64 = .ok (.bipush 59, 2) := by decide +kernel
theorem dX9_readLine_66 : decode cX9_readLine 66 = .ok (.invokevirtual 107, 3) := by decide +kernel
theorem dX9_readLine_69 : decode cX9_readLine 69 = .ok (.ifCond .eq 11, 3) := by decide +kernel
theorem dX9_readLine_72 : decode cX9_readLine 72 = .ok (.aload_n 0, 1) := by decide +kernel
theorem dX9_readLine_73 : decode cX9_readLine 73 = .ok (.iload_n 1, 1) := by decide +kernel
theorem dX9_readLine_74 : decode cX9_readLine 74 = .ok (.invokevirtual 114, 3) := by decide +kernel
theorem dX9_readLine_77 : decode cX9_readLine 77 = .ok (.ifCond .ne (-40), 3) := by decide +kernel
theorem dX9_readLine_80 : decode cX9_readLine 80 = .ok (.iconst 0, 1) := by decide +kernel
theorem dX9_readLine_81 : decode cX9_readLine 81 = .ok (.ireturn, 1) := by decide +kernel
theorem dX9_readLine_82 : decode cX9_readLine 82 = .ok (.aload_n 0, 1) := by decide +kernel
theorem dX9_readLine_83 : decode cX9_readLine 83 = .ok (.getfield 65, 3) := by decide +kernel
theorem dX9_readLine_86 : decode cX9_readLine 86 = .ok (.iload_n 1, 1) := by decide +kernel
theorem dX9_readLine_87 : decode cX9_readLine 87 = .ok (.if_icmp .ne 7, 3) := by decide +kernel
theorem dX9_readLine_90 : decode cX9_readLine 90 = .ok (.iconst 1, 1) := by decide +kernel
theorem dX9_readLine_91 : decode cX9_readLine 91 = .ok (.goto 4, 3) := by decide +kernel
theorem dX9_readLine_94 : decode cX9_readLine 94 = .ok (.iconst 0, 1) := by decide +kernel
theorem dX9_readLine_95 : decode cX9_readLine 95 = .ok (.ireturn, 1) := by decide +kernel
theorem dX9_readPerson_0 : decode cX9_readPerson 0 = .ok (.aload_n 0, 1) := by decide +kernel
theorem dX9_readPerson_1 : decode cX9_readPerson 1 = .ok (.getfield 65, 3) := by decide +kernel
theorem dX9_readPerson_4 : decode cX9_readPerson 4 = .ok (.iload_n 1, 1) := by decide +kernel
theorem dX9_readPerson_5 : decode cX9_readPerson 5 = .ok (.if_icmp .ge 15, 3) := by decide +kernel
theorem dX9_readPerson_8 : decode cX9_readPerson 8 = .ok (.aload_n 0, 1) := by decide +kernel
theorem dX9_readPerson_9 : decode cX9_readPerson 9 = .ok (.getfield 16, 3) := by decide +kernel
theorem dX9_readPerson_12 : decode cX9_readPerson 12 = .ok (.aload_n 0, 1) := by decide +kernel
theorem dX9_readPerson_13 : decode cX9_readPerson 13 = .ok (.getfield 65, 3) := by decide +kernel
theorem dX9_readPerson_16 : decode cX9_readPerson 16 = .ok (.iaload, 1) := by decide +kernel
theorem dX9_readPerson_17 : decode cX9_readPerson 17 = .ok (.goto 4, 3) := by decide +kernel
theorem dX9_readPerson_20 : decode cX9_readPerson 20 = .ok (.iconst 0, 1) := by decide +kernel
theorem dX9_readPerson_21 : decode cX9_readPerson 21 = .ok (.istore_n 2, 1) := by decide +kernel
theorem dX9_readPerson_22 : decode cX9_readPerson 22 = .ok (.iconst 3, 1) := by decide +kernel
theorem dX9_readPerson_23 : decode cX9_readPerson 23 = .ok (.aload_n 0, 1) := by decide +kernel
theorem dX9_readPerson_24 : decode cX9_readPerson 24 = .ok (.getfield 95, 3) := by decide +kernel
theorem dX9_readPerson_27 : decode cX9_readPerson 27 = .ok (.imul, 1) := by decide +kernel
theorem dX9_readPerson_28 : decode cX9_readPerson 28 = .ok (.istore_n 3, 1) := by decide +kernel
theorem dX9_readPerson_29 : decode cX9_readPerson 29 = .ok (.aload_n 0, 1) := by decide +kernel
theorem dX9_readPerson_30 : decode cX9_readPerson 30 = .ok (.getfield 31, 3) := by decide +kernel
theorem dX9_readPerson_33 : decode cX9_readPerson 33 = .ok (.iload_n 3, 1) := by decide +kernel
theorem dX9_readPerson_34 : decode cX9_readPerson 34 = .ok (.iload_n 2, 1) := by decide +kernel
theorem dX9_readPerson_35 : decode cX9_readPerson 35 = .ok (.bipush 112, 2) := by decide +kernel
theorem dX9_readPerson_37 : decode cX9_readPerson 37 = .ok (.if_icmp .ne 7, 3) := by decide +kernel
theorem dX9_readPerson_40 : decode cX9_readPerson 40 = .ok (.iconst 0, 1) := by decide +kernel
theorem dX9_readPerson_41 : decode cX9_readPerson 41 = .ok (.goto 25, 3) := by decide +kernel
theorem dX9_readPerson_44 : decode cX9_readPerson 44 = .ok (.iload_n 2, 1) := by decide +kernel
theorem dX9_readPerson_45 : decode cX9_readPerson 45 = .ok (.bipush 117, 2) := by decide +kernel
theorem dX9_readPerson_47 : decode cX9_readPerson 47 = .ok (.if_icmp .ne 7, 3) := by decide +kernel
theorem dX9_readPerson_50 : decode cX9_readPerson 50 = .ok (.iconst 1, 1) := by decide +kernel
theorem dX9_readPerson_51 : decode cX9_readPerson 51 = .ok (.goto 15, 3) := by decide +kernel
theorem dX9_readPerson_54 : decode cX9_readPerson 54 = .ok (.iload_n 2, 1) := by decide +kernel
theorem dX9_readPerson_55 : decode cX9_readPerson 55 = .ok (.bipush 108, 2) := by decide +kernel
theorem dX9_readPerson_57 : decode cX9_readPerson 57 = .ok (.if_icmp .ne 7, 3) := by decide +kernel
theorem dX9_readPerson_60 : decode cX9_readPerson 60 = .ok (.iconst 2, 1) := by decide +kernel
theorem dX9_readPerson_61 : decode cX9_readPerson 61 = .ok (.goto 5, 3) := by decide +kernel
theorem dX9_readPerson_64 : decode cX9_readPerson 64 = .ok (.bipush (-9), 2) := by decide +kernel
theorem dX9_readPerson_66 : decode cX9_readPerson 66 = .ok (.iastore, 1) := by decide +kernel
theorem dX9_readPerson_67 : decode cX9_readPerson 67 = .ok (.aload_n 0, 1) := by decide +kernel
theorem dX9_readPerson_68 : decode cX9_readPerson 68 = .ok (.getfield 31, 3) := by decide +kernel
theorem dX9_readPerson_71 : decode cX9_readPerson 71 = .ok (.iload_n 3, 1) := by decide +kernel
theorem dX9_readPerson_72 : decode cX9_readPerson 72 = .ok (.iaload, 1) := by decide +kernel
theorem dX9_readPerson_73 : decode cX9_readPerson 73 = .ok (.bipush (-9), 2) := by decide +kernel
theorem dX9_readPerson_75 : decode cX9_readPerson 75 = .ok (.if_icmp .ne 5, 3) := by decide +kernel
theorem dX9_readPerson_78 : decode cX9_readPerson 78 = .ok (.iconst 0, 1) := by decide +kernel
theorem dX9_readPerson_79 : decode cX9_readPerson 79 = .ok (.ireturn, 1) := by decide +kernel
theorem dX9_readPerson_80 : decode cX9_readPerson 80 = .ok (.aload_n 0, 1) := by decide +kernel
theorem dX9_readPerson_81 : decode cX9_readPerson 81 = .ok (.dup, 1) := by decide +kernel
theorem dX9_readPerson_82 : decode cX9_readPerson 82 = .ok (.getfield 65, 3) := by decide +kernel
theorem dX9_readPerson_85 : decode cX9_readPerson 85 = .ok (.iconst 1, 1) := by decide +kernel
theorem dX9_readPerson_86 : decode cX9_readPerson 86 = .ok (.iadd, 1) := by decide +kernel
theorem dX9_readPerson_87 : decode cX9_readPerson 87 = .ok (.putfield 65, 3) := by decide +kernel
theorem dX9_readPerson_90 : decode cX9_readPerson 90 = .ok (.aload_n 0, 1) := by decide +kernel
theorem dX9_readPerson_91 : decode cX9_readPerson 91 = .ok (.getfield 31, 3) := by decide +kernel
theorem dX9_readPerson_94 : decode cX9_readPerson 94 = .ok (.iload_n 3, 1) := by decide +kernel
theorem dX9_readPerson_95 : decode cX9_readPerson 95 = .ok (.iconst 1, 1) := by decide +kernel
theorem dX9_readPerson_96 : decode cX9_readPerson 96 = .ok (.iadd, 1) := by decide +kernel
theorem dX9_readPerson_97 : decode cX9_readPerson 97 = .ok (.aload_n 0, 1) := by decide +kernel
theorem dX9_readPerson_98 : decode cX9_readPerson 98 = .ok (.iload_n 1, 1) := by decide +kernel
theorem dX9_readPerson_99 : decode cX9_readPerson 99 = .ok (.invokevirtual 111, 3) := by decide +kernel
theorem dX9_readPerson_102 : decode cX9_readPerson 102 = .ok (.iastore, 1) := by decide +kernel
theorem dX9_readPerson_103 : decode cX9_readPerson 103 = .ok (.aload_n 0, 1) := by decide +kernel
theorem dX9_readPerson_104 : decode cX9_readPerson 104 = .ok (.getfield 31, 3) := by decide +kernel
theorem dX9_readPerson_107 : decode cX9_readPerson 107 = .ok (.iload_n 3, 1) := by decide +kernel
theorem dX9_readPerson_108 : decode cX9_readPerson 108 = .ok (.iconst 1, 1) := by decide +kernel
theorem dX9_readPerson_109 : decode cX9_readPerson 109 = .ok (.iadd, 1) := by decide +kernel
theorem dX9_readPerson_110 : decode cX9_readPerson 110 = .ok (.iaload, 1) := by decide +kernel
theorem dX9_readPerson_111 : decode cX9_readPerson 111 = .ok (.bipush (-9), 2) := by decide +kernel
theorem dX9_readPerson_113 : decode cX9_readPerson 113 = .ok (.if_icmp .ne 5, 3) := by decide +kernel
theorem dX9_readPerson_116 : decode cX9_readPerson 116 = .ok (.iconst 0, 1) := by decide +kernel
theorem dX9_readPerson_117 : decode cX9_readPerson 117 = .ok (.ireturn, 1) := by decide +kernel
theorem dX9_readPerson_118 : decode cX9_readPerson 118 = .ok (.aload_n 0, 1) := by decide +kernel
theorem dX9_readPerson_119 : decode cX9_readPerson 119 = .ok (.getfield 31, 3) := by decide +kernel
theorem dX9_readPerson_122 : decode cX9_readPerson 122 = .ok (.iload_n 3, 1) := by decide +kernel
theorem dX9_readPerson_123 : decode cX9_readPerson 123 = .ok (.iconst 2, 1) := by decide +kernel
theorem dX9_readPerson_124 : decode cX9_readPerson 124 = .ok (.iadd, 1) := by decide +kernel
theorem dX9_readPerson_125 : decode cX9_readPerson 125 = .ok (.aload_n 0, 1) := by decide +kernel
theorem dX9_readPerson_126 : decode cX9_readPerson 126 = .ok (.iload_n 1, 1) := by decide +kernel
theorem dX9_readPerson_127 : decode cX9_readPerson 127 = .ok (.invokevirtual 111, 3) := by decide +kernel
theorem dX9_readPerson_130 : decode cX9_readPerson 130 = .ok (.iastore, 1) := by decide +kernel
theorem dX9_readPerson_131 : decode cX9_readPerson 131 = .ok (.aload_n 0, 1) := by decide +kernel
theorem dX9_readPerson_132 : decode cX9_readPerson 132 = .ok (.dup, 1) := by decide +kernel
theorem dX9_readPerson_133 : decode cX9_readPerson 133 = .ok (.getfield 95, 3) := by decide +kernel
theorem dX9_readPerson_136 : decode cX9_readPerson 136 = .ok (.iconst 1, 1) := by decide +kernel
theorem dX9_readPerson_137 : decode cX9_readPerson 137 = .ok (.iadd, 1) := by decide +kernel
theorem dX9_readPerson_138 : decode cX9_readPerson 138 = .ok (.putfield 95, 3) := by decide +kernel
theorem dX9_readPerson_141 : decode cX9_readPerson 141 = .ok (.aload_n 0, 1) := by decide +kernel
theorem dX9_readPerson_142 : decode cX9_readPerson 142 = .ok (.getfield 31, 3) := by decide +kernel
theorem dX9_readPerson_145 : decode cX9_readPerson 145 = .ok (.iload_n 3, 1) := by decide +kernel
theorem dX9_readPerson_146 : decode cX9_readPerson 146 = .ok (.iconst 2, 1) := by decide +kernel
theorem dX9_readPerson_147 : decode cX9_readPerson 147 = .ok (.iadd, 1) := by decide +kernel
theorem dX9_readPerson_148 : decode cX9_readPerson 148 = .ok (.iaload, 1) := by decide +kernel
theorem dX9_readPerson_149 : decode cX9_readPerson 149 = .ok (.bipush (-9), 2) := by decide +kernel
theorem dX9_readPerson_151 : decode cX9_readPerson 151 = .ok (.if_icmp .eq 7, 3) := by decide +kernel
theorem dX9_readPerson_154 : decode cX9_readPerson 154 = .ok (.iconst 1, 1) := by decide +kernel
theorem dX9_readPerson_155 : decode cX9_readPerson 155 = .ok (.goto 4, 3) := by decide +kernel
theorem dX9_readPerson_158 : decode cX9_readPerson 158 = .ok (.iconst 0, 1) := by decide +kernel
theorem dX9_readPerson_159 : decode cX9_readPerson 159 = .ok (.ireturn, 1) := by decide +kernel
theorem dX9_wouldOf_0 : decode cX9_wouldOf 0 = .ok (.aload_n 0, 1) := by decide +kernel
theorem dX9_wouldOf_1 : decode cX9_wouldOf 1 = .ok (.getfield 19, 3) := by decide +kernel
theorem dX9_wouldOf_4 : decode cX9_wouldOf 4 = .ok (.iload_n 1, 1) := by decide +kernel
theorem dX9_wouldOf_5 : decode cX9_wouldOf 5 = .ok (.iaload, 1) := by decide +kernel
theorem dX9_wouldOf_6 : decode cX9_wouldOf 6 = .ok (.ifCond .ne 12, 3) := by decide +kernel
theorem dX9_wouldOf_9 : decode cX9_wouldOf 9 = .ok (.aload_n 0, 1) := by decide +kernel
theorem dX9_wouldOf_10 : decode cX9_wouldOf 10 = .ok (.getfield 22, 3) := by decide +kernel
theorem dX9_wouldOf_13 : decode cX9_wouldOf 13 = .ok (.iload_n 1, 1) := by decide +kernel
theorem dX9_wouldOf_14 : decode cX9_wouldOf 14 = .ok (.iaload, 1) := by decide +kernel
theorem dX9_wouldOf_15 : decode cX9_wouldOf 15 = .ok (.goto 32, 3) := by decide +kernel
theorem dX9_wouldOf_18 : decode cX9_wouldOf 18 = .ok (.aload_n 0, 1) := by decide +kernel
theorem dX9_wouldOf_19 : decode cX9_wouldOf 19 = .ok (.getfield 19, 3) := by decide +kernel
theorem dX9_wouldOf_22 : decode cX9_wouldOf 22 = .ok (.iload_n 1, 1) := by decide +kernel
theorem dX9_wouldOf_23 : decode cX9_wouldOf 23 = .ok (.iaload, 1) := by decide +kernel
theorem dX9_wouldOf_24 : decode cX9_wouldOf 24 = .ok (.iconst 1, 1) := by decide +kernel
theorem dX9_wouldOf_25 : decode cX9_wouldOf 25 = .ok (.if_icmp .ne 14, 3) := by decide +kernel
theorem dX9_wouldOf_28 : decode cX9_wouldOf 28 = .ok (.iconst 2, 1) := by decide +kernel
theorem dX9_wouldOf_29 : decode cX9_wouldOf 29 = .ok (.aload_n 0, 1) := by decide +kernel
theorem dX9_wouldOf_30 : decode cX9_wouldOf 30 = .ok (.getfield 22, 3) := by decide +kernel
theorem dX9_wouldOf_33 : decode cX9_wouldOf 33 = .ok (.iload_n 1, 1) := by decide +kernel
theorem dX9_wouldOf_34 : decode cX9_wouldOf 34 = .ok (.iaload, 1) := by decide +kernel
theorem dX9_wouldOf_35 : decode cX9_wouldOf 35 = .ok (.imul, 1) := by decide +kernel
theorem dX9_wouldOf_36 : decode cX9_wouldOf 36 = .ok (.goto 11, 3) := by decide +kernel
theorem dX9_wouldOf_39 : decode cX9_wouldOf 39 = .ok (.aload_n 0, 1) := by decide +kernel
theorem dX9_wouldOf_40 : decode cX9_wouldOf 40 = .ok (.getfield 22, 3) := by decide +kernel
theorem dX9_wouldOf_43 : decode cX9_wouldOf 43 = .ok (.iload_n 1, 1) := by decide +kernel
theorem dX9_wouldOf_44 : decode cX9_wouldOf 44 = .ok (.iaload, 1) := by decide +kernel
theorem dX9_wouldOf_45 : decode cX9_wouldOf 45 = .ok (.iconst 2, 1) := by decide +kernel
theorem dX9_wouldOf_46 : decode cX9_wouldOf 46 = .ok (.idiv, 1) := by decide +kernel
theorem dX9_wouldOf_47 : decode cX9_wouldOf 47 = .ok (.ireturn, 1) := by decide +kernel
theorem dX9_mayOf_0 : decode cX9_mayOf 0 = .ok (.aload_n 0, 1) := by decide +kernel
theorem dX9_mayOf_1 : decode cX9_mayOf 1 = .ok (.getfield 25, 3) := by decide +kernel
theorem dX9_mayOf_4 : decode cX9_mayOf 4 = .ok (.iload_n 1, 1) := by decide +kernel
theorem dX9_mayOf_5 : decode cX9_mayOf 5 = .ok (.iaload, 1) := by decide +kernel
theorem dX9_mayOf_6 : decode cX9_mayOf 6 = .ok (.aload_n 0, 1) := by decide +kernel
theorem dX9_mayOf_7 : decode cX9_mayOf 7 = .ok (.getfield 92, 3) := by decide +kernel
theorem dX9_mayOf_10 : decode cX9_mayOf 10 = .ok (.iadd, 1) := by decide +kernel
theorem dX9_mayOf_11 : decode cX9_mayOf 11 = .ok (.istore_n 2, 1) := by decide +kernel
theorem dX9_mayOf_12 : decode cX9_mayOf 12 = .ok (.aload_n 0, 1) := by decide +kernel
theorem dX9_mayOf_13 : decode cX9_mayOf 13 = .ok (.iload_n 1, 1) := by decide +kernel
theorem dX9_mayOf_14 : decode cX9_mayOf 14 = .ok (.invokevirtual 117, 3) := by decide +kernel
theorem dX9_mayOf_17 : decode cX9_mayOf 17 = .ok (.iload_n 2, 1) := by decide +kernel
theorem dX9_mayOf_18 : decode cX9_mayOf 18 = .ok (.if_icmp .ge 11, 3) := by decide +kernel
theorem dX9_mayOf_21 : decode cX9_mayOf 21 = .ok (.aload_n 0, 1) := by decide +kernel
theorem dX9_mayOf_22 : decode cX9_mayOf 22 = .ok (.iload_n 1, 1) := by decide +kernel
theorem dX9_mayOf_23 : decode cX9_mayOf 23 = .ok (.invokevirtual 117, 3) := by decide +kernel
theorem dX9_mayOf_26 : decode cX9_mayOf 26 = .ok (.goto 4, 3) := by decide +kernel
theorem dX9_mayOf_29 : decode cX9_mayOf 29 = .ok (.iload_n 2, 1) := by decide +kernel
theorem dX9_mayOf_30 : decode cX9_mayOf 30 = .ok (.ireturn, 1) := by decide +kernel
theorem dX9_sumOf_0 : decode cX9_sumOf 0 = .ok (.iconst 0, 1) := by decide +kernel
theorem dX9_sumOf_1 : decode cX9_sumOf 1 = .ok (.istore_n 3, 1) := by decide +kernel
theorem dX9_sumOf_2 : decode cX9_sumOf 2 = .ok (.iconst 0, 1) := by decide +kernel
theorem dX9_sumOf_3 : decode cX9_sumOf 3 = .ok (.istore 4, 2) := by decide +kernel
theorem dX9_sumOf_5 : decode cX9_sumOf 5 = .ok (.iload 4, 2) := by decide +kernel
theorem dX9_sumOf_7 : decode cX9_sumOf 7 = .ok (.aload_n 0, 1) := by decide +kernel
theorem dX9_sumOf_8 : decode cX9_sumOf 8 = .ok (.getfield 62, 3) := by decide +kernel
theorem dX9_sumOf_11 : decode cX9_sumOf 11 = .ok (.if_icmp .ge 43, 3) := by decide +kernel
theorem dX9_sumOf_14 : decode cX9_sumOf 14 = .ok (.iload_n 3, 1) := by decide +kernel
theorem dX9_sumOf_15 : decode cX9_sumOf 15 = .ok (.iload_n 2, 1) := by decide +kernel
theorem dX9_sumOf_16 : decode cX9_sumOf 16 = .ok (.ifCond .eq 18, 3) := by decide +kernel
theorem dX9_sumOf_19 : decode cX9_sumOf 19 = .ok (.aload_n 0, 1) := by decide +kernel
theorem dX9_sumOf_20 : decode cX9_sumOf 20 = .ok (.getfield 28, 3) := by decide +kernel
theorem dX9_sumOf_23 : decode cX9_sumOf 23 = .ok (.bipush 6, 2) := by decide +kernel
theorem dX9_sumOf_25 : decode cX9_sumOf 25 = .ok (.iload_n 1, 1) := by decide +kernel
theorem dX9_sumOf_26 : decode cX9_sumOf 26 = .ok (.imul, 1) := by decide +kernel
theorem dX9_sumOf_27 : decode cX9_sumOf 27 = .ok (.iload 4, 2) := by decide +kernel
theorem dX9_sumOf_29 : decode cX9_sumOf 29 = .ok (.iadd, 1) := by decide +kernel
theorem dX9_sumOf_30 : decode cX9_sumOf 30 = .ok (.iaload, 1) := by decide +kernel
theorem dX9_sumOf_31 : decode cX9_sumOf 31 = .ok (.goto 15, 3) := by decide +kernel
theorem dX9_sumOf_34 : decode cX9_sumOf 34 = .ok (.aload_n 0, 1) := by decide +kernel
theorem dX9_sumOf_35 : decode cX9_sumOf 35 = .ok (.getfield 28, 3) := by decide +kernel
theorem dX9_sumOf_38 : decode cX9_sumOf 38 = .ok (.bipush 6, 2) := by decide +kernel
theorem dX9_sumOf_40 : decode cX9_sumOf 40 = .ok (.iload 4, 2) := by decide +kernel
theorem dX9_sumOf_42 : decode cX9_sumOf 42 = .ok (.imul, 1) := by decide +kernel
theorem dX9_sumOf_43 : decode cX9_sumOf 43 = .ok (.iload_n 1, 1) := by decide +kernel
theorem dX9_sumOf_44 : decode cX9_sumOf 44 = .ok (.iadd, 1) := by decide +kernel
theorem dX9_sumOf_45 : decode cX9_sumOf 45 = .ok (.iaload, 1) := by decide +kernel
theorem dX9_sumOf_46 : decode cX9_sumOf 46 = .ok (.iadd, 1) := by decide +kernel
theorem dX9_sumOf_47 : decode cX9_sumOf 47 = .ok (.istore_n 3, 1) := by decide +kernel
theorem dX9_sumOf_48 : decode cX9_sumOf 48 = .ok (.iinc 4 1, 3) := by decide +kernel
theorem dX9_sumOf_51 : decode cX9_sumOf 51 = .ok (.goto (-46), 3) := by decide +kernel
theorem dX9_sumOf_54 : decode cX9_sumOf 54 = .ok (.iload_n 3, 1) := by decide +kernel
theorem dX9_sumOf_55 : decode cX9_sumOf 55 = .ok (.ireturn, 1) := by decide +kernel
theorem dX9_ofPerson_0 : decode cX9_ofPerson 0 = .ok (.aload_n 0, 1) := by decide +kernel
theorem dX9_ofPerson_1 : decode cX9_ofPerson 1 = .ok (.iload_n 1, 1) := by decide +kernel
theorem dX9_ofPerson_2 : decode cX9_ofPerson 2 = .ok (.invokevirtual 120, 3) := by decide +kernel
theorem dX9_ofPerson_5 : decode cX9_ofPerson 5 = .ok (.ifCond .ne 5, 3) := by decide +kernel
theorem dX9_ofPerson_8 : decode cX9_ofPerson 8 = .ok (.iconst (-1), 1) := by decide +kernel
theorem dX9_ofPerson_9 : decode cX9_ofPerson 9 = .ok (.ireturn, 1) := by decide +kernel
theorem dX9_ofPerson_10 : decode cX9_ofPerson 10 = .ok (.iload_n 2, 1) := by decide +kernel
theorem dX9_ofPerson_11 : decode cX9_ofPerson 11 = .ok (.tableswitch 101 0 7 #[45, 52, 59, 66, 72, 78, 87, 94], 45) := by decide +kernel
theorem dX9_ofPerson_56 : decode cX9_ofPerson 56 = .ok (.aload_n 0, 1) := by decide +kernel
theorem dX9_ofPerson_57 : decode cX9_ofPerson 57 = .ok (.getfield 19, 3) := by decide +kernel
theorem dX9_ofPerson_60 : decode cX9_ofPerson 60 = .ok (.iload_n 1, 1) := by decide +kernel
theorem dX9_ofPerson_61 : decode cX9_ofPerson 61 = .ok (.iaload, 1) := by decide +kernel
theorem dX9_ofPerson_62 : decode cX9_ofPerson 62 = .ok (.ireturn, 1) := by decide +kernel
theorem dX9_ofPerson_63 : decode cX9_ofPerson 63 = .ok (.aload_n 0, 1) := by decide +kernel
theorem dX9_ofPerson_64 : decode cX9_ofPerson 64 = .ok (.getfield 22, 3) := by decide +kernel
theorem dX9_ofPerson_67 : decode cX9_ofPerson 67 = .ok (.iload_n 1, 1) := by decide +kernel
theorem dX9_ofPerson_68 : decode cX9_ofPerson 68 = .ok (.iaload, 1) := by decide +kernel
theorem dX9_ofPerson_69 : decode cX9_ofPerson 69 = .ok (.ireturn, 1) := by decide +kernel
theorem dX9_ofPerson_70 : decode cX9_ofPerson 70 = .ok (.aload_n 0, 1) := by decide +kernel
theorem dX9_ofPerson_71 : decode cX9_ofPerson 71 = .ok (.getfield 25, 3) := by decide +kernel
theorem dX9_ofPerson_74 : decode cX9_ofPerson 74 = .ok (.iload_n 1, 1) := by decide +kernel
theorem dX9_ofPerson_75 : decode cX9_ofPerson 75 = .ok (.iaload, 1) := by decide +kernel
theorem dX9_ofPerson_76 : decode cX9_ofPerson 76 = .ok (.ireturn, 1) := by decide +kernel
theorem dX9_ofPerson_77 : decode cX9_ofPerson 77 = .ok (.aload_n 0, 1) := by decide +kernel
theorem dX9_ofPerson_78 : decode cX9_ofPerson 78 = .ok (.iload_n 1, 1) := by decide +kernel
theorem dX9_ofPerson_79 : decode cX9_ofPerson 79 = .ok (.invokevirtual 117, 3) := by decide +kernel
theorem dX9_ofPerson_82 : decode cX9_ofPerson 82 = .ok (.ireturn, 1) := by decide +kernel
theorem dX9_ofPerson_83 : decode cX9_ofPerson 83 = .ok (.aload_n 0, 1) := by decide +kernel
theorem dX9_ofPerson_84 : decode cX9_ofPerson 84 = .ok (.iload_n 1, 1) := by decide +kernel
theorem dX9_ofPerson_85 : decode cX9_ofPerson 85 = .ok (.invokevirtual 123, 3) := by decide +kernel
theorem dX9_ofPerson_88 : decode cX9_ofPerson 88 = .ok (.ireturn, 1) := by decide +kernel
theorem dX9_ofPerson_89 : decode cX9_ofPerson 89 = .ok (.aload_n 0, 1) := by decide +kernel
theorem dX9_ofPerson_90 : decode cX9_ofPerson 90 = .ok (.getfield 98, 3) := by decide +kernel
theorem dX9_ofPerson_93 : decode cX9_ofPerson 93 = .ok (.iload_n 1, 1) := by decide +kernel
theorem dX9_ofPerson_94 : decode cX9_ofPerson 94 = .ok (.ishr, 1) := by decide +kernel
theorem dX9_ofPerson_95 : decode cX9_ofPerson 95 = .ok (.iconst 1, 1) := by decide +kernel
theorem dX9_ofPerson_96 : decode cX9_ofPerson 96 = .ok (.iand, 1) := by decide +kernel
theorem dX9_ofPerson_97 : decode cX9_ofPerson 97 = .ok (.ireturn, 1) := by decide +kernel
theorem dX9_ofPerson_98 : decode cX9_ofPerson 98 = .ok (.aload_n 0, 1) := by decide +kernel
theorem dX9_ofPerson_99 : decode cX9_ofPerson 99 = .ok (.iload_n 1, 1) := by decide +kernel
theorem dX9_ofPerson_100 : decode cX9_ofPerson 100 = .ok (.iconst 1, 1) := by decide +kernel
theorem dX9_ofPerson_101 : decode cX9_ofPerson 101 = .ok (.invokevirtual 126, 3) := by decide +kernel
theorem dX9_ofPerson_104 : decode cX9_ofPerson 104 = .ok (.ireturn, 1) := by decide +kernel
theorem dX9_ofPerson_105 : decode cX9_ofPerson 105 = .ok (.aload_n 0, 1) := by decide +kernel
theorem dX9_ofPerson_106 : decode cX9_ofPerson 106 = .ok (.iload_n 1, 1) := by decide +kernel
theorem dX9_ofPerson_107 : decode cX9_ofPerson 107 = .ok (.iconst 0, 1) := by decide +kernel
theorem dX9_ofPerson_108 : decode cX9_ofPerson 108 = .ok (.invokevirtual 126, 3) := by decide +kernel
theorem dX9_ofPerson_111 : decode cX9_ofPerson 111 = .ok (.ireturn, 1) := by decide +kernel
theorem dX9_ofPerson_112 : decode cX9_ofPerson 112 = .ok (.bipush (-2), 2) := by decide +kernel
theorem dX9_ofPerson_114 : decode cX9_ofPerson 114 = .ok (.ireturn, 1) := by decide +kernel
theorem dX9_hurry_0 : decode cX9_hurry 0 = .ok (.aload_n 0, 1) := by decide +kernel
theorem dX9_hurry_1 : decode cX9_hurry 1 = .ok (.iload_n 1, 1) := by decide +kernel
theorem dX9_hurry_2 : decode cX9_hurry 2 = .ok (.invokevirtual 120, 3) := by decide +kernel
theorem dX9_hurry_5 : decode cX9_hurry 5 = .ok (.ifCond .ne 5, 3) := by decide +kernel
theorem dX9_hurry_8 : decode cX9_hurry 8 = .ok (.iconst (-1), 1) := by decide +kernel
theorem dX9_hurry_9 : decode cX9_hurry 9 = .ok (.ireturn, 1) := by decide +kernel
theorem dX9_hurry_10 : decode cX9_hurry 10 = .ok (.iload_n 2, 1) := by decide +kernel
theorem dX9_hurry_11 : decode cX9_hurry 11 = .ok (.iconst 0, 1) := by decide +kernel
theorem dX9_hurry_12 : decode cX9_hurry 12 = .ok (.bipush 9, 2) := by decide +kernel
theorem dX9_hurry_14 : decode cX9_hurry 14 = .ok (.invokestatic 58, 3) := by decide +kernel
theorem dX9_hurry_17 : decode cX9_hurry 17 = .ok (.ifCond .ne 6, 3) := by decide +kernel
theorem dX9_hurry_20 : decode cX9_hurry 20 = .ok (.bipush (-2), 2) := by decide +kernel
theorem dX9_hurry_22 : decode cX9_hurry 22 = .ok (.ireturn, 1) := by decide +kernel
theorem dX9_hurry_23 : decode cX9_hurry 23 = .ok (.aload_n 0, 1) := by decide +kernel
theorem dX9_hurry_24 : decode cX9_hurry 24 = .ok (.getfield 22, 3) := by decide +kernel
theorem dX9_hurry_27 : decode cX9_hurry 27 = .ok (.iload_n 1, 1) := by decide +kernel
theorem dX9_hurry_28 : decode cX9_hurry 28 = .ok (.iaload, 1) := by decide +kernel
theorem dX9_hurry_29 : decode cX9_hurry 29 = .ok (.istore_n 3, 1) := by decide +kernel
theorem dX9_hurry_30 : decode cX9_hurry 30 = .ok (.aload_n 0, 1) := by decide +kernel
theorem dX9_hurry_31 : decode cX9_hurry 31 = .ok (.getfield 22, 3) := by decide +kernel
theorem dX9_hurry_34 : decode cX9_hurry 34 = .ok (.iload_n 1, 1) := by decide +kernel
theorem dX9_hurry_35 : decode cX9_hurry 35 = .ok (.iload_n 2, 1) := by decide +kernel
theorem dX9_hurry_36 : decode cX9_hurry 36 = .ok (.iastore, 1) := by decide +kernel
theorem dX9_hurry_37 : decode cX9_hurry 37 = .ok (.iload_n 3, 1) := by decide +kernel
theorem dX9_hurry_38 : decode cX9_hurry 38 = .ok (.ireturn, 1) := by decide +kernel
theorem dX9_wall_0 : decode cX9_wall 0 = .ok (.aload_n 0, 1) := by decide +kernel
theorem dX9_wall_1 : decode cX9_wall 1 = .ok (.iload_n 1, 1) := by decide +kernel
theorem dX9_wall_2 : decode cX9_wall 2 = .ok (.invokevirtual 120, 3) := by decide +kernel
theorem dX9_wall_5 : decode cX9_wall 5 = .ok (.ifCond .ne 5, 3) := by decide +kernel
theorem dX9_wall_8 : decode cX9_wall 8 = .ok (.iconst (-1), 1) := by decide +kernel
theorem dX9_wall_9 : decode cX9_wall 9 = .ok (.ireturn, 1) := by decide +kernel
theorem dX9_wall_10 : decode cX9_wall 10 = .ok (.iload_n 2, 1) := by decide +kernel
theorem dX9_wall_11 : decode cX9_wall 11 = .ok (.iconst 0, 1) := by decide +kernel
theorem dX9_wall_12 : decode cX9_wall 12 = .ok (.bipush 9, 2) := by decide +kernel
theorem dX9_wall_14 : decode cX9_wall 14 = .ok (.invokestatic 58, 3) := by decide +kernel
theorem dX9_wall_17 : decode cX9_wall 17 = .ok (.ifCond .ne 6, 3) := by decide +kernel
theorem dX9_wall_20 : decode cX9_wall 20 = .ok (.bipush (-2), 2) := by decide +kernel
theorem dX9_wall_22 : decode cX9_wall 22 = .ok (.ireturn, 1) := by decide +kernel
theorem dX9_wall_23 : decode cX9_wall 23 = .ok (.aload_n 0, 1) := by decide +kernel
theorem dX9_wall_24 : decode cX9_wall 24 = .ok (.getfield 25, 3) := by decide +kernel
theorem dX9_wall_27 : decode cX9_wall 27 = .ok (.iload_n 1, 1) := by decide +kernel
theorem dX9_wall_28 : decode cX9_wall 28 = .ok (.iaload, 1) := by decide +kernel
theorem dX9_wall_29 : decode cX9_wall 29 = .ok (.istore_n 3, 1) := by decide +kernel
theorem dX9_wall_30 : decode cX9_wall 30 = .ok (.aload_n 0, 1) := by decide +kernel
theorem dX9_wall_31 : decode cX9_wall 31 = .ok (.getfield 25, 3) := by decide +kernel
theorem dX9_wall_34 : decode cX9_wall 34 = .ok (.iload_n 1, 1) := by decide +kernel
theorem dX9_wall_35 : decode cX9_wall 35 = .ok (.iload_n 2, 1) := by decide +kernel
theorem dX9_wall_36 : decode cX9_wall 36 = .ok (.iastore, 1) := by decide +kernel
theorem dX9_wall_37 : decode cX9_wall 37 = .ok (.iload_n 3, 1) := by decide +kernel
theorem dX9_wall_38 : decode cX9_wall 38 = .ok (.ireturn, 1) := by decide +kernel
theorem dX9_lease_0 : decode cX9_lease 0 = .ok (.iload_n 1, 1) := by decide +kernel
theorem dX9_lease_1 : decode cX9_lease 1 = .ok (.iconst 0, 1) := by decide +kernel
theorem dX9_lease_2 : decode cX9_lease 2 = .ok (.bipush 9, 2) := by decide +kernel
theorem dX9_lease_4 : decode cX9_lease 4 = .ok (.invokestatic 58, 3) := by decide +kernel
theorem dX9_lease_7 : decode cX9_lease 7 = .ok (.ifCond .ne 6, 3) := by decide +kernel
theorem dX9_lease_10 : decode cX9_lease 10 = .ok (.bipush (-2), 2) := by decide +kernel
theorem dX9_lease_12 : decode cX9_lease 12 = .ok (.ireturn, 1) := by decide +kernel
theorem dX9_lease_13 : decode cX9_lease 13 = .ok (.aload_n 0, 1) := by decide +kernel
theorem dX9_lease_14 : decode cX9_lease 14 = .ok (.getfield 62, 3) := by decide +kernel
theorem dX9_lease_17 : decode cX9_lease 17 = .ok (.ifCond .ne 6, 3) := by decide +kernel
theorem dX9_lease_20 : decode cX9_lease 20 = .ok (.bipush (-3), 2) := by decide +kernel
theorem dX9_lease_22 : decode cX9_lease 22 = .ok (.ireturn, 1) := by decide +kernel
theorem dX9_lease_23 : decode cX9_lease 23 = .ok (.aload_n 0, 1) := by decide +kernel
theorem dX9_lease_24 : decode cX9_lease 24 = .ok (.getfield 92, 3) := by decide +kernel
theorem dX9_lease_27 : decode cX9_lease 27 = .ok (.istore_n 2, 1) := by decide +kernel
theorem dX9_lease_28 : decode cX9_lease 28 = .ok (.aload_n 0, 1) := by decide +kernel
theorem dX9_lease_29 : decode cX9_lease 29 = .ok (.iload_n 1, 1) := by decide +kernel
theorem dX9_lease_30 : decode cX9_lease 30 = .ok (.putfield 92, 3) := by decide +kernel
theorem dX9_lease_33 : decode cX9_lease 33 = .ok (.iload_n 2, 1) := by decide +kernel
theorem dX9_lease_34 : decode cX9_lease 34 = .ok (.ireturn, 1) := by decide +kernel
theorem dX9_callOf_0 : decode cX9_callOf 0 = .ok (.aload_n 0, 1) := by decide +kernel
theorem dX9_callOf_1 : decode cX9_callOf 1 = .ok (.iconst 0, 1) := by decide +kernel
theorem dX9_callOf_2 : decode cX9_callOf 2 = .ok (.putfield 130, 3) := by decide +kernel
theorem dX9_callOf_5 : decode cX9_callOf 5 = .ok (.aload_n 0, 1) := by decide +kernel
theorem dX9_callOf_6 : decode cX9_callOf 6 = .ok (.bipush (-9), 2) := by decide +kernel
theorem dX9_callOf_8 : decode cX9_callOf 8 = .ok (.putfield 133, 3) := by decide +kernel
theorem dX9_callOf_11 : decode cX9_callOf 11 = .ok (.aload_n 0, 1) := by decide +kernel
theorem dX9_callOf_12 : decode cX9_callOf 12 = .ok (.bipush (-9), 2) := by decide +kernel
theorem dX9_callOf_14 : decode cX9_callOf 14 = .ok (.putfield 136, 3) := by decide +kernel
theorem dX9_callOf_17 : decode cX9_callOf 17 = .ok (.iconst 1, 1) := by decide +kernel
theorem dX9_callOf_18 : decode cX9_callOf 18 = .ok (.istore_n 2, 1) := by decide +kernel
theorem dX9_callOf_19 : decode cX9_callOf 19 = .ok (.iload_n 2, 1) := by decide +kernel
theorem dX9_callOf_20 : decode cX9_callOf 20 = .ok (.ifCond .eq 77, 3) := by decide +kernel
theorem dX9_callOf_23 : decode cX9_callOf 23 = .ok (.iconst 0, 1) := by decide +kernel
theorem dX9_callOf_24 : decode cX9_callOf 24 = .ok (.istore_n 2, 1) := by decide +kernel
theorem dX9_callOf_25 : decode cX9_callOf 25 = .ok (.iconst 0, 1) := by decide +kernel
theorem dX9_callOf_26 : decode cX9_callOf 26 = .ok (.istore_n 3, 1) := by decide +kernel
theorem dX9_callOf_27 : decode cX9_callOf 27 = .ok (.iload_n 3, 1) := by decide +kernel
theorem dX9_callOf_28 : decode cX9_callOf 28 = .ok (.aload_n 0, 1) := by decide +kernel
theorem dX9_callOf_29 : decode cX9_callOf 29 = .ok (.getfield 62, 3) := by decide +kernel
theorem dX9_callOf_32 : decode cX9_callOf 32 = .ok (.if_icmp .ge 62, 3) := by decide +kernel
theorem dX9_callOf_35 : decode cX9_callOf 35 = .ok (.iload_n 1, 1) := by decide +kernel
theorem dX9_callOf_36 : decode cX9_callOf 36 = .ok (.iload_n 3, 1) := by decide +kernel
theorem dX9_callOf_37 : decode cX9_callOf 37 = .ok (.invokestatic 139, 3) := by decide +kernel
theorem dX9_callOf_40 : decode cX9_callOf 40 = .ok (.ifCond .eq 48, 3) := by decide +kernel
theorem dX9_callOf_43 : decode cX9_callOf 43 = .ok (.iload_n 3, 1) := by decide +kernel
theorem dX9_callOf_44 : decode cX9_callOf 44 = .ok (.aload_n 0, 1) := by decide +kernel
theorem dX9_callOf_45 : decode cX9_callOf 45 = .ok (.getfield 133, 3) := by decide +kernel
theorem dX9_callOf_48 : decode cX9_callOf 48 = .ok (.if_icmp .eq 40, 3) := by decide +kernel
theorem dX9_callOf_51 : decode cX9_callOf 51 = .ok (.aload_n 0, 1) := by decide +kernel
theorem dX9_callOf_52 : decode cX9_callOf 52 = .ok (.iload_n 3, 1) := by decide +kernel
theorem dX9_callOf_53 : decode cX9_callOf 53 = .ok (.invokevirtual 123, 3) := by decide +kernel
theorem dX9_callOf_56 : decode cX9_callOf 56 = .ok (.aload_n 0, 1) := by decide +kernel
theorem dX9_callOf_57 : decode cX9_callOf 57 = .ok (.getfield 130, 3) := by decide +kernel
theorem dX9_callOf_60 : decode cX9_callOf 60 = .ok (.if_icmp .le 28, 3) := by decide +kernel
theorem dX9_callOf_63 : decode cX9_callOf 63 = .ok (.aload_n 0, 1) := by decide +kernel
theorem dX9_callOf_64 : decode cX9_callOf 64 = .ok (.dup, 1) := by decide +kernel
theorem dX9_callOf_65 : decode cX9_callOf 65 = .ok (.getfield 130, 3) := by decide +kernel
theorem dX9_callOf_68 : decode cX9_callOf 68 = .ok (.iconst 1, 1) := by decide +kernel
theorem dX9_callOf_69 : decode cX9_callOf 69 = .ok (.iadd, 1) := by decide +kernel
theorem dX9_callOf_70 : decode cX9_callOf 70 = .ok (.putfield 130, 3) := by decide +kernel
theorem dX9_callOf_73 : decode cX9_callOf 73 = .ok (.aload_n 0, 1) := by decide +kernel
theorem dX9_callOf_74 : decode cX9_callOf 74 = .ok (.aload_n 0, 1) := by decide +kernel
theorem dX9_callOf_75 : decode cX9_callOf 75 = .ok (.getfield 133, 3) := by decide +kernel
theorem dX9_callOf_78 : decode cX9_callOf 78 = .ok (.putfield 136, 3) := by decide +kernel
theorem dX9_callOf_81 : decode cX9_callOf 81 = .ok (.aload_n 0, 1) := by decide +kernel
theorem dX9_callOf_82 : decode cX9_callOf 82 = .ok (.iload_n 3, 1) := by decide +kernel
theorem dX9_callOf_83 : decode cX9_callOf 83 = .ok (.putfield 133, 3) := by decide +kernel
theorem dX9_callOf_86 : decode cX9_callOf 86 = .ok (.iconst 1, 1) := by decide +kernel
theorem dX9_callOf_87 : decode cX9_callOf 87 = .ok (.istore_n 2, 1) := by decide +kernel
theorem dX9_callOf_88 : decode cX9_callOf 88 = .ok (.iinc 3 1, 3) := by decide +kernel
theorem dX9_callOf_91 : decode cX9_callOf 91 = .ok (.goto (-64), 3) := by decide +kernel
theorem dX9_callOf_94 : decode cX9_callOf 94 = .ok (.goto (-75), 3) := by decide +kernel
theorem dX9_callOf_97 : decode cX9_callOf 97 = .ok (.aload_n 0, 1) := by decide +kernel
theorem dX9_callOf_98 : decode cX9_callOf 98 = .ok (.getfield 133, 3) := by decide +kernel
theorem dX9_callOf_101 : decode cX9_callOf 101 = .ok (.bipush (-9), 2) := by decide +kernel
theorem dX9_callOf_103 : decode cX9_callOf 103 = .ok (.if_icmp .ne 10, 3) := by decide +kernel
theorem dX9_callOf_106 : decode cX9_callOf 106 = .ok (.iload_n 1, 1) := by decide +kernel
theorem dX9_callOf_107 : decode cX9_callOf 107 = .ok (.invokestatic 142, 3) := by decide +kernel
theorem dX9_callOf_110 : decode cX9_callOf 110 = .ok (.goto 7, 3) := by decide +kernel
theorem dX9_callOf_113 : decode cX9_callOf 113 = .ok (.aload_n 0, 1) := by decide +kernel
theorem dX9_callOf_114 : decode cX9_callOf 114 = .ok (.getfield 133, 3) := by decide +kernel
theorem dX9_callOf_117 : decode cX9_callOf 117 = .ok (.ireturn, 1) := by decide +kernel
theorem dX9_leastOf_0 : decode cX9_leastOf 0 = .ok (.iconst 0, 1) := by decide +kernel
theorem dX9_leastOf_1 : decode cX9_leastOf 1 = .ok (.istore_n 1, 1) := by decide +kernel
theorem dX9_leastOf_2 : decode cX9_leastOf 2 = .ok (.iload_n 0, 1) := by decide +kernel
theorem dX9_leastOf_3 : decode cX9_leastOf 3 = .ok (.iload_n 1, 1) := by decide +kernel
theorem dX9_leastOf_4 : decode cX9_leastOf 4 = .ok (.invokestatic 139, 3) := by decide +kernel
theorem dX9_leastOf_7 : decode cX9_leastOf 7 = .ok (.ifCond .ne 9, 3) := by decide +kernel
theorem dX9_leastOf_10 : decode cX9_leastOf 10 = .ok (.iinc 1 1, 3) := by decide +kernel
theorem dX9_leastOf_13 : decode cX9_leastOf 13 = .ok (.goto (-11), 3) := by decide +kernel
theorem dX9_leastOf_16 : decode cX9_leastOf 16 = .ok (.iload_n 1, 1) := by decide +kernel
theorem dX9_leastOf_17 : decode cX9_leastOf 17 = .ok (.ireturn, 1) := by decide +kernel
theorem dX9_go_0 : decode cX9_go 0 = .ok (.aload_n 0, 1) := by decide +kernel
theorem dX9_go_1 : decode cX9_go 1 = .ok (.getfield 98, 3) := by decide +kernel
theorem dX9_go_4 : decode cX9_go 4 = .ok (.ifCond .ne 6, 3) := by decide +kernel
theorem dX9_go_7 : decode cX9_go 7 = .ok (.bipush (-3), 2) := by decide +kernel
theorem dX9_go_9 : decode cX9_go 9 = .ok (.ireturn, 1) := by decide +kernel
theorem dX9_go_10 : decode cX9_go 10 = .ok (.aload_n 0, 1) := by decide +kernel
theorem dX9_go_11 : decode cX9_go 11 = .ok (.aload_n 0, 1) := by decide +kernel
theorem dX9_go_12 : decode cX9_go 12 = .ok (.getfield 98, 3) := by decide +kernel
theorem dX9_go_15 : decode cX9_go 15 = .ok (.invokevirtual 145, 3) := by decide +kernel
theorem dX9_go_18 : decode cX9_go 18 = .ok (.istore_n 1, 1) := by decide +kernel
theorem dX9_go_19 : decode cX9_go 19 = .ok (.aload_n 0, 1) := by decide +kernel
theorem dX9_go_20 : decode cX9_go 20 = .ok (.dup, 1) := by decide +kernel
theorem dX9_go_21 : decode cX9_go 21 = .ok (.getfield 98, 3) := by decide +kernel
theorem dX9_go_24 : decode cX9_go 24 = .ok (.iconst 1, 1) := by decide +kernel
theorem dX9_go_25 : decode cX9_go 25 = .ok (.iload_n 1, 1) := by decide +kernel
theorem dX9_go_26 : decode cX9_go 26 = .ok (.ishl, 1) := by decide +kernel
theorem dX9_go_27 : decode cX9_go 27 = .ok (.iconst (-1), 1) := by decide +kernel
theorem dX9_go_28 : decode cX9_go 28 = .ok (.ixor, 1) := by decide +kernel
theorem dX9_go_29 : decode cX9_go 29 = .ok (.iand, 1) := by decide +kernel
theorem dX9_go_30 : decode cX9_go 30 = .ok (.putfield 98, 3) := by decide +kernel
theorem dX9_go_33 : decode cX9_go 33 = .ok (.aload_n 0, 1) := by decide +kernel
theorem dX9_go_34 : decode cX9_go 34 = .ok (.getfield 136, 3) := by decide +kernel
theorem dX9_go_37 : decode cX9_go 37 = .ok (.bipush (-9), 2) := by decide +kernel
theorem dX9_go_39 : decode cX9_go 39 = .ok (.if_icmp .eq 24, 3) := by decide +kernel
theorem dX9_go_42 : decode cX9_go 42 = .ok (.aload_n 0, 1) := by decide +kernel
theorem dX9_go_43 : decode cX9_go 43 = .ok (.getfield 28, 3) := by decide +kernel
theorem dX9_go_46 : decode cX9_go 46 = .ok (.bipush 6, 2) := by decide +kernel
theorem dX9_go_48 : decode cX9_go 48 = .ok (.iload_n 1, 1) := by decide +kernel
theorem dX9_go_49 : decode cX9_go 49 = .ok (.imul, 1) := by decide +kernel
theorem dX9_go_50 : decode cX9_go 50 = .ok (.aload_n 0, 1) := by decide +kernel
theorem dX9_go_51 : decode cX9_go 51 = .ok (.getfield 136, 3) := by decide +kernel
theorem dX9_go_54 : decode cX9_go 54 = .ok (.iadd, 1) := by decide +kernel
theorem dX9_go_55 : decode cX9_go 55 = .ok (.dup2, 1) := by decide +kernel
theorem dX9_go_56 : decode cX9_go 56 = .ok (.iaload, 1) := by decide +kernel
theorem dX9_go_57 : decode cX9_go 57 = .ok (.aload_n 0, 1) := by decide +kernel
theorem dX9_go_58 : decode cX9_go 58 = .ok (.getfield 130, 3) := by decide +kernel
theorem dX9_go_61 : decode cX9_go 61 = .ok (.iadd, 1) := by decide +kernel
theorem dX9_go_62 : decode cX9_go 62 = .ok (.iastore, 1) := by decide +kernel
theorem dX9_go_63 : decode cX9_go 63 = .ok (.iload_n 1, 1) := by decide +kernel
theorem dX9_go_64 : decode cX9_go 64 = .ok (.ireturn, 1) := by decide +kernel
theorem dX9_morning_0 : decode cX9_morning 0 = .ok (.aload_n 0, 1) := by decide +kernel
theorem dX9_morning_1 : decode cX9_morning 1 = .ok (.getfield 62, 3) := by decide +kernel
theorem dX9_morning_4 : decode cX9_morning 4 = .ok (.ifCond .ne 6, 3) := by decide +kernel
theorem dX9_morning_7 : decode cX9_morning 7 = .ok (.bipush (-3), 2) := by decide +kernel
theorem dX9_morning_9 : decode cX9_morning 9 = .ok (.ireturn, 1) := by decide +kernel
theorem dX9_morning_10 : decode cX9_morning 10 = .ok (.iconst 1, 1) := by decide +kernel
theorem dX9_morning_11 : decode cX9_morning 11 = .ok (.aload_n 0, 1) := by decide +kernel
theorem dX9_morning_12 : decode cX9_morning 12 = .ok (.getfield 62, 3) := by decide +kernel
theorem dX9_morning_15 : decode cX9_morning 15 = .ok (.ishl, 1) := by decide +kernel
theorem dX9_morning_16 : decode cX9_morning 16 = .ok (.iconst 1, 1) := by decide +kernel
theorem dX9_morning_17 : decode cX9_morning 17 = .ok (.isub, 1) := by decide +kernel
theorem dX9_morning_18 : decode cX9_morning 18 = .ok (.istore_n 1, 1) := by decide +kernel
theorem dX9_morning_19 : decode cX9_morning 19 = .ok (.aload_n 0, 1) := by decide +kernel
theorem dX9_morning_20 : decode cX9_morning 20 = .ok (.getfield 62, 3) := by decide +kernel
theorem dX9_morning_23 : decode cX9_morning 23 = .ok (.aload_n 0, 1) := by decide +kernel
theorem dX9_morning_24 : decode cX9_morning 24 = .ok (.getfield 98, 3) := by decide +kernel
theorem dX9_morning_27 : decode cX9_morning 27 = .ok (.invokestatic 148, 3) := by decide +kernel
theorem dX9_morning_30 : decode cX9_morning 30 = .ok (.isub, 1) := by decide +kernel
theorem dX9_morning_31 : decode cX9_morning 31 = .ok (.istore_n 2, 1) := by decide +kernel
theorem dX9_morning_32 : decode cX9_morning 32 = .ok (.aload_n 0, 1) := by decide +kernel
theorem dX9_morning_33 : decode cX9_morning 33 = .ok (.iload_n 1, 1) := by decide +kernel
theorem dX9_morning_34 : decode cX9_morning 34 = .ok (.putfield 98, 3) := by decide +kernel
theorem dX9_morning_37 : decode cX9_morning 37 = .ok (.aload_n 0, 1) := by decide +kernel
theorem dX9_morning_38 : decode cX9_morning 38 = .ok (.dup, 1) := by decide +kernel
theorem dX9_morning_39 : decode cX9_morning 39 = .ok (.getfield 101, 3) := by decide +kernel
theorem dX9_morning_42 : decode cX9_morning 42 = .ok (.iconst 1, 1) := by decide +kernel
theorem dX9_morning_43 : decode cX9_morning 43 = .ok (.iadd, 1) := by decide +kernel
theorem dX9_morning_44 : decode cX9_morning 44 = .ok (.putfield 101, 3) := by decide +kernel
theorem dX9_morning_47 : decode cX9_morning 47 = .ok (.iload_n 2, 1) := by decide +kernel
theorem dX9_morning_48 : decode cX9_morning 48 = .ok (.ireturn, 1) := by decide +kernel
theorem dX9_areTwo_0 : decode cX9_areTwo 0 = .ok (.aload_n 0, 1) := by decide +kernel
theorem dX9_areTwo_1 : decode cX9_areTwo 1 = .ok (.iload_n 1, 1) := by decide +kernel
theorem dX9_areTwo_2 : decode cX9_areTwo 2 = .ok (.invokevirtual 120, 3) := by decide +kernel
theorem dX9_areTwo_5 : decode cX9_areTwo 5 = .ok (.ifCond .eq 20, 3) := by decide +kernel
theorem dX9_areTwo_8 : decode cX9_areTwo 8 = .ok (.aload_n 0, 1) := by decide +kernel
theorem dX9_areTwo_9 : decode cX9_areTwo 9 = .ok (.iload_n 2, 1) := by decide +kernel
theorem dX9_areTwo_10 : decode cX9_areTwo 10 = .ok (.invokevirtual 120, 3) := by decide +kernel
theorem dX9_areTwo_13 : decode cX9_areTwo 13 = .ok (.ifCond .eq 12, 3) := by decide +kernel
theorem dX9_areTwo_16 : decode cX9_areTwo 16 = .ok (.iload_n 1, 1) := by decide +kernel
theorem dX9_areTwo_17 : decode cX9_areTwo 17 = .ok (.iload_n 2, 1) := by decide +kernel
theorem dX9_areTwo_18 : decode cX9_areTwo 18 = .ok (.if_icmp .eq 7, 3) := by decide +kernel
theorem dX9_areTwo_21 : decode cX9_areTwo 21 = .ok (.iconst 1, 1) := by decide +kernel
theorem dX9_areTwo_22 : decode cX9_areTwo 22 = .ok (.goto 4, 3) := by decide +kernel
theorem dX9_areTwo_25 : decode cX9_areTwo 25 = .ok (.iconst 0, 1) := by decide +kernel
theorem dX9_areTwo_26 : decode cX9_areTwo 26 = .ok (.ireturn, 1) := by decide +kernel
theorem dX9_owes_0 : decode cX9_owes 0 = .ok (.aload_n 0, 1) := by decide +kernel
theorem dX9_owes_1 : decode cX9_owes 1 = .ok (.iload_n 1, 1) := by decide +kernel
theorem dX9_owes_2 : decode cX9_owes 2 = .ok (.iload_n 2, 1) := by decide +kernel
theorem dX9_owes_3 : decode cX9_owes 3 = .ok (.invokevirtual 151, 3) := by decide +kernel
theorem dX9_owes_6 : decode cX9_owes 6 = .ok (.ifCond .eq 17, 3) := by decide +kernel
theorem dX9_owes_9 : decode cX9_owes 9 = .ok (.aload_n 0, 1) := by decide +kernel
theorem dX9_owes_10 : decode cX9_owes 10 = .ok (.getfield 28, 3) := by decide +kernel
theorem dX9_owes_13 : decode cX9_owes 13 = .ok (.bipush 6, 2) := by decide +kernel
theorem dX9_owes_15 : decode cX9_owes 15 = .ok (.iload_n 1, 1) := by decide +kernel
theorem dX9_owes_16 : decode cX9_owes 16 = .ok (.imul, 1) := by decide +kernel
theorem dX9_owes_17 : decode cX9_owes 17 = .ok (.iload_n 2, 1) := by decide +kernel
theorem dX9_owes_18 : decode cX9_owes 18 = .ok (.iadd, 1) := by decide +kernel
theorem dX9_owes_19 : decode cX9_owes 19 = .ok (.iaload, 1) := by decide +kernel
theorem dX9_owes_20 : decode cX9_owes 20 = .ok (.goto 4, 3) := by decide +kernel
theorem dX9_owes_23 : decode cX9_owes 23 = .ok (.iconst (-1), 1) := by decide +kernel
theorem dX9_owes_24 : decode cX9_owes 24 = .ok (.ireturn, 1) := by decide +kernel
theorem dX9_pays_0 : decode cX9_pays 0 = .ok (.aload_n 0, 1) := by decide +kernel
theorem dX9_pays_1 : decode cX9_pays 1 = .ok (.iload_n 1, 1) := by decide +kernel
theorem dX9_pays_2 : decode cX9_pays 2 = .ok (.iload_n 2, 1) := by decide +kernel
theorem dX9_pays_3 : decode cX9_pays 3 = .ok (.invokevirtual 151, 3) := by decide +kernel
theorem dX9_pays_6 : decode cX9_pays 6 = .ok (.ifCond .ne 5, 3) := by decide +kernel
theorem dX9_pays_9 : decode cX9_pays 9 = .ok (.iconst (-1), 1) := by decide +kernel
theorem dX9_pays_10 : decode cX9_pays 10 = .ok (.ireturn, 1) := by decide +kernel
theorem dX9_pays_11 : decode cX9_pays 11 = .ok (.iload_n 3, 1) := by decide +kernel
theorem dX9_pays_12 : decode cX9_pays 12 = .ok (.iconst 1, 1) := by decide +kernel
theorem dX9_pays_13 : decode cX9_pays 13 = .ok (.bipush 99, 2) := by decide +kernel
theorem dX9_pays_15 : decode cX9_pays 15 = .ok (.invokestatic 58, 3) := by decide +kernel
theorem dX9_pays_18 : decode cX9_pays 18 = .ok (.ifCond .ne 6, 3) := by decide +kernel
theorem dX9_pays_21 : decode cX9_pays 21 = .ok (.bipush (-2), 2) := by decide +kernel
theorem dX9_pays_23 : decode cX9_pays 23 = .ok (.ireturn, 1) := by decide +kernel
theorem dX9_pays_24 : decode cX9_pays 24 = .ok (.aload_n 0, 1) := by decide +kernel
theorem dX9_pays_25 : decode cX9_pays 25 = .ok (.getfield 28, 3) := by decide +kernel
theorem dX9_pays_28 : decode cX9_pays 28 = .ok (.bipush 6, 2) := by decide +kernel
theorem dX9_pays_30 : decode cX9_pays 30 = .ok (.iload_n 1, 1) := by decide +kernel
theorem dX9_pays_31 : decode cX9_pays 31 = .ok (.imul, 1) := by decide +kernel
theorem dX9_pays_32 : decode cX9_pays 32 = .ok (.iload_n 2, 1) := by decide +kernel
theorem dX9_pays_33 : decode cX9_pays 33 = .ok (.iadd, 1) := by decide +kernel
theorem dX9_pays_34 : decode cX9_pays 34 = .ok (.iaload, 1) := by decide +kernel
theorem dX9_pays_35 : decode cX9_pays 35 = .ok (.iload_n 3, 1) := by decide +kernel
theorem dX9_pays_36 : decode cX9_pays 36 = .ok (.if_icmp .ge 6, 3) := by decide +kernel
theorem dX9_pays_39 : decode cX9_pays 39 = .ok (.bipush (-3), 2) := by decide +kernel
theorem dX9_pays_41 : decode cX9_pays 41 = .ok (.ireturn, 1) := by decide +kernel
theorem dX9_pays_42 : decode cX9_pays 42 = .ok (.aload_n 0, 1) := by decide +kernel
theorem dX9_pays_43 : decode cX9_pays 43 = .ok (.getfield 28, 3) := by decide +kernel
theorem dX9_pays_46 : decode cX9_pays 46 = .ok (.bipush 6, 2) := by decide +kernel
theorem dX9_pays_48 : decode cX9_pays 48 = .ok (.iload_n 1, 1) := by decide +kernel
theorem dX9_pays_49 : decode cX9_pays 49 = .ok (.imul, 1) := by decide +kernel
theorem dX9_pays_50 : decode cX9_pays 50 = .ok (.iload_n 2, 1) := by decide +kernel
theorem dX9_pays_51 : decode cX9_pays 51 = .ok (.iadd, 1) := by decide +kernel
theorem dX9_pays_52 : decode cX9_pays 52 = .ok (.dup2, 1) := by decide +kernel
theorem dX9_pays_53 : decode cX9_pays 53 = .ok (.iaload, 1) := by decide +kernel
theorem dX9_pays_54 : decode cX9_pays 54 = .ok (.iload_n 3, 1) := by decide +kernel
theorem dX9_pays_55 : decode cX9_pays 55 = .ok (.isub, 1) := by decide +kernel
theorem dX9_pays_56 : decode cX9_pays 56 = .ok (.iastore, 1) := by decide +kernel
theorem dX9_pays_57 : decode cX9_pays 57 = .ok (.aload_n 0, 1) := by decide +kernel
theorem dX9_pays_58 : decode cX9_pays 58 = .ok (.getfield 28, 3) := by decide +kernel
theorem dX9_pays_61 : decode cX9_pays 61 = .ok (.bipush 6, 2) := by decide +kernel
theorem dX9_pays_63 : decode cX9_pays 63 = .ok (.iload_n 1, 1) := by decide +kernel
theorem dX9_pays_64 : decode cX9_pays 64 = .ok (.imul, 1) := by decide +kernel
theorem dX9_pays_65 : decode cX9_pays 65 = .ok (.iload_n 2, 1) := by decide +kernel
theorem dX9_pays_66 : decode cX9_pays 66 = .ok (.iadd, 1) := by decide +kernel
theorem dX9_pays_67 : decode cX9_pays 67 = .ok (.iaload, 1) := by decide +kernel
theorem dX9_pays_68 : decode cX9_pays 68 = .ok (.ireturn, 1) := by decide +kernel
theorem dX9_goCalls_0 : decode cX9_goCalls 0 = .ok (.aload_n 0, 1) := by decide +kernel
theorem dX9_goCalls_1 : decode cX9_goCalls 1 = .ok (.iconst 0, 1) := by decide +kernel
theorem dX9_goCalls_2 : decode cX9_goCalls 2 = .ok (.putfield 130, 3) := by decide +kernel
theorem dX9_goCalls_5 : decode cX9_goCalls 5 = .ok (.aload_n 0, 1) := by decide +kernel
theorem dX9_goCalls_6 : decode cX9_goCalls 6 = .ok (.bipush (-9), 2) := by decide +kernel
theorem dX9_goCalls_8 : decode cX9_goCalls 8 = .ok (.putfield 133, 3) := by decide +kernel
theorem dX9_goCalls_11 : decode cX9_goCalls 11 = .ok (.iconst 0, 1) := by decide +kernel
theorem dX9_goCalls_12 : decode cX9_goCalls 12 = .ok (.istore_n 3, 1) := by decide +kernel
theorem dX9_goCalls_13 : decode cX9_goCalls 13 = .ok (.iload_n 3, 1) := by decide +kernel
theorem dX9_goCalls_14 : decode cX9_goCalls 14 = .ok (.iload_n 2, 1) := by decide +kernel
theorem dX9_goCalls_15 : decode cX9_goCalls 15 = .ok (.if_icmp .ge 81, 3) := by decide +kernel
theorem dX9_goCalls_18 : decode cX9_goCalls 18 = .ok (.aload_n 0, 1) := by decide +kernel
theorem dX9_goCalls_19 : decode cX9_goCalls 19 = .ok (.getfield 16, 3) := by decide +kernel
theorem dX9_goCalls_22 : decode cX9_goCalls 22 = .ok (.iload_n 1, 1) := by decide +kernel
theorem dX9_goCalls_23 : decode cX9_goCalls 23 = .ok (.iconst 2, 1) := by decide +kernel
theorem dX9_goCalls_24 : decode cX9_goCalls 24 = .ok (.iload_n 3, 1) := by decide +kernel
theorem dX9_goCalls_25 : decode cX9_goCalls 25 = .ok (.imul, 1) := by decide +kernel
theorem dX9_goCalls_26 : decode cX9_goCalls 26 = .ok (.iadd, 1) := by decide +kernel
theorem dX9_goCalls_27 : decode cX9_goCalls 27 = .ok (.iaload, 1) := by decide +kernel
theorem dX9_goCalls_28 : decode cX9_goCalls 28 = .ok (.istore 4, 2) := by decide +kernel
theorem dX9_goCalls_30 : decode cX9_goCalls 30 = .ok (.aload_n 0, 1) := by decide +kernel
theorem dX9_goCalls_31 : decode cX9_goCalls 31 = .ok (.getfield 16, 3) := by decide +kernel
theorem dX9_goCalls_34 : decode cX9_goCalls 34 = .ok (.iload_n 1, 1) := by decide +kernel
theorem dX9_goCalls_35 : decode cX9_goCalls 35 = .ok (.iconst 2, 1) := by decide +kernel
theorem dX9_goCalls_36 : decode cX9_goCalls 36 = .ok (.iload_n 3, 1) := by decide +kernel
theorem dX9_goCalls_37 : decode cX9_goCalls 37 = .ok (.imul, 1) := by decide +kernel
theorem dX9_goCalls_38 : decode cX9_goCalls 38 = .ok (.iadd, 1) := by decide +kernel
theorem dX9_goCalls_39 : decode cX9_goCalls 39 = .ok (.iconst 1, 1) := by decide +kernel
theorem dX9_goCalls_40 : decode cX9_goCalls 40 = .ok (.iadd, 1) := by decide +kernel
theorem dX9_goCalls_41 : decode cX9_goCalls 41 = .ok (.iaload, 1) := by decide +kernel
theorem dX9_goCalls_42 : decode cX9_goCalls 42 = .ok (.istore 5, 2) := by decide +kernel
theorem dX9_goCalls_44 : decode cX9_goCalls 44 = .ok (.aload_n 0, 1) := by decide +kernel
theorem dX9_goCalls_45 : decode cX9_goCalls 45 = .ok (.getfield 98, 3) := by decide +kernel
theorem dX9_goCalls_48 : decode cX9_goCalls 48 = .ok (.iload 4, 2) := by decide +kernel
theorem dX9_goCalls_50 : decode cX9_goCalls 50 = .ok (.invokestatic 139, 3) := by decide +kernel
theorem dX9_goCalls_53 : decode cX9_goCalls 53 = .ok (.ifCond .eq 23, 3) := by decide +kernel
theorem dX9_goCalls_56 : decode cX9_goCalls 56 = .ok (.iload 5, 2) := by decide +kernel
theorem dX9_goCalls_58 : decode cX9_goCalls 58 = .ok (.aload_n 0, 1) := by decide +kernel
theorem dX9_goCalls_59 : decode cX9_goCalls 59 = .ok (.iload 4, 2) := by decide +kernel
theorem dX9_goCalls_61 : decode cX9_goCalls 61 = .ok (.invokevirtual 123, 3) := by decide +kernel
theorem dX9_goCalls_64 : decode cX9_goCalls 64 = .ok (.if_icmp .gt 12, 3) := by decide +kernel
theorem dX9_goCalls_67 : decode cX9_goCalls 67 = .ok (.iload 5, 2) := by decide +kernel
theorem dX9_goCalls_69 : decode cX9_goCalls 69 = .ok (.aload_n 0, 1) := by decide +kernel
theorem dX9_goCalls_70 : decode cX9_goCalls 70 = .ok (.getfield 130, 3) := by decide +kernel
theorem dX9_goCalls_73 : decode cX9_goCalls 73 = .ok (.if_icmp .gt 5, 3) := by decide +kernel
theorem dX9_goCalls_76 : decode cX9_goCalls 76 = .ok (.iload_n 3, 1) := by decide +kernel
theorem dX9_goCalls_77 : decode cX9_goCalls 77 = .ok (.ireturn, 1) := by decide +kernel
theorem dX9_goCalls_78 : decode cX9_goCalls 78 = .ok (.aload_n 0, 1) := by decide +kernel
theorem dX9_goCalls_79 : decode cX9_goCalls 79 = .ok (.iload 5, 2) := by decide +kernel
theorem dX9_goCalls_81 : decode cX9_goCalls 81 = .ok (.putfield 130, 3) := by decide +kernel
theorem dX9_goCalls_84 : decode cX9_goCalls 84 = .ok (.aload_n 0, 1) := by decide +kernel
theorem dX9_goCalls_85 : decode cX9_goCalls 85 = .ok (.iload 4, 2) := by decide +kernel
theorem dX9_goCalls_87 : decode cX9_goCalls 87 = .ok (.putfield 133, 3) := by decide +kernel
theorem dX9_goCalls_90 : decode cX9_goCalls 90 = .ok (.iinc 3 1, 3) := by decide +kernel
theorem dX9_goCalls_93 : decode cX9_goCalls 93 = .ok (.goto (-80), 3) := by decide +kernel
theorem dX9_goCalls_96 : decode cX9_goCalls 96 = .ok (.bipush (-9), 2) := by decide +kernel
theorem dX9_goCalls_98 : decode cX9_goCalls 98 = .ok (.ireturn, 1) := by decide +kernel
theorem dX9_calls_0 : decode cX9_calls 0 = .ok (.aload_n 0, 1) := by decide +kernel
theorem dX9_calls_1 : decode cX9_calls 1 = .ok (.iconst 0, 1) := by decide +kernel
theorem dX9_calls_2 : decode cX9_calls 2 = .ok (.putfield 52, 3) := by decide +kernel
theorem dX9_calls_5 : decode cX9_calls 5 = .ok (.iload_n 1, 1) := by decide +kernel
theorem dX9_calls_6 : decode cX9_calls 6 = .ok (.invokestatic 68, 3) := by decide +kernel
theorem dX9_calls_9 : decode cX9_calls 9 = .ok (.ifCond .ne 5, 3) := by decide +kernel
theorem dX9_calls_12 : decode cX9_calls 12 = .ok (.iconst (-1), 1) := by decide +kernel
theorem dX9_calls_13 : decode cX9_calls 13 = .ok (.ireturn, 1) := by decide +kernel
theorem dX9_calls_14 : decode cX9_calls 14 = .ok (.iload_n 2, 1) := by decide +kernel
theorem dX9_calls_15 : decode cX9_calls 15 = .ok (.invokestatic 72, 3) := by decide +kernel
theorem dX9_calls_18 : decode cX9_calls 18 = .ok (.ifCond .eq 24, 3) := by decide +kernel
theorem dX9_calls_21 : decode cX9_calls 21 = .ok (.iload 4, 2) := by decide +kernel
theorem dX9_calls_23 : decode cX9_calls 23 = .ok (.iconst 0, 1) := by decide +kernel
theorem dX9_calls_24 : decode cX9_calls 24 = .ok (.bipush 20, 2) := by decide +kernel
theorem dX9_calls_26 : decode cX9_calls 26 = .ok (.invokestatic 58, 3) := by decide +kernel
theorem dX9_calls_29 : decode cX9_calls 29 = .ok (.ifCond .eq 13, 3) := by decide +kernel
theorem dX9_calls_32 : decode cX9_calls 32 = .ok (.iload 5, 2) := by decide +kernel
theorem dX9_calls_34 : decode cX9_calls 34 = .ok (.iconst 0, 1) := by decide +kernel
theorem dX9_calls_35 : decode cX9_calls 35 = .ok (.iconst 3, 1) := by decide +kernel
theorem dX9_calls_36 : decode cX9_calls 36 = .ok (.invokestatic 58, 3) := by decide +kernel
theorem dX9_calls_39 : decode cX9_calls 39 = .ok (.ifCond .ne 6, 3) := by decide +kernel
theorem dX9_calls_42 : decode cX9_calls 42 = .ok (.bipush (-2), 2) := by decide +kernel
theorem dX9_calls_44 : decode cX9_calls 44 = .ok (.ireturn, 1) := by decide +kernel
theorem dX9_calls_45 : decode cX9_calls 45 = .ok (.aload_n 0, 1) := by decide +kernel
theorem dX9_calls_46 : decode cX9_calls 46 = .ok (.iload_n 1, 1) := by decide +kernel
theorem dX9_calls_47 : decode cX9_calls 47 = .ok (.iload_n 2, 1) := by decide +kernel
theorem dX9_calls_48 : decode cX9_calls 48 = .ok (.iload_n 3, 1) := by decide +kernel
theorem dX9_calls_49 : decode cX9_calls 49 = .ok (.iconst 2, 1) := by decide +kernel
theorem dX9_calls_50 : decode cX9_calls 50 = .ok (.iload 4, 2) := by decide +kernel
theorem dX9_calls_52 : decode cX9_calls 52 = .ok (.imul, 1) := by decide +kernel
theorem dX9_calls_53 : decode cX9_calls 53 = .ok (.invokevirtual 75, 3) := by decide +kernel
theorem dX9_calls_56 : decode cX9_calls 56 = .ok (.istore 6, 2) := by decide +kernel
theorem dX9_calls_58 : decode cX9_calls 58 = .ok (.iload 6, 2) := by decide +kernel
theorem dX9_calls_60 : decode cX9_calls 60 = .ok (.ifCond .eq 10, 3) := by decide +kernel
theorem dX9_calls_63 : decode cX9_calls 63 = .ok (.aload_n 0, 1) := by decide +kernel
theorem dX9_calls_64 : decode cX9_calls 64 = .ok (.iload 6, 2) := by decide +kernel
theorem dX9_calls_66 : decode cX9_calls 66 = .ok (.invokevirtual 79, 3) := by decide +kernel
theorem dX9_calls_69 : decode cX9_calls 69 = .ok (.ireturn, 1) := by decide +kernel
theorem dX9_calls_70 : decode cX9_calls 70 = .ok (.aload_n 0, 1) := by decide +kernel
theorem dX9_calls_71 : decode cX9_calls 71 = .ok (.getfield 62, 3) := by decide +kernel
theorem dX9_calls_74 : decode cX9_calls 74 = .ok (.ifCond .ne 6, 3) := by decide +kernel
theorem dX9_calls_77 : decode cX9_calls 77 = .ok (.bipush (-3), 2) := by decide +kernel
theorem dX9_calls_79 : decode cX9_calls 79 = .ok (.ireturn, 1) := by decide +kernel
theorem dX9_calls_80 : decode cX9_calls 80 = .ok (.bipush 60, 2) := by decide +kernel
theorem dX9_calls_82 : decode cX9_calls 82 = .ok (.iload_n 1, 1) := by decide +kernel
theorem dX9_calls_83 : decode cX9_calls 83 = .ok (.imul, 1) := by decide +kernel
theorem dX9_calls_84 : decode cX9_calls 84 = .ok (.iload_n 3, 1) := by decide +kernel
theorem dX9_calls_85 : decode cX9_calls 85 = .ok (.iadd, 1) := by decide +kernel
theorem dX9_calls_86 : decode cX9_calls 86 = .ok (.istore 7, 2) := by decide +kernel
theorem dX9_calls_88 : decode cX9_calls 88 = .ok (.iconst 0, 1) := by decide +kernel
theorem dX9_calls_89 : decode cX9_calls 89 = .ok (.istore 8, 2) := by decide +kernel
theorem dX9_calls_91 : decode cX9_calls 91 = .ok (.iload 8, 2) := by decide +kernel
theorem dX9_calls_93 : decode cX9_calls 93 = .ok (.iload 4, 2) := by decide +kernel
theorem dX9_calls_95 : decode cX9_calls 95 = .ok (.if_icmp .ge 30, 3) := by decide +kernel
theorem dX9_calls_98 : decode cX9_calls 98 = .ok (.aload_n 0, 1) := by decide +kernel
theorem dX9_calls_99 : decode cX9_calls 99 = .ok (.aload_n 0, 1) := by decide +kernel
theorem dX9_calls_100 : decode cX9_calls 100 = .ok (.getfield 16, 3) := by decide +kernel
theorem dX9_calls_103 : decode cX9_calls 103 = .ok (.iload 7, 2) := by decide +kernel
theorem dX9_calls_105 : decode cX9_calls 105 = .ok (.iconst 2, 1) := by decide +kernel
theorem dX9_calls_106 : decode cX9_calls 106 = .ok (.iload 8, 2) := by decide +kernel
theorem dX9_calls_108 : decode cX9_calls 108 = .ok (.imul, 1) := by decide +kernel
theorem dX9_calls_109 : decode cX9_calls 109 = .ok (.iadd, 1) := by decide +kernel
theorem dX9_calls_110 : decode cX9_calls 110 = .ok (.iaload, 1) := by decide +kernel
theorem dX9_calls_111 : decode cX9_calls 111 = .ok (.invokevirtual 120, 3) := by decide +kernel
theorem dX9_calls_114 : decode cX9_calls 114 = .ok (.ifCond .ne 5, 3) := by decide +kernel
theorem dX9_calls_117 : decode cX9_calls 117 = .ok (.iconst (-1), 1) := by decide +kernel
theorem dX9_calls_118 : decode cX9_calls 118 = .ok (.ireturn, 1) := by decide +kernel
theorem dX9_calls_119 : decode cX9_calls 119 = .ok (.iinc 8 1, 3) := by decide +kernel
theorem dX9_calls_122 : decode cX9_calls 122 = .ok (.goto (-31), 3) := by decide +kernel
theorem dX9_calls_125 : decode cX9_calls 125 = .ok (.aload_n 0, 1) := by decide +kernel
theorem dX9_calls_126 : decode cX9_calls 126 = .ok (.iload 7, 2) := by decide +kernel
theorem dX9_calls_128 : decode cX9_calls 128 = .ok (.iload 4, 2) := by decide +kernel
theorem dX9_calls_130 : decode cX9_calls 130 = .ok (.invokevirtual 154, 3) := by decide +kernel
theorem dX9_calls_133 : decode cX9_calls 133 = .ok (.istore 8, 2) := by decide +kernel
theorem dX9_calls_135 : decode cX9_calls 135 = .ok (.iload 5, 2) := by decide +kernel
theorem dX9_calls_137 : decode cX9_calls 137 = .ok (.iconst 1, 1) := by decide +kernel
theorem dX9_calls_138 : decode cX9_calls 138 = .ok (.if_icmp .eq 10, 3) := by decide +kernel
theorem dX9_calls_141 : decode cX9_calls 141 = .ok (.iload 8, 2) := by decide +kernel
theorem dX9_calls_143 : decode cX9_calls 143 = .ok (.bipush (-9), 2) := by decide +kernel
theorem dX9_calls_145 : decode cX9_calls 145 = .ok (.if_icmp .eq 20, 3) := by decide +kernel
theorem dX9_calls_148 : decode cX9_calls 148 = .ok (.iload 5, 2) := by decide +kernel
theorem dX9_calls_150 : decode cX9_calls 150 = .ok (.iconst 1, 1) := by decide +kernel
theorem dX9_calls_151 : decode cX9_calls 151 = .ok (.if_icmp .ne 8, 3) := by decide +kernel
theorem dX9_calls_154 : decode cX9_calls 154 = .ok (.iload 8, 2) := by decide +kernel
theorem dX9_calls_156 : decode cX9_calls 156 = .ok (.goto 8, 3) := by decide +kernel
theorem dX9_calls_159 : decode cX9_calls 159 = .ok (.bipush (-100), 2) := by decide +kernel
theorem dX9_calls_161 : decode cX9_calls 161 = .ok (.iload 8, 2) := by decide +kernel
theorem dX9_calls_163 : decode cX9_calls 163 = .ok (.isub, 1) := by decide +kernel
theorem dX9_calls_164 : decode cX9_calls 164 = .ok (.ireturn, 1) := by decide +kernel
theorem dX9_calls_165 : decode cX9_calls 165 = .ok (.iload 5, 2) := by decide +kernel
theorem dX9_calls_167 : decode cX9_calls 167 = .ok (.ifCond .ne 10, 3) := by decide +kernel
theorem dX9_calls_170 : decode cX9_calls 170 = .ok (.aload_n 0, 1) := by decide +kernel
theorem dX9_calls_171 : decode cX9_calls 171 = .ok (.getfield 130, 3) := by decide +kernel
theorem dX9_calls_174 : decode cX9_calls 174 = .ok (.goto 20, 3) := by decide +kernel
theorem dX9_calls_177 : decode cX9_calls 177 = .ok (.iload 5, 2) := by decide +kernel
theorem dX9_calls_179 : decode cX9_calls 179 = .ok (.iconst 2, 1) := by decide +kernel
theorem dX9_calls_180 : decode cX9_calls 180 = .ok (.if_icmp .ne 10, 3) := by decide +kernel
theorem dX9_calls_183 : decode cX9_calls 183 = .ok (.aload_n 0, 1) := by decide +kernel
theorem dX9_calls_184 : decode cX9_calls 184 = .ok (.getfield 133, 3) := by decide +kernel
theorem dX9_calls_187 : decode cX9_calls 187 = .ok (.goto 7, 3) := by decide +kernel
theorem dX9_calls_190 : decode cX9_calls 190 = .ok (.aload_n 0, 1) := by decide +kernel
theorem dX9_calls_191 : decode cX9_calls 191 = .ok (.invokevirtual 158, 3) := by decide +kernel
theorem dX9_calls_194 : decode cX9_calls 194 = .ok (.ireturn, 1) := by decide +kernel
theorem dX9_wouldGoOn_0 : decode cX9_wouldGoOn 0 = .ok (.iconst 0, 1) := by decide +kernel
theorem dX9_wouldGoOn_1 : decode cX9_wouldGoOn 1 = .ok (.istore_n 1, 1) := by decide +kernel
theorem dX9_wouldGoOn_2 : decode cX9_wouldGoOn 2 = .ok (.iconst 0, 1) := by decide +kernel
theorem dX9_wouldGoOn_3 : decode cX9_wouldGoOn 3 = .ok (.istore_n 2, 1) := by decide +kernel
theorem dX9_wouldGoOn_4 : decode cX9_wouldGoOn 4 = .ok (.iload_n 2, 1) := by decide +kernel
theorem dX9_wouldGoOn_5 : decode cX9_wouldGoOn 5 = .ok (.aload_n 0, 1) := by decide +kernel
theorem dX9_wouldGoOn_6 : decode cX9_wouldGoOn 6 = .ok (.getfield 62, 3) := by decide +kernel
theorem dX9_wouldGoOn_9 : decode cX9_wouldGoOn 9 = .ok (.if_icmp .ge 48, 3) := by decide +kernel
theorem dX9_wouldGoOn_12 : decode cX9_wouldGoOn 12 = .ok (.iload_n 1, 1) := by decide +kernel
theorem dX9_wouldGoOn_13 : decode cX9_wouldGoOn 13 = .ok (.aload_n 0, 1) := by decide +kernel
theorem dX9_wouldGoOn_14 : decode cX9_wouldGoOn 14 = .ok (.getfield 98, 3) := by decide +kernel
theorem dX9_wouldGoOn_17 : decode cX9_wouldGoOn 17 = .ok (.iload_n 2, 1) := by decide +kernel
theorem dX9_wouldGoOn_18 : decode cX9_wouldGoOn 18 = .ok (.invokestatic 139, 3) := by decide +kernel
theorem dX9_wouldGoOn_21 : decode cX9_wouldGoOn 21 = .ok (.ifCond .eq 27, 3) := by decide +kernel
theorem dX9_wouldGoOn_24 : decode cX9_wouldGoOn 24 = .ok (.iload_n 2, 1) := by decide +kernel
theorem dX9_wouldGoOn_25 : decode cX9_wouldGoOn 25 = .ok (.aload_n 0, 1) := by decide +kernel
theorem dX9_wouldGoOn_26 : decode cX9_wouldGoOn 26 = .ok (.getfield 133, 3) := by decide +kernel
theorem dX9_wouldGoOn_29 : decode cX9_wouldGoOn 29 = .ok (.if_icmp .eq 19, 3) := by decide +kernel
theorem dX9_wouldGoOn_32 : decode cX9_wouldGoOn 32 = .ok (.aload_n 0, 1) := by decide +kernel
theorem dX9_wouldGoOn_33 : decode cX9_wouldGoOn 33 = .ok (.iload_n 2, 1) := by decide +kernel
theorem dX9_wouldGoOn_34 : decode cX9_wouldGoOn 34 = .ok (.invokevirtual 123, 3) := by decide +kernel
theorem dX9_wouldGoOn_37 : decode cX9_wouldGoOn 37 = .ok (.aload_n 0, 1) := by decide +kernel
theorem dX9_wouldGoOn_38 : decode cX9_wouldGoOn 38 = .ok (.getfield 130, 3) := by decide +kernel
theorem dX9_wouldGoOn_41 : decode cX9_wouldGoOn 41 = .ok (.if_icmp .le 7, 3) := by decide +kernel
theorem dX9_wouldGoOn_44 : decode cX9_wouldGoOn 44 = .ok (.iconst 1, 1) := by decide +kernel
theorem dX9_wouldGoOn_45 : decode cX9_wouldGoOn 45 = .ok (.goto 4, 3) := by decide +kernel
theorem dX9_wouldGoOn_48 : decode cX9_wouldGoOn 48 = .ok (.iconst 0, 1) := by decide +kernel
theorem dX9_wouldGoOn_49 : decode cX9_wouldGoOn 49 = .ok (.iadd, 1) := by decide +kernel
theorem dX9_wouldGoOn_50 : decode cX9_wouldGoOn 50 = .ok (.istore_n 1, 1) := by decide +kernel
theorem dX9_wouldGoOn_51 : decode cX9_wouldGoOn 51 = .ok (.iinc 2 1, 3) := by decide +kernel
theorem dX9_wouldGoOn_54 : decode cX9_wouldGoOn 54 = .ok (.goto (-50), 3) := by decide +kernel
theorem dX9_wouldGoOn_57 : decode cX9_wouldGoOn 57 = .ok (.iload_n 1, 1) := by decide +kernel
theorem dX9_wouldGoOn_58 : decode cX9_wouldGoOn 58 = .ok (.ireturn, 1) := by decide +kernel
theorem dX9_findOrder_0 : decode cX9_findOrder 0 = .ok (.aload_n 0, 1) := by decide +kernel
theorem dX9_findOrder_1 : decode cX9_findOrder 1 = .ok (.iconst 0, 1) := by decide +kernel
theorem dX9_findOrder_2 : decode cX9_findOrder 2 = .ok (.putfield 162, 3) := by decide +kernel
theorem dX9_findOrder_5 : decode cX9_findOrder 5 = .ok (.aload_n 0, 1) := by decide +kernel
theorem dX9_findOrder_6 : decode cX9_findOrder 6 = .ok (.getfield 98, 3) := by decide +kernel
theorem dX9_findOrder_9 : decode cX9_findOrder 9 = .ok (.istore_n 1, 1) := by decide +kernel
theorem dX9_findOrder_10 : decode cX9_findOrder 10 = .ok (.iload_n 1, 1) := by decide +kernel
theorem dX9_findOrder_11 : decode cX9_findOrder 11 = .ok (.ifCond .eq 61, 3) := by decide +kernel
theorem dX9_findOrder_14 : decode cX9_findOrder 14 = .ok (.aload_n 0, 1) := by decide +kernel
theorem dX9_findOrder_15 : decode cX9_findOrder 15 = .ok (.getfield 34, 3) := by decide +kernel
theorem dX9_findOrder_18 : decode cX9_findOrder 18 = .ok (.aload_n 0, 1) := by decide +kernel
theorem dX9_findOrder_19 : decode cX9_findOrder 19 = .ok (.getfield 162, 3) := by decide +kernel
theorem dX9_findOrder_22 : decode cX9_findOrder 22 = .ok (.aload_n 0, 1) := by decide +kernel
theorem dX9_findOrder_23 : decode cX9_findOrder 23 = .ok (.iload_n 1, 1) := by decide +kernel
theorem dX9_findOrder_24 : decode cX9_findOrder 24 = .ok (.invokevirtual 145, 3) := by decide +kernel
theorem dX9_findOrder_27 : decode cX9_findOrder 27 = .ok (.iastore, 1) := by decide +kernel
theorem dX9_findOrder_28 : decode cX9_findOrder 28 = .ok (.aload_n 0, 1) := by decide +kernel
theorem dX9_findOrder_29 : decode cX9_findOrder 29 = .ok (.getfield 37, 3) := by decide +kernel
theorem dX9_findOrder_32 : decode cX9_findOrder 32 = .ok (.aload_n 0, 1) := by decide +kernel
theorem dX9_findOrder_33 : decode cX9_findOrder 33 = .ok (.getfield 162, 3) := by decide +kernel
theorem dX9_findOrder_36 : decode cX9_findOrder 36 = .ok (.aload_n 0, 1) := by decide +kernel
theorem dX9_findOrder_37 : decode cX9_findOrder 37 = .ok (.getfield 130, 3) := by decide +kernel
theorem dX9_findOrder_40 : decode cX9_findOrder 40 = .ok (.iastore, 1) := by decide +kernel
theorem dX9_findOrder_41 : decode cX9_findOrder 41 = .ok (.aload_n 0, 1) := by decide +kernel
theorem dX9_findOrder_42 : decode cX9_findOrder 42 = .ok (.dup, 1) := by decide +kernel
theorem dX9_findOrder_43 : decode cX9_findOrder 43 = .ok (.getfield 162, 3) := by decide +kernel
theorem dX9_findOrder_46 : decode cX9_findOrder 46 = .ok (.iconst 1, 1) := by decide +kernel
theorem dX9_findOrder_47 : decode cX9_findOrder 47 = .ok (.iadd, 1) := by decide +kernel
theorem dX9_findOrder_48 : decode cX9_findOrder 48 = .ok (.putfield 162, 3) := by decide +kernel
theorem dX9_findOrder_51 : decode cX9_findOrder 51 = .ok (.iload_n 1, 1) := by decide +kernel
theorem dX9_findOrder_52 : decode cX9_findOrder 52 = .ok (.iconst 1, 1) := by decide +kernel
theorem dX9_findOrder_53 : decode cX9_findOrder 53 = .ok (.aload_n 0, 1) := by decide +kernel
theorem dX9_findOrder_54 : decode cX9_findOrder 54 = .ok (.getfield 34, 3) := by decide +kernel
theorem dX9_findOrder_57 : decode cX9_findOrder 57 = .ok (.aload_n 0, 1) := by decide +kernel
theorem dX9_findOrder_58 : decode cX9_findOrder 58 = .ok (.getfield 162, 3) := by decide +kernel
theorem dX9_findOrder_61 : decode cX9_findOrder 61 = .ok (.iconst 1, 1) := by decide +kernel
theorem dX9_findOrder_62 : decode cX9_findOrder 62 = .ok (.isub, 1) := by decide +kernel
theorem dX9_findOrder_63 : decode cX9_findOrder 63 = .ok (.iaload, 1) := by decide +kernel
theorem dX9_findOrder_64 : decode cX9_findOrder 64 = .ok (.ishl, 1) := by decide +kernel
theorem dX9_findOrder_65 : decode cX9_findOrder 65 = .ok (.iconst (-1), 1) := by decide +kernel
theorem dX9_findOrder_66 : decode cX9_findOrder 66 = .ok (.ixor, 1) := by decide +kernel
theorem dX9_findOrder_67 : decode cX9_findOrder 67 = .ok (.iand, 1) := by decide +kernel
theorem dX9_findOrder_68 : decode cX9_findOrder 68 = .ok (.istore_n 1, 1) := by decide +kernel
theorem dX9_findOrder_69 : decode cX9_findOrder 69 = .ok (.goto (-59), 3) := by decide +kernel
theorem dX9_findOrder_72 : decode cX9_findOrder 72 = .ok (.return_, 1) := by decide +kernel
theorem dX9_order_0 : decode cX9_order 0 = .ok (.iload_n 1, 1) := by decide +kernel
theorem dX9_order_1 : decode cX9_order 1 = .ok (.iconst 0, 1) := by decide +kernel
theorem dX9_order_2 : decode cX9_order 2 = .ok (.iconst 5, 1) := by decide +kernel
theorem dX9_order_3 : decode cX9_order 3 = .ok (.invokestatic 58, 3) := by decide +kernel
theorem dX9_order_6 : decode cX9_order 6 = .ok (.ifCond .eq 12, 3) := by decide +kernel
theorem dX9_order_9 : decode cX9_order 9 = .ok (.iload_n 2, 1) := by decide +kernel
theorem dX9_order_10 : decode cX9_order 10 = .ok (.iconst 0, 1) := by decide +kernel
theorem dX9_order_11 : decode cX9_order 11 = .ok (.iconst 1, 1) := by decide +kernel
theorem dX9_order_12 : decode cX9_order 12 = .ok (.invokestatic 58, 3) := by decide +kernel
theorem dX9_order_15 : decode cX9_order 15 = .ok (.ifCond .ne 6, 3) := by decide +kernel
theorem dX9_order_18 : decode cX9_order 18 = .ok (.bipush (-2), 2) := by decide +kernel
theorem dX9_order_20 : decode cX9_order 20 = .ok (.ireturn, 1) := by decide +kernel
theorem dX9_order_21 : decode cX9_order 21 = .ok (.aload_n 0, 1) := by decide +kernel
theorem dX9_order_22 : decode cX9_order 22 = .ok (.getfield 62, 3) := by decide +kernel
theorem dX9_order_25 : decode cX9_order 25 = .ok (.ifCond .ne 6, 3) := by decide +kernel
theorem dX9_order_28 : decode cX9_order 28 = .ok (.bipush (-3), 2) := by decide +kernel
theorem dX9_order_30 : decode cX9_order 30 = .ok (.ireturn, 1) := by decide +kernel
theorem dX9_order_31 : decode cX9_order 31 = .ok (.aload_n 0, 1) := by decide +kernel
theorem dX9_order_32 : decode cX9_order 32 = .ok (.invokevirtual 165, 3) := by decide +kernel
theorem dX9_order_35 : decode cX9_order 35 = .ok (.iload_n 1, 1) := by decide +kernel
theorem dX9_order_36 : decode cX9_order 36 = .ok (.aload_n 0, 1) := by decide +kernel
theorem dX9_order_37 : decode cX9_order 37 = .ok (.getfield 162, 3) := by decide +kernel
theorem dX9_order_40 : decode cX9_order 40 = .ok (.if_icmp .lt 6, 3) := by decide +kernel
theorem dX9_order_43 : decode cX9_order 43 = .ok (.bipush (-9), 2) := by decide +kernel
theorem dX9_order_45 : decode cX9_order 45 = .ok (.ireturn, 1) := by decide +kernel
theorem dX9_order_46 : decode cX9_order 46 = .ok (.iload_n 2, 1) := by decide +kernel
theorem dX9_order_47 : decode cX9_order 47 = .ok (.ifCond .ne 12, 3) := by decide +kernel
theorem dX9_order_50 : decode cX9_order 50 = .ok (.aload_n 0, 1) := by decide +kernel
theorem dX9_order_51 : decode cX9_order 51 = .ok (.getfield 34, 3) := by decide +kernel
theorem dX9_order_54 : decode cX9_order 54 = .ok (.iload_n 1, 1) := by decide +kernel
theorem dX9_order_55 : decode cX9_order 55 = .ok (.iaload, 1) := by decide +kernel
theorem dX9_order_56 : decode cX9_order 56 = .ok (.goto 9, 3) := by decide +kernel
theorem dX9_order_59 : decode cX9_order 59 = .ok (.aload_n 0, 1) := by decide +kernel
theorem dX9_order_60 : decode cX9_order 60 = .ok (.getfield 37, 3) := by decide +kernel
theorem dX9_order_63 : decode cX9_order 63 = .ok (.iload_n 1, 1) := by decide +kernel
theorem dX9_order_64 : decode cX9_order 64 = .ok (.iaload, 1) := by decide +kernel
theorem dX9_order_65 : decode cX9_order 65 = .ok (.ireturn, 1) := by decide +kernel
theorem dX9_leastLoss_0 : decode cX9_leastLoss 0 = .ok (.iconst 0, 1) := by decide +kernel
theorem dX9_leastLoss_1 : decode cX9_leastLoss 1 = .ok (.istore_n 1, 1) := by decide +kernel
theorem dX9_leastLoss_2 : decode cX9_leastLoss 2 = .ok (.iconst 0, 1) := by decide +kernel
theorem dX9_leastLoss_3 : decode cX9_leastLoss 3 = .ok (.istore_n 2, 1) := by decide +kernel
theorem dX9_leastLoss_4 : decode cX9_leastLoss 4 = .ok (.iload_n 2, 1) := by decide +kernel
theorem dX9_leastLoss_5 : decode cX9_leastLoss 5 = .ok (.aload_n 0, 1) := by decide +kernel
theorem dX9_leastLoss_6 : decode cX9_leastLoss 6 = .ok (.getfield 62, 3) := by decide +kernel
theorem dX9_leastLoss_9 : decode cX9_leastLoss 9 = .ok (.if_icmp .ge 113, 3) := by decide +kernel
theorem dX9_leastLoss_12 : decode cX9_leastLoss 12 = .ok (.iconst 0, 1) := by decide +kernel
theorem dX9_leastLoss_13 : decode cX9_leastLoss 13 = .ok (.istore_n 3, 1) := by decide +kernel
theorem dX9_leastLoss_14 : decode cX9_leastLoss 14 = .ok (.iconst 0, 1) := by decide +kernel
theorem dX9_leastLoss_15 : decode cX9_leastLoss 15 = .ok (.istore 4, 2) := by decide +kernel
theorem dX9_leastLoss_17 : decode cX9_leastLoss 17 = .ok (.iload 4, 2) := by decide +kernel
theorem dX9_leastLoss_19 : decode cX9_leastLoss 19 = .ok (.aload_n 0, 1) := by decide +kernel
theorem dX9_leastLoss_20 : decode cX9_leastLoss 20 = .ok (.getfield 62, 3) := by decide +kernel
theorem dX9_leastLoss_23 : decode cX9_leastLoss 23 = .ok (.if_icmp .ge 67, 3) := by decide +kernel
theorem dX9_leastLoss_26 : decode cX9_leastLoss 26 = .ok (.iload_n 3, 1) := by decide +kernel
theorem dX9_leastLoss_27 : decode cX9_leastLoss 27 = .ok (.aload_n 0, 1) := by decide +kernel
theorem dX9_leastLoss_28 : decode cX9_leastLoss 28 = .ok (.getfield 98, 3) := by decide +kernel
theorem dX9_leastLoss_31 : decode cX9_leastLoss 31 = .ok (.iload 4, 2) := by decide +kernel
theorem dX9_leastLoss_33 : decode cX9_leastLoss 33 = .ok (.invokestatic 139, 3) := by decide +kernel
theorem dX9_leastLoss_36 : decode cX9_leastLoss 36 = .ok (.ifCond .eq 45, 3) := by decide +kernel
theorem dX9_leastLoss_39 : decode cX9_leastLoss 39 = .ok (.aload_n 0, 1) := by decide +kernel
theorem dX9_leastLoss_40 : decode cX9_leastLoss 40 = .ok (.getfield 22, 3) := by decide +kernel
theorem dX9_leastLoss_43 : decode cX9_leastLoss 43 = .ok (.iload 4, 2) := by decide +kernel
theorem dX9_leastLoss_45 : decode cX9_leastLoss 45 = .ok (.iaload, 1) := by decide +kernel
theorem dX9_leastLoss_46 : decode cX9_leastLoss 46 = .ok (.aload_n 0, 1) := by decide +kernel
theorem dX9_leastLoss_47 : decode cX9_leastLoss 47 = .ok (.getfield 22, 3) := by decide +kernel
theorem dX9_leastLoss_50 : decode cX9_leastLoss 50 = .ok (.iload_n 2, 1) := by decide +kernel
theorem dX9_leastLoss_51 : decode cX9_leastLoss 51 = .ok (.iaload, 1) := by decide +kernel
theorem dX9_leastLoss_52 : decode cX9_leastLoss 52 = .ok (.if_icmp .gt 25, 3) := by decide +kernel
theorem dX9_leastLoss_55 : decode cX9_leastLoss 55 = .ok (.aload_n 0, 1) := by decide +kernel
theorem dX9_leastLoss_56 : decode cX9_leastLoss 56 = .ok (.getfield 22, 3) := by decide +kernel
theorem dX9_leastLoss_59 : decode cX9_leastLoss 59 = .ok (.iload 4, 2) := by decide +kernel
theorem dX9_leastLoss_61 : decode cX9_leastLoss 61 = .ok (.iaload, 1) := by decide +kernel
theorem dX9_leastLoss_62 : decode cX9_leastLoss 62 = .ok (.aload_n 0, 1) := by decide +kernel
theorem dX9_leastLoss_63 : decode cX9_leastLoss 63 = .ok (.getfield 22, 3) := by decide +kernel
theorem dX9_leastLoss_66 : decode cX9_leastLoss 66 = .ok (.iload_n 2, 1) := by decide +kernel
theorem dX9_leastLoss_67 : decode cX9_leastLoss 67 = .ok (.iaload, 1) := by decide +kernel
theorem dX9_leastLoss_68 : decode cX9_leastLoss 68 = .ok (.if_icmp .ne 13, 3) := by decide +kernel
theorem dX9_leastLoss_71 : decode cX9_leastLoss 71 = .ok (.iload 4, 2) := by decide +kernel
theorem dX9_leastLoss_73 : decode cX9_leastLoss 73 = .ok (.iload_n 2, 1) := by decide +kernel
theorem dX9_leastLoss_74 : decode cX9_leastLoss 74 = .ok (.if_icmp .ge 7, 3) := by decide +kernel
theorem dX9_leastLoss_77 : decode cX9_leastLoss 77 = .ok (.iconst 1, 1) := by decide +kernel
theorem dX9_leastLoss_78 : decode cX9_leastLoss 78 = .ok (.goto 4, 3) := by decide +kernel
theorem dX9_leastLoss_81 : decode cX9_leastLoss 81 = .ok (.iconst 0, 1) := by decide +kernel
theorem dX9_leastLoss_82 : decode cX9_leastLoss 82 = .ok (.iadd, 1) := by decide +kernel
theorem dX9_leastLoss_83 : decode cX9_leastLoss 83 = .ok (.istore_n 3, 1) := by decide +kernel
theorem dX9_leastLoss_84 : decode cX9_leastLoss 84 = .ok (.iinc 4 1, 3) := by decide +kernel
theorem dX9_leastLoss_87 : decode cX9_leastLoss 87 = .ok (.goto (-70), 3) := by decide +kernel
theorem dX9_leastLoss_90 : decode cX9_leastLoss 90 = .ok (.iload_n 1, 1) := by decide +kernel
theorem dX9_leastLoss_91 : decode cX9_leastLoss 91 = .ok (.aload_n 0, 1) := by decide +kernel
theorem dX9_leastLoss_92 : decode cX9_leastLoss 92 = .ok (.getfield 98, 3) := by decide +kernel
theorem dX9_leastLoss_95 : decode cX9_leastLoss 95 = .ok (.iload_n 2, 1) := by decide +kernel
theorem dX9_leastLoss_96 : decode cX9_leastLoss 96 = .ok (.invokestatic 139, 3) := by decide +kernel
theorem dX9_leastLoss_99 : decode cX9_leastLoss 99 = .ok (.ifCond .eq 14, 3) := by decide +kernel
theorem dX9_leastLoss_102 : decode cX9_leastLoss 102 = .ok (.aload_n 0, 1) := by decide +kernel
theorem dX9_leastLoss_103 : decode cX9_leastLoss 103 = .ok (.getfield 22, 3) := by decide +kernel
theorem dX9_leastLoss_106 : decode cX9_leastLoss 106 = .ok (.iload_n 2, 1) := by decide +kernel
theorem dX9_leastLoss_107 : decode cX9_leastLoss 107 = .ok (.iaload, 1) := by decide +kernel
theorem dX9_leastLoss_108 : decode cX9_leastLoss 108 = .ok (.iload_n 3, 1) := by decide +kernel
theorem dX9_leastLoss_109 : decode cX9_leastLoss 109 = .ok (.imul, 1) := by decide +kernel
theorem dX9_leastLoss_110 : decode cX9_leastLoss 110 = .ok (.goto 4, 3) := by decide +kernel
theorem dX9_leastLoss_113 : decode cX9_leastLoss 113 = .ok (.iconst 0, 1) := by decide +kernel
theorem dX9_leastLoss_114 : decode cX9_leastLoss 114 = .ok (.iadd, 1) := by decide +kernel
theorem dX9_leastLoss_115 : decode cX9_leastLoss 115 = .ok (.istore_n 1, 1) := by decide +kernel
theorem dX9_leastLoss_116 : decode cX9_leastLoss 116 = .ok (.iinc 2 1, 3) := by decide +kernel
theorem dX9_leastLoss_119 : decode cX9_leastLoss 119 = .ok (.goto (-115), 3) := by decide +kernel
theorem dX9_leastLoss_122 : decode cX9_leastLoss 122 = .ok (.iload_n 1, 1) := by decide +kernel
theorem dX9_leastLoss_123 : decode cX9_leastLoss 123 = .ok (.ireturn, 1) := by decide +kernel
theorem dX9_loss_0 : decode cX9_loss 0 = .ok (.iload_n 1, 1) := by decide +kernel
theorem dX9_loss_1 : decode cX9_loss 1 = .ok (.iconst 0, 1) := by decide +kernel
theorem dX9_loss_2 : decode cX9_loss 2 = .ok (.iconst 1, 1) := by decide +kernel
theorem dX9_loss_3 : decode cX9_loss 3 = .ok (.invokestatic 58, 3) := by decide +kernel
theorem dX9_loss_6 : decode cX9_loss 6 = .ok (.ifCond .ne 6, 3) := by decide +kernel
theorem dX9_loss_9 : decode cX9_loss 9 = .ok (.bipush (-2), 2) := by decide +kernel
theorem dX9_loss_11 : decode cX9_loss 11 = .ok (.ireturn, 1) := by decide +kernel
theorem dX9_loss_12 : decode cX9_loss 12 = .ok (.aload_n 0, 1) := by decide +kernel
theorem dX9_loss_13 : decode cX9_loss 13 = .ok (.getfield 62, 3) := by decide +kernel
theorem dX9_loss_16 : decode cX9_loss 16 = .ok (.ifCond .ne 6, 3) := by decide +kernel
theorem dX9_loss_19 : decode cX9_loss 19 = .ok (.bipush (-3), 2) := by decide +kernel
theorem dX9_loss_21 : decode cX9_loss 21 = .ok (.ireturn, 1) := by decide +kernel
theorem dX9_loss_22 : decode cX9_loss 22 = .ok (.iload_n 1, 1) := by decide +kernel
theorem dX9_loss_23 : decode cX9_loss 23 = .ok (.iconst 1, 1) := by decide +kernel
theorem dX9_loss_24 : decode cX9_loss 24 = .ok (.if_icmp .ne 8, 3) := by decide +kernel
theorem dX9_loss_27 : decode cX9_loss 27 = .ok (.aload_n 0, 1) := by decide +kernel
theorem dX9_loss_28 : decode cX9_loss 28 = .ok (.invokevirtual 168, 3) := by decide +kernel
theorem dX9_loss_31 : decode cX9_loss 31 = .ok (.ireturn, 1) := by decide +kernel
theorem dX9_loss_32 : decode cX9_loss 32 = .ok (.aload_n 0, 1) := by decide +kernel
theorem dX9_loss_33 : decode cX9_loss 33 = .ok (.invokevirtual 165, 3) := by decide +kernel
theorem dX9_loss_36 : decode cX9_loss 36 = .ok (.iconst 0, 1) := by decide +kernel
theorem dX9_loss_37 : decode cX9_loss 37 = .ok (.istore_n 2, 1) := by decide +kernel
theorem dX9_loss_38 : decode cX9_loss 38 = .ok (.iconst 0, 1) := by decide +kernel
theorem dX9_loss_39 : decode cX9_loss 39 = .ok (.istore_n 3, 1) := by decide +kernel
theorem dX9_loss_40 : decode cX9_loss 40 = .ok (.iload_n 3, 1) := by decide +kernel
theorem dX9_loss_41 : decode cX9_loss 41 = .ok (.aload_n 0, 1) := by decide +kernel
theorem dX9_loss_42 : decode cX9_loss 42 = .ok (.getfield 162, 3) := by decide +kernel
theorem dX9_loss_45 : decode cX9_loss 45 = .ok (.if_icmp .ge 25, 3) := by decide +kernel
theorem dX9_loss_48 : decode cX9_loss 48 = .ok (.iload_n 2, 1) := by decide +kernel
theorem dX9_loss_49 : decode cX9_loss 49 = .ok (.aload_n 0, 1) := by decide +kernel
theorem dX9_loss_50 : decode cX9_loss 50 = .ok (.getfield 22, 3) := by decide +kernel
theorem dX9_loss_53 : decode cX9_loss 53 = .ok (.aload_n 0, 1) := by decide +kernel
theorem dX9_loss_54 : decode cX9_loss 54 = .ok (.getfield 34, 3) := by decide +kernel
theorem dX9_loss_57 : decode cX9_loss 57 = .ok (.iload_n 3, 1) := by decide +kernel
theorem dX9_loss_58 : decode cX9_loss 58 = .ok (.iaload, 1) := by decide +kernel
theorem dX9_loss_59 : decode cX9_loss 59 = .ok (.iaload, 1) := by decide +kernel
theorem dX9_loss_60 : decode cX9_loss 60 = .ok (.iload_n 3, 1) := by decide +kernel
theorem dX9_loss_61 : decode cX9_loss 61 = .ok (.imul, 1) := by decide +kernel
theorem dX9_loss_62 : decode cX9_loss 62 = .ok (.iadd, 1) := by decide +kernel
theorem dX9_loss_63 : decode cX9_loss 63 = .ok (.istore_n 2, 1) := by decide +kernel
theorem dX9_loss_64 : decode cX9_loss 64 = .ok (.iinc 3 1, 3) := by decide +kernel
theorem dX9_loss_67 : decode cX9_loss 67 = .ok (.goto (-27), 3) := by decide +kernel
theorem dX9_loss_70 : decode cX9_loss 70 = .ok (.iload_n 2, 1) := by decide +kernel
theorem dX9_loss_71 : decode cX9_loss 71 = .ok (.ireturn, 1) := by decide +kernel
theorem dX9_let_0 : decode cX9_let 0 = .ok (.aload_n 0, 1) := by decide +kernel
theorem dX9_let_1 : decode cX9_let 1 = .ok (.iload_n 1, 1) := by decide +kernel
theorem dX9_let_2 : decode cX9_let 2 = .ok (.invokevirtual 120, 3) := by decide +kernel
theorem dX9_let_5 : decode cX9_let 5 = .ok (.ifCond .ne 5, 3) := by decide +kernel
theorem dX9_let_8 : decode cX9_let 8 = .ok (.iconst (-1), 1) := by decide +kernel
theorem dX9_let_9 : decode cX9_let 9 = .ok (.ireturn, 1) := by decide +kernel
theorem dX9_let_10 : decode cX9_let 10 = .ok (.iload_n 2, 1) := by decide +kernel
theorem dX9_let_11 : decode cX9_let 11 = .ok (.iconst 0, 1) := by decide +kernel
theorem dX9_let_12 : decode cX9_let 12 = .ok (.iconst 5, 1) := by decide +kernel
theorem dX9_let_13 : decode cX9_let 13 = .ok (.invokestatic 58, 3) := by decide +kernel
theorem dX9_let_16 : decode cX9_let 16 = .ok (.ifCond .ne 6, 3) := by decide +kernel
theorem dX9_let_19 : decode cX9_let 19 = .ok (.bipush (-2), 2) := by decide +kernel
theorem dX9_let_21 : decode cX9_let 21 = .ok (.ireturn, 1) := by decide +kernel
theorem dX9_let_22 : decode cX9_let 22 = .ok (.aload_n 0, 1) := by decide +kernel
theorem dX9_let_23 : decode cX9_let 23 = .ok (.getfield 98, 3) := by decide +kernel
theorem dX9_let_26 : decode cX9_let 26 = .ok (.iload_n 1, 1) := by decide +kernel
theorem dX9_let_27 : decode cX9_let 27 = .ok (.invokestatic 139, 3) := by decide +kernel
theorem dX9_let_30 : decode cX9_let 30 = .ok (.ifCond .ne 6, 3) := by decide +kernel
theorem dX9_let_33 : decode cX9_let 33 = .ok (.bipush (-3), 2) := by decide +kernel
theorem dX9_let_35 : decode cX9_let 35 = .ok (.ireturn, 1) := by decide +kernel
theorem dX9_let_36 : decode cX9_let 36 = .ok (.aload_n 0, 1) := by decide +kernel
theorem dX9_let_37 : decode cX9_let 37 = .ok (.getfield 25, 3) := by decide +kernel
theorem dX9_let_40 : decode cX9_let 40 = .ok (.iload_n 1, 1) := by decide +kernel
theorem dX9_let_41 : decode cX9_let 41 = .ok (.iaload, 1) := by decide +kernel
theorem dX9_let_42 : decode cX9_let 42 = .ok (.istore_n 3, 1) := by decide +kernel
theorem dX9_let_43 : decode cX9_let 43 = .ok (.bipush (-9), 2) := by decide +kernel
theorem dX9_let_45 : decode cX9_let 45 = .ok (.istore 4, 2) := by decide +kernel
theorem dX9_let_47 : decode cX9_let 47 = .ok (.bipush 9, 2) := by decide +kernel
theorem dX9_let_49 : decode cX9_let 49 = .ok (.istore 5, 2) := by decide +kernel
theorem dX9_let_51 : decode cX9_let 51 = .ok (.iload 5, 2) := by decide +kernel
theorem dX9_let_53 : decode cX9_let 53 = .ok (.ifCond .lt 65, 3) := by decide +kernel
theorem dX9_let_56 : decode cX9_let 56 = .ok (.aload_n 0, 1) := by decide +kernel
theorem dX9_let_57 : decode cX9_let 57 = .ok (.getfield 25, 3) := by decide +kernel
theorem dX9_let_60 : decode cX9_let 60 = .ok (.iload_n 1, 1) := by decide +kernel
theorem dX9_let_61 : decode cX9_let 61 = .ok (.iload 5, 2) := by decide +kernel
theorem dX9_let_63 : decode cX9_let 63 = .ok (.iastore, 1) := by decide +kernel
theorem dX9_let_64 : decode cX9_let 64 = .ok (.aload_n 0, 1) := by decide +kernel
theorem dX9_let_65 : decode cX9_let 65 = .ok (.invokevirtual 165, 3) := by decide +kernel
theorem dX9_let_68 : decode cX9_let 68 = .ok (.iconst 0, 1) := by decide +kernel
theorem dX9_let_69 : decode cX9_let 69 = .ok (.istore 6, 2) := by decide +kernel
theorem dX9_let_71 : decode cX9_let 71 = .ok (.iload 6, 2) := by decide +kernel
theorem dX9_let_73 : decode cX9_let 73 = .ok (.iload_n 2, 1) := by decide +kernel
theorem dX9_let_74 : decode cX9_let 74 = .ok (.if_icmp .gt 38, 3) := by decide +kernel
theorem dX9_let_77 : decode cX9_let 77 = .ok (.iload 6, 2) := by decide +kernel
theorem dX9_let_79 : decode cX9_let 79 = .ok (.aload_n 0, 1) := by decide +kernel
theorem dX9_let_80 : decode cX9_let 80 = .ok (.getfield 162, 3) := by decide +kernel
theorem dX9_let_83 : decode cX9_let 83 = .ok (.if_icmp .ge 29, 3) := by decide +kernel
theorem dX9_let_86 : decode cX9_let 86 = .ok (.aload_n 0, 1) := by decide +kernel
theorem dX9_let_87 : decode cX9_let 87 = .ok (.getfield 34, 3) := by decide +kernel
theorem dX9_let_90 : decode cX9_let 90 = .ok (.iload 6, 2) := by decide +kernel
theorem dX9_let_92 : decode cX9_let 92 = .ok (.iaload, 1) := by decide +kernel
theorem dX9_let_93 : decode cX9_let 93 = .ok (.iload_n 1, 1) := by decide +kernel
theorem dX9_let_94 : decode cX9_let 94 = .ok (.if_icmp .ne 8, 3) := by decide +kernel
theorem dX9_let_97 : decode cX9_let 97 = .ok (.iload 5, 2) := by decide +kernel
theorem dX9_let_99 : decode cX9_let 99 = .ok (.goto 5, 3) := by decide +kernel
theorem dX9_let_102 : decode cX9_let 102 = .ok (.iload 4, 2) := by decide +kernel
theorem dX9_let_104 : decode cX9_let 104 = .ok (.istore 4, 2) := by decide +kernel
theorem dX9_let_106 : decode cX9_let 106 = .ok (.iinc 6 1, 3) := by decide +kernel
theorem dX9_let_109 : decode cX9_let 109 = .ok (.goto (-38), 3) := by decide +kernel
theorem dX9_let_112 : decode cX9_let 112 = .ok (.iinc 5 (-1), 3) := by decide +kernel
theorem dX9_let_115 : decode cX9_let 115 = .ok (.goto (-64), 3) := by decide +kernel
theorem dX9_let_118 : decode cX9_let 118 = .ok (.aload_n 0, 1) := by decide +kernel
theorem dX9_let_119 : decode cX9_let 119 = .ok (.getfield 25, 3) := by decide +kernel
theorem dX9_let_122 : decode cX9_let 122 = .ok (.iload_n 1, 1) := by decide +kernel
theorem dX9_let_123 : decode cX9_let 123 = .ok (.iload_n 3, 1) := by decide +kernel
theorem dX9_let_124 : decode cX9_let 124 = .ok (.iastore, 1) := by decide +kernel
theorem dX9_let_125 : decode cX9_let 125 = .ok (.iload 4, 2) := by decide +kernel
theorem dX9_let_127 : decode cX9_let 127 = .ok (.ireturn, 1) := by decide +kernel
theorem dX9_balanceOf_0 : decode cX9_balanceOf 0 = .ok (.aload_n 0, 1) := by decide +kernel
theorem dX9_balanceOf_1 : decode cX9_balanceOf 1 = .ok (.iload_n 1, 1) := by decide +kernel
theorem dX9_balanceOf_2 : decode cX9_balanceOf 2 = .ok (.iconst 0, 1) := by decide +kernel
theorem dX9_balanceOf_3 : decode cX9_balanceOf 3 = .ok (.invokevirtual 126, 3) := by decide +kernel
theorem dX9_balanceOf_6 : decode cX9_balanceOf 6 = .ok (.aload_n 0, 1) := by decide +kernel
theorem dX9_balanceOf_7 : decode cX9_balanceOf 7 = .ok (.iload_n 1, 1) := by decide +kernel
theorem dX9_balanceOf_8 : decode cX9_balanceOf 8 = .ok (.iconst 1, 1) := by decide +kernel
theorem dX9_balanceOf_9 : decode cX9_balanceOf 9 = .ok (.invokevirtual 126, 3) := by decide +kernel
theorem dX9_balanceOf_12 : decode cX9_balanceOf 12 = .ok (.isub, 1) := by decide +kernel
theorem dX9_balanceOf_13 : decode cX9_balanceOf 13 = .ok (.ireturn, 1) := by decide +kernel
theorem dX9_balance_0 : decode cX9_balance 0 = .ok (.aload_n 0, 1) := by decide +kernel
theorem dX9_balance_1 : decode cX9_balance 1 = .ok (.iload_n 1, 1) := by decide +kernel
theorem dX9_balance_2 : decode cX9_balance 2 = .ok (.invokevirtual 120, 3) := by decide +kernel
theorem dX9_balance_5 : decode cX9_balance 5 = .ok (.ifCond .eq 15, 3) := by decide +kernel
theorem dX9_balance_8 : decode cX9_balance 8 = .ok (.sipush 10000, 3) := by decide +kernel
theorem dX9_balance_11 : decode cX9_balance 11 = .ok (.aload_n 0, 1) := by decide +kernel
theorem dX9_balance_12 : decode cX9_balance 12 = .ok (.iload_n 1, 1) := by decide +kernel
theorem dX9_balance_13 : decode cX9_balance 13 = .ok (.invokevirtual 171, 3) := by decide +kernel
theorem dX9_balance_16 : decode cX9_balance 16 = .ok (.iadd, 1) := by decide +kernel
theorem dX9_balance_17 : decode cX9_balance 17 = .ok (.goto 4, 3) := by decide +kernel
theorem dX9_balance_20 : decode cX9_balance 20 = .ok (.iconst (-1), 1) := by decide +kernel
theorem dX9_balance_21 : decode cX9_balance 21 = .ok (.ireturn, 1) := by decide +kernel
theorem dX9_isEven_0 : decode cX9_isEven 0 = .ok (.iconst 0, 1) := by decide +kernel
theorem dX9_isEven_1 : decode cX9_isEven 1 = .ok (.istore_n 2, 1) := by decide +kernel
theorem dX9_isEven_2 : decode cX9_isEven 2 = .ok (.iconst 0, 1) := by decide +kernel
theorem dX9_isEven_3 : decode cX9_isEven 3 = .ok (.istore_n 3, 1) := by decide +kernel
theorem dX9_isEven_4 : decode cX9_isEven 4 = .ok (.iload_n 3, 1) := by decide +kernel
theorem dX9_isEven_5 : decode cX9_isEven 5 = .ok (.aload_n 0, 1) := by decide +kernel
theorem dX9_isEven_6 : decode cX9_isEven 6 = .ok (.getfield 62, 3) := by decide +kernel
theorem dX9_isEven_9 : decode cX9_isEven 9 = .ok (.if_icmp .ge 29, 3) := by decide +kernel
theorem dX9_isEven_12 : decode cX9_isEven 12 = .ok (.iload_n 2, 1) := by decide +kernel
theorem dX9_isEven_13 : decode cX9_isEven 13 = .ok (.iload_n 1, 1) := by decide +kernel
theorem dX9_isEven_14 : decode cX9_isEven 14 = .ok (.iload_n 3, 1) := by decide +kernel
theorem dX9_isEven_15 : decode cX9_isEven 15 = .ok (.invokestatic 139, 3) := by decide +kernel
theorem dX9_isEven_18 : decode cX9_isEven 18 = .ok (.ifCond .eq 11, 3) := by decide +kernel
theorem dX9_isEven_21 : decode cX9_isEven 21 = .ok (.aload_n 0, 1) := by decide +kernel
theorem dX9_isEven_22 : decode cX9_isEven 22 = .ok (.iload_n 3, 1) := by decide +kernel
theorem dX9_isEven_23 : decode cX9_isEven 23 = .ok (.invokevirtual 171, 3) := by decide +kernel
theorem dX9_isEven_26 : decode cX9_isEven 26 = .ok (.goto 4, 3) := by decide +kernel
theorem dX9_isEven_29 : decode cX9_isEven 29 = .ok (.iconst 0, 1) := by decide +kernel
theorem dX9_isEven_30 : decode cX9_isEven 30 = .ok (.iadd, 1) := by decide +kernel
theorem dX9_isEven_31 : decode cX9_isEven 31 = .ok (.istore_n 2, 1) := by decide +kernel
theorem dX9_isEven_32 : decode cX9_isEven 32 = .ok (.iinc 3 1, 3) := by decide +kernel
theorem dX9_isEven_35 : decode cX9_isEven 35 = .ok (.goto (-31), 3) := by decide +kernel
theorem dX9_isEven_38 : decode cX9_isEven 38 = .ok (.iload_n 2, 1) := by decide +kernel
theorem dX9_isEven_39 : decode cX9_isEven 39 = .ok (.ifCond .ne 7, 3) := by decide +kernel
theorem dX9_isEven_42 : decode cX9_isEven 42 = .ok (.iconst 1, 1) := by decide +kernel
theorem dX9_isEven_43 : decode cX9_isEven 43 = .ok (.goto 4, 3) := by decide +kernel
theorem dX9_isEven_46 : decode cX9_isEven 46 = .ok (.iconst 0, 1) := by decide +kernel
theorem dX9_isEven_47 : decode cX9_isEven 47 = .ok (.ireturn, 1) := by decide +kernel
theorem dX9_mostGroups_0 : decode cX9_mostGroups 0 = .ok (.iconst 1, 1) := by decide +kernel
theorem dX9_mostGroups_1 : decode cX9_mostGroups 1 = .ok (.istore_n 2, 1) := by decide +kernel
theorem dX9_mostGroups_2 : decode cX9_mostGroups 2 = .ok (.iload_n 2, 1) := by decide +kernel
theorem dX9_mostGroups_3 : decode cX9_mostGroups 3 = .ok (.iload_n 1, 1) := by decide +kernel
theorem dX9_mostGroups_4 : decode cX9_mostGroups 4 = .ok (.if_icmp .gt 132, 3) := by decide +kernel
theorem dX9_mostGroups_7 : decode cX9_mostGroups 7 = .ok (.aload_n 0, 1) := by decide +kernel
theorem dX9_mostGroups_8 : decode cX9_mostGroups 8 = .ok (.getfield 40, 3) := by decide +kernel
theorem dX9_mostGroups_11 : decode cX9_mostGroups 11 = .ok (.iload_n 2, 1) := by decide +kernel
theorem dX9_mostGroups_12 : decode cX9_mostGroups 12 = .ok (.bipush (-9), 2) := by decide +kernel
theorem dX9_mostGroups_14 : decode cX9_mostGroups 14 = .ok (.iastore, 1) := by decide +kernel
theorem dX9_mostGroups_15 : decode cX9_mostGroups 15 = .ok (.iconst 1, 1) := by decide +kernel
theorem dX9_mostGroups_16 : decode cX9_mostGroups 16 = .ok (.istore_n 3, 1) := by decide +kernel
theorem dX9_mostGroups_17 : decode cX9_mostGroups 17 = .ok (.iload_n 3, 1) := by decide +kernel
theorem dX9_mostGroups_18 : decode cX9_mostGroups 18 = .ok (.iload_n 2, 1) := by decide +kernel
theorem dX9_mostGroups_19 : decode cX9_mostGroups 19 = .ok (.if_icmp .gt 111, 3) := by decide +kernel
theorem dX9_mostGroups_22 : decode cX9_mostGroups 22 = .ok (.iload_n 3, 1) := by decide +kernel
theorem dX9_mostGroups_23 : decode cX9_mostGroups 23 = .ok (.iload_n 2, 1) := by decide +kernel
theorem dX9_mostGroups_24 : decode cX9_mostGroups 24 = .ok (.iconst (-1), 1) := by decide +kernel
theorem dX9_mostGroups_25 : decode cX9_mostGroups 25 = .ok (.ixor, 1) := by decide +kernel
theorem dX9_mostGroups_26 : decode cX9_mostGroups 26 = .ok (.iand, 1) := by decide +kernel
theorem dX9_mostGroups_27 : decode cX9_mostGroups 27 = .ok (.ifCond .ne 33, 3) := by decide +kernel
theorem dX9_mostGroups_30 : decode cX9_mostGroups 30 = .ok (.aload_n 0, 1) := by decide +kernel
theorem dX9_mostGroups_31 : decode cX9_mostGroups 31 = .ok (.iload_n 3, 1) := by decide +kernel
theorem dX9_mostGroups_32 : decode cX9_mostGroups 32 = .ok (.invokevirtual 174, 3) := by decide +kernel
theorem dX9_mostGroups_35 : decode cX9_mostGroups 35 = .ok (.ifCond .eq 25, 3) := by decide +kernel
theorem dX9_mostGroups_38 : decode cX9_mostGroups 38 = .ok (.iload_n 3, 1) := by decide +kernel
theorem dX9_mostGroups_39 : decode cX9_mostGroups 39 = .ok (.iload_n 2, 1) := by decide +kernel
theorem dX9_mostGroups_40 : decode cX9_mostGroups 40 = .ok (.if_icmp .eq 16, 3) := by decide +kernel
theorem dX9_mostGroups_43 : decode cX9_mostGroups 43 = .ok (.aload_n 0, 1) := by decide +kernel
theorem dX9_mostGroups_44 : decode cX9_mostGroups 44 = .ok (.getfield 40, 3) := by decide +kernel
theorem dX9_mostGroups_47 : decode cX9_mostGroups 47 = .ok (.iload_n 2, 1) := by decide +kernel
theorem dX9_mostGroups_48 : decode cX9_mostGroups 48 = .ok (.iload_n 3, 1) := by decide +kernel
theorem dX9_mostGroups_49 : decode cX9_mostGroups 49 = .ok (.iconst (-1), 1) := by decide +kernel
theorem dX9_mostGroups_50 : decode cX9_mostGroups 50 = .ok (.ixor, 1) := by decide +kernel
theorem dX9_mostGroups_51 : decode cX9_mostGroups 51 = .ok (.iand, 1) := by decide +kernel
theorem dX9_mostGroups_52 : decode cX9_mostGroups 52 = .ok (.iaload, 1) := by decide +kernel
theorem dX9_mostGroups_53 : decode cX9_mostGroups 53 = .ok (.ifCond .le 7, 3) := by decide +kernel
theorem dX9_mostGroups_56 : decode cX9_mostGroups 56 = .ok (.iconst 1, 1) := by decide +kernel
theorem dX9_mostGroups_57 : decode cX9_mostGroups 57 = .ok (.goto 4, 3) := by decide +kernel
theorem dX9_mostGroups_60 : decode cX9_mostGroups 60 = .ok (.iconst 0, 1) := by decide +kernel
theorem dX9_mostGroups_61 : decode cX9_mostGroups 61 = .ok (.istore 4, 2) := by decide +kernel
theorem dX9_mostGroups_63 : decode cX9_mostGroups 63 = .ok (.iload 4, 2) := by decide +kernel
theorem dX9_mostGroups_65 : decode cX9_mostGroups 65 = .ok (.ifCond .eq 27, 3) := by decide +kernel
theorem dX9_mostGroups_68 : decode cX9_mostGroups 68 = .ok (.iconst 1, 1) := by decide +kernel
theorem dX9_mostGroups_69 : decode cX9_mostGroups 69 = .ok (.iload_n 3, 1) := by decide +kernel
theorem dX9_mostGroups_70 : decode cX9_mostGroups 70 = .ok (.iload_n 2, 1) := by decide +kernel
theorem dX9_mostGroups_71 : decode cX9_mostGroups 71 = .ok (.if_icmp .ne 7, 3) := by decide +kernel
theorem dX9_mostGroups_74 : decode cX9_mostGroups 74 = .ok (.iconst 0, 1) := by decide +kernel
theorem dX9_mostGroups_75 : decode cX9_mostGroups 75 = .ok (.goto 13, 3) := by decide +kernel
theorem dX9_mostGroups_78 : decode cX9_mostGroups 78 = .ok (.aload_n 0, 1) := by decide +kernel
theorem dX9_mostGroups_79 : decode cX9_mostGroups 79 = .ok (.getfield 40, 3) := by decide +kernel
theorem dX9_mostGroups_82 : decode cX9_mostGroups 82 = .ok (.iload_n 2, 1) := by decide +kernel
theorem dX9_mostGroups_83 : decode cX9_mostGroups 83 = .ok (.iload_n 3, 1) := by decide +kernel
theorem dX9_mostGroups_84 : decode cX9_mostGroups 84 = .ok (.iconst (-1), 1) := by decide +kernel
theorem dX9_mostGroups_85 : decode cX9_mostGroups 85 = .ok (.ixor, 1) := by decide +kernel
theorem dX9_mostGroups_86 : decode cX9_mostGroups 86 = .ok (.iand, 1) := by decide +kernel
theorem dX9_mostGroups_87 : decode cX9_mostGroups 87 = .ok (.iaload, 1) := by decide +kernel
theorem dX9_mostGroups_88 : decode cX9_mostGroups 88 = .ok (.iadd, 1) := by decide +kernel
theorem dX9_mostGroups_89 : decode cX9_mostGroups 89 = .ok (.goto 5, 3) := by decide +kernel
theorem dX9_mostGroups_92 : decode cX9_mostGroups 92 = .ok (.bipush (-9), 2) := by decide +kernel
theorem dX9_mostGroups_94 : decode cX9_mostGroups 94 = .ok (.istore 5, 2) := by decide +kernel
theorem dX9_mostGroups_96 : decode cX9_mostGroups 96 = .ok (.aload_n 0, 1) := by decide +kernel
theorem dX9_mostGroups_97 : decode cX9_mostGroups 97 = .ok (.getfield 40, 3) := by decide +kernel
theorem dX9_mostGroups_100 : decode cX9_mostGroups 100 = .ok (.iload_n 2, 1) := by decide +kernel
theorem dX9_mostGroups_101 : decode cX9_mostGroups 101 = .ok (.iload 5, 2) := by decide +kernel
theorem dX9_mostGroups_103 : decode cX9_mostGroups 103 = .ok (.aload_n 0, 1) := by decide +kernel
theorem dX9_mostGroups_104 : decode cX9_mostGroups 104 = .ok (.getfield 40, 3) := by decide +kernel
theorem dX9_mostGroups_107 : decode cX9_mostGroups 107 = .ok (.iload_n 2, 1) := by decide +kernel
theorem dX9_mostGroups_108 : decode cX9_mostGroups 108 = .ok (.iaload, 1) := by decide +kernel
theorem dX9_mostGroups_109 : decode cX9_mostGroups 109 = .ok (.if_icmp .le 8, 3) := by decide +kernel
theorem dX9_mostGroups_112 : decode cX9_mostGroups 112 = .ok (.iload 5, 2) := by decide +kernel
theorem dX9_mostGroups_114 : decode cX9_mostGroups 114 = .ok (.goto 9, 3) := by decide +kernel
theorem dX9_mostGroups_117 : decode cX9_mostGroups 117 = .ok (.aload_n 0, 1) := by decide +kernel
theorem dX9_mostGroups_118 : decode cX9_mostGroups 118 = .ok (.getfield 40, 3) := by decide +kernel
theorem dX9_mostGroups_121 : decode cX9_mostGroups 121 = .ok (.iload_n 2, 1) := by decide +kernel
theorem dX9_mostGroups_122 : decode cX9_mostGroups 122 = .ok (.iaload, 1) := by decide +kernel
theorem dX9_mostGroups_123 : decode cX9_mostGroups 123 = .ok (.iastore, 1) := by decide +kernel
theorem dX9_mostGroups_124 : decode cX9_mostGroups 124 = .ok (.iinc 3 1, 3) := by decide +kernel
theorem dX9_mostGroups_127 : decode cX9_mostGroups 127 = .ok (.goto (-110), 3) := by decide +kernel
theorem dX9_mostGroups_130 : decode cX9_mostGroups 130 = .ok (.iinc 2 1, 3) := by decide +kernel
theorem dX9_mostGroups_133 : decode cX9_mostGroups 133 = .ok (.goto (-131), 3) := by decide +kernel
theorem dX9_mostGroups_136 : decode cX9_mostGroups 136 = .ok (.aload_n 0, 1) := by decide +kernel
theorem dX9_mostGroups_137 : decode cX9_mostGroups 137 = .ok (.getfield 40, 3) := by decide +kernel
theorem dX9_mostGroups_140 : decode cX9_mostGroups 140 = .ok (.iload_n 1, 1) := by decide +kernel
theorem dX9_mostGroups_141 : decode cX9_mostGroups 141 = .ok (.iaload, 1) := by decide +kernel
theorem dX9_mostGroups_142 : decode cX9_mostGroups 142 = .ok (.ireturn, 1) := by decide +kernel
theorem dX9_cleared_0 : decode cX9_cleared 0 = .ok (.iload_n 1, 1) := by decide +kernel
theorem dX9_cleared_1 : decode cX9_cleared 1 = .ok (.iconst 0, 1) := by decide +kernel
theorem dX9_cleared_2 : decode cX9_cleared 2 = .ok (.iconst 1, 1) := by decide +kernel
theorem dX9_cleared_3 : decode cX9_cleared 3 = .ok (.invokestatic 58, 3) := by decide +kernel
theorem dX9_cleared_6 : decode cX9_cleared 6 = .ok (.ifCond .ne 6, 3) := by decide +kernel
theorem dX9_cleared_9 : decode cX9_cleared 9 = .ok (.bipush (-2), 2) := by decide +kernel
theorem dX9_cleared_11 : decode cX9_cleared 11 = .ok (.ireturn, 1) := by decide +kernel
theorem dX9_cleared_12 : decode cX9_cleared 12 = .ok (.aload_n 0, 1) := by decide +kernel
theorem dX9_cleared_13 : decode cX9_cleared 13 = .ok (.getfield 62, 3) := by decide +kernel
theorem dX9_cleared_16 : decode cX9_cleared 16 = .ok (.ifCond .ne 6, 3) := by decide +kernel
theorem dX9_cleared_19 : decode cX9_cleared 19 = .ok (.bipush (-3), 2) := by decide +kernel
theorem dX9_cleared_21 : decode cX9_cleared 21 = .ok (.ireturn, 1) := by decide +kernel
theorem dX9_cleared_22 : decode cX9_cleared 22 = .ok (.iconst 0, 1) := by decide +kernel
theorem dX9_cleared_23 : decode cX9_cleared 23 = .ok (.istore_n 2, 1) := by decide +kernel
theorem dX9_cleared_24 : decode cX9_cleared 24 = .ok (.iconst 0, 1) := by decide +kernel
theorem dX9_cleared_25 : decode cX9_cleared 25 = .ok (.istore_n 3, 1) := by decide +kernel
theorem dX9_cleared_26 : decode cX9_cleared 26 = .ok (.iconst 0, 1) := by decide +kernel
theorem dX9_cleared_27 : decode cX9_cleared 27 = .ok (.istore 4, 2) := by decide +kernel
theorem dX9_cleared_29 : decode cX9_cleared 29 = .ok (.iload 4, 2) := by decide +kernel
theorem dX9_cleared_31 : decode cX9_cleared 31 = .ok (.aload_n 0, 1) := by decide +kernel
theorem dX9_cleared_32 : decode cX9_cleared 32 = .ok (.getfield 62, 3) := by decide +kernel
theorem dX9_cleared_35 : decode cX9_cleared 35 = .ok (.if_icmp .ge 51, 3) := by decide +kernel
theorem dX9_cleared_38 : decode cX9_cleared 38 = .ok (.iload_n 2, 1) := by decide +kernel
theorem dX9_cleared_39 : decode cX9_cleared 39 = .ok (.aload_n 0, 1) := by decide +kernel
theorem dX9_cleared_40 : decode cX9_cleared 40 = .ok (.iload 4, 2) := by decide +kernel
theorem dX9_cleared_42 : decode cX9_cleared 42 = .ok (.invokevirtual 171, 3) := by decide +kernel
theorem dX9_cleared_45 : decode cX9_cleared 45 = .ok (.ifCond .le 12, 3) := by decide +kernel
theorem dX9_cleared_48 : decode cX9_cleared 48 = .ok (.aload_n 0, 1) := by decide +kernel
theorem dX9_cleared_49 : decode cX9_cleared 49 = .ok (.iload 4, 2) := by decide +kernel
theorem dX9_cleared_51 : decode cX9_cleared 51 = .ok (.invokevirtual 171, 3) := by decide +kernel
theorem dX9_cleared_54 : decode cX9_cleared 54 = .ok (.goto 4, 3) := by decide +kernel
theorem dX9_cleared_57 : decode cX9_cleared 57 = .ok (.iconst 0, 1) := by decide +kernel
theorem dX9_cleared_58 : decode cX9_cleared 58 = .ok (.iadd, 1) := by decide +kernel
theorem dX9_cleared_59 : decode cX9_cleared 59 = .ok (.istore_n 2, 1) := by decide +kernel
theorem dX9_cleared_60 : decode cX9_cleared 60 = .ok (.iload_n 3, 1) := by decide +kernel
theorem dX9_cleared_61 : decode cX9_cleared 61 = .ok (.aload_n 0, 1) := by decide +kernel
theorem dX9_cleared_62 : decode cX9_cleared 62 = .ok (.iload 4, 2) := by decide +kernel
theorem dX9_cleared_64 : decode cX9_cleared 64 = .ok (.invokevirtual 171, 3) := by decide +kernel
theorem dX9_cleared_67 : decode cX9_cleared 67 = .ok (.ifCond .ne 7, 3) := by decide +kernel
theorem dX9_cleared_70 : decode cX9_cleared 70 = .ok (.iconst 0, 1) := by decide +kernel
theorem dX9_cleared_71 : decode cX9_cleared 71 = .ok (.goto 7, 3) := by decide +kernel
theorem dX9_cleared_74 : decode cX9_cleared 74 = .ok (.iconst 1, 1) := by decide +kernel
theorem dX9_cleared_75 : decode cX9_cleared 75 = .ok (.iload 4, 2) := by decide +kernel
theorem dX9_cleared_77 : decode cX9_cleared 77 = .ok (.ishl, 1) := by decide +kernel
theorem dX9_cleared_78 : decode cX9_cleared 78 = .ok (.ior, 1) := by decide +kernel
theorem dX9_cleared_79 : decode cX9_cleared 79 = .ok (.istore_n 3, 1) := by decide +kernel
theorem dX9_cleared_80 : decode cX9_cleared 80 = .ok (.iinc 4 1, 3) := by decide +kernel
theorem dX9_cleared_83 : decode cX9_cleared 83 = .ok (.goto (-54), 3) := by decide +kernel
theorem dX9_cleared_86 : decode cX9_cleared 86 = .ok (.iload_n 1, 1) := by decide +kernel
theorem dX9_cleared_87 : decode cX9_cleared 87 = .ok (.ifCond .eq 7, 3) := by decide +kernel
theorem dX9_cleared_90 : decode cX9_cleared 90 = .ok (.iload_n 3, 1) := by decide +kernel
theorem dX9_cleared_91 : decode cX9_cleared 91 = .ok (.ifCond .ne 5, 3) := by decide +kernel
theorem dX9_cleared_94 : decode cX9_cleared 94 = .ok (.iload_n 2, 1) := by decide +kernel
theorem dX9_cleared_95 : decode cX9_cleared 95 = .ok (.ireturn, 1) := by decide +kernel
theorem dX9_cleared_96 : decode cX9_cleared 96 = .ok (.iload_n 3, 1) := by decide +kernel
theorem dX9_cleared_97 : decode cX9_cleared 97 = .ok (.invokestatic 148, 3) := by decide +kernel
theorem dX9_cleared_100 : decode cX9_cleared 100 = .ok (.aload_n 0, 1) := by decide +kernel
theorem dX9_cleared_101 : decode cX9_cleared 101 = .ok (.iload_n 3, 1) := by decide +kernel
theorem dX9_cleared_102 : decode cX9_cleared 102 = .ok (.invokevirtual 177, 3) := by decide +kernel
theorem dX9_cleared_105 : decode cX9_cleared 105 = .ok (.isub, 1) := by decide +kernel
theorem dX9_cleared_106 : decode cX9_cleared 106 = .ok (.ireturn, 1) := by decide +kernel
theorem dX9_were_0 : decode cX9_were 0 = .ok (.aload_n 0, 1) := by decide +kernel
theorem dX9_were_1 : decode cX9_were 1 = .ok (.iload_n 1, 1) := by decide +kernel
theorem dX9_were_2 : decode cX9_were 2 = .ok (.invokevirtual 120, 3) := by decide +kernel
theorem dX9_were_5 : decode cX9_were 5 = .ok (.ifCond .ne 5, 3) := by decide +kernel
theorem dX9_were_8 : decode cX9_were 8 = .ok (.iconst (-1), 1) := by decide +kernel
theorem dX9_were_9 : decode cX9_were 9 = .ok (.ireturn, 1) := by decide +kernel
theorem dX9_were_10 : decode cX9_were 10 = .ok (.iload_n 2, 1) := by decide +kernel
theorem dX9_were_11 : decode cX9_were 11 = .ok (.iconst 0, 1) := by decide +kernel
theorem dX9_were_12 : decode cX9_were 12 = .ok (.bipush 18, 2) := by decide +kernel
theorem dX9_were_14 : decode cX9_were 14 = .ok (.invokestatic 58, 3) := by decide +kernel
theorem dX9_were_17 : decode cX9_were 17 = .ok (.ifCond .eq 12, 3) := by decide +kernel
theorem dX9_were_20 : decode cX9_were 20 = .ok (.iload_n 3, 1) := by decide +kernel
theorem dX9_were_21 : decode cX9_were 21 = .ok (.iconst 0, 1) := by decide +kernel
theorem dX9_were_22 : decode cX9_were 22 = .ok (.iconst 2, 1) := by decide +kernel
theorem dX9_were_23 : decode cX9_were 23 = .ok (.invokestatic 58, 3) := by decide +kernel
theorem dX9_were_26 : decode cX9_were 26 = .ok (.ifCond .ne 6, 3) := by decide +kernel
theorem dX9_were_29 : decode cX9_were 29 = .ok (.bipush (-2), 2) := by decide +kernel
theorem dX9_were_31 : decode cX9_were 31 = .ok (.ireturn, 1) := by decide +kernel
theorem dX9_were_32 : decode cX9_were 32 = .ok (.iconst 0, 1) := by decide +kernel
theorem dX9_were_33 : decode cX9_were 33 = .ok (.istore 4, 2) := by decide +kernel
theorem dX9_were_35 : decode cX9_were 35 = .ok (.bipush (-9), 2) := by decide +kernel
theorem dX9_were_37 : decode cX9_were 37 = .ok (.istore 5, 2) := by decide +kernel
theorem dX9_were_39 : decode cX9_were 39 = .ok (.iconst 1, 1) := by decide +kernel
theorem dX9_were_40 : decode cX9_were 40 = .ok (.aload_n 0, 1) := by decide +kernel
theorem dX9_were_41 : decode cX9_were 41 = .ok (.getfield 62, 3) := by decide +kernel
theorem dX9_were_44 : decode cX9_were 44 = .ok (.ishl, 1) := by decide +kernel
theorem dX9_were_45 : decode cX9_were 45 = .ok (.iconst 1, 1) := by decide +kernel
theorem dX9_were_46 : decode cX9_were 46 = .ok (.isub, 1) := by decide +kernel
theorem dX9_were_47 : decode cX9_were 47 = .ok (.istore 6, 2) := by decide +kernel
theorem dX9_were_49 : decode cX9_were 49 = .ok (.iconst 1, 1) := by decide +kernel
theorem dX9_were_50 : decode cX9_were 50 = .ok (.istore 7, 2) := by decide +kernel
theorem dX9_were_52 : decode cX9_were 52 = .ok (.iload 7, 2) := by decide +kernel
theorem dX9_were_54 : decode cX9_were 54 = .ok (.iconst 1, 1) := by decide +kernel
theorem dX9_were_55 : decode cX9_were 55 = .ok (.aload_n 0, 1) := by decide +kernel
theorem dX9_were_56 : decode cX9_were 56 = .ok (.getfield 62, 3) := by decide +kernel
theorem dX9_were_59 : decode cX9_were 59 = .ok (.ishl, 1) := by decide +kernel
theorem dX9_were_60 : decode cX9_were 60 = .ok (.if_icmp .ge 62, 3) := by decide +kernel
theorem dX9_were_63 : decode cX9_were 63 = .ok (.iload 7, 2) := by decide +kernel
theorem dX9_were_65 : decode cX9_were 65 = .ok (.iload_n 1, 1) := by decide +kernel
theorem dX9_were_66 : decode cX9_were 66 = .ok (.invokestatic 139, 3) := by decide +kernel
theorem dX9_were_69 : decode cX9_were 69 = .ok (.ifCond .eq 47, 3) := by decide +kernel
theorem dX9_were_72 : decode cX9_were 72 = .ok (.aload_n 0, 1) := by decide +kernel
theorem dX9_were_73 : decode cX9_were 73 = .ok (.iload 7, 2) := by decide +kernel
theorem dX9_were_75 : decode cX9_were 75 = .ok (.invokevirtual 145, 3) := by decide +kernel
theorem dX9_were_78 : decode cX9_were 78 = .ok (.iload_n 1, 1) := by decide +kernel
theorem dX9_were_79 : decode cX9_were 79 = .ok (.if_icmp .ne 37, 3) := by decide +kernel
theorem dX9_were_82 : decode cX9_were 82 = .ok (.aload_n 0, 1) := by decide +kernel
theorem dX9_were_83 : decode cX9_were 83 = .ok (.getfield 130, 3) := by decide +kernel
theorem dX9_were_86 : decode cX9_were 86 = .ok (.iload_n 2, 1) := by decide +kernel
theorem dX9_were_87 : decode cX9_were 87 = .ok (.if_icmp .ne 29, 3) := by decide +kernel
theorem dX9_were_90 : decode cX9_were 90 = .ok (.iinc 4 1, 3) := by decide +kernel
theorem dX9_were_93 : decode cX9_were 93 = .ok (.iload 5, 2) := by decide +kernel
theorem dX9_were_95 : decode cX9_were 95 = .ok (.bipush (-9), 2) := by decide +kernel
theorem dX9_were_97 : decode cX9_were 97 = .ok (.if_icmp .ne 8, 3) := by decide +kernel
theorem dX9_were_100 : decode cX9_were 100 = .ok (.iload 7, 2) := by decide +kernel
theorem dX9_were_102 : decode cX9_were 102 = .ok (.goto 5, 3) := by decide +kernel
theorem dX9_were_105 : decode cX9_were 105 = .ok (.iload 5, 2) := by decide +kernel
theorem dX9_were_107 : decode cX9_were 107 = .ok (.istore 5, 2) := by decide +kernel
theorem dX9_were_109 : decode cX9_were 109 = .ok (.iload 6, 2) := by decide +kernel
theorem dX9_were_111 : decode cX9_were 111 = .ok (.iload 7, 2) := by decide +kernel
theorem dX9_were_113 : decode cX9_were 113 = .ok (.iand, 1) := by decide +kernel
theorem dX9_were_114 : decode cX9_were 114 = .ok (.istore 6, 2) := by decide +kernel
theorem dX9_were_116 : decode cX9_were 116 = .ok (.iinc 7 1, 3) := by decide +kernel
theorem dX9_were_119 : decode cX9_were 119 = .ok (.goto (-67), 3) := by decide +kernel
theorem dX9_were_122 : decode cX9_were 122 = .ok (.iload_n 3, 1) := by decide +kernel
theorem dX9_were_123 : decode cX9_were 123 = .ok (.ifCond .ne 8, 3) := by decide +kernel
theorem dX9_were_126 : decode cX9_were 126 = .ok (.iload 4, 2) := by decide +kernel
theorem dX9_were_128 : decode cX9_were 128 = .ok (.goto 20, 3) := by decide +kernel
theorem dX9_were_131 : decode cX9_were 131 = .ok (.iload_n 3, 1) := by decide +kernel
theorem dX9_were_132 : decode cX9_were 132 = .ok (.iconst 1, 1) := by decide +kernel
theorem dX9_were_133 : decode cX9_were 133 = .ok (.if_icmp .eq 8, 3) := by decide +kernel
theorem dX9_were_136 : decode cX9_were 136 = .ok (.iload 4, 2) := by decide +kernel
theorem dX9_were_138 : decode cX9_were 138 = .ok (.ifCond .ne 8, 3) := by decide +kernel
theorem dX9_were_141 : decode cX9_were 141 = .ok (.iload 5, 2) := by decide +kernel
theorem dX9_were_143 : decode cX9_were 143 = .ok (.goto 5, 3) := by decide +kernel
theorem dX9_were_146 : decode cX9_were 146 = .ok (.iload 6, 2) := by decide +kernel
theorem dX9_were_148 : decode cX9_were 148 = .ok (.ireturn, 1) := by decide +kernel
theorem dX9_reading_0 : decode cX9_reading 0 = .ok (.aload_n 0, 1) := by decide +kernel
theorem dX9_reading_1 : decode cX9_reading 1 = .ok (.iload_n 1, 1) := by decide +kernel
theorem dX9_reading_2 : decode cX9_reading 2 = .ok (.invokevirtual 120, 3) := by decide +kernel
theorem dX9_reading_5 : decode cX9_reading 5 = .ok (.ifCond .ne 5, 3) := by decide +kernel
theorem dX9_reading_8 : decode cX9_reading 8 = .ok (.iconst (-1), 1) := by decide +kernel
theorem dX9_reading_9 : decode cX9_reading 9 = .ok (.ireturn, 1) := by decide +kernel
theorem dX9_reading_10 : decode cX9_reading 10 = .ok (.iload_n 2, 1) := by decide +kernel
theorem dX9_reading_11 : decode cX9_reading 11 = .ok (.iconst 0, 1) := by decide +kernel
theorem dX9_reading_12 : decode cX9_reading 12 = .ok (.bipush 18, 2) := by decide +kernel
theorem dX9_reading_14 : decode cX9_reading 14 = .ok (.invokestatic 58, 3) := by decide +kernel
theorem dX9_reading_17 : decode cX9_reading 17 = .ok (.ifCond .eq 12, 3) := by decide +kernel
theorem dX9_reading_20 : decode cX9_reading 20 = .ok (.iload_n 3, 1) := by decide +kernel
theorem dX9_reading_21 : decode cX9_reading 21 = .ok (.iconst 0, 1) := by decide +kernel
theorem dX9_reading_22 : decode cX9_reading 22 = .ok (.iconst 1, 1) := by decide +kernel
theorem dX9_reading_23 : decode cX9_reading 23 = .ok (.invokestatic 58, 3) := by decide +kernel
theorem dX9_reading_26 : decode cX9_reading 26 = .ok (.ifCond .ne 6, 3) := by decide +kernel
theorem dX9_reading_29 : decode cX9_reading 29 = .ok (.bipush (-2), 2) := by decide +kernel
theorem dX9_reading_31 : decode cX9_reading 31 = .ok (.ireturn, 1) := by decide +kernel
theorem dX9_reading_32 : decode cX9_reading 32 = .ok (.aload_n 0, 1) := by decide +kernel
theorem dX9_reading_33 : decode cX9_reading 33 = .ok (.getfield 104, 3) := by decide +kernel
theorem dX9_reading_36 : decode cX9_reading 36 = .ok (.bipush 8, 2) := by decide +kernel
theorem dX9_reading_38 : decode cX9_reading 38 = .ok (.if_icmp .ne 6, 3) := by decide +kernel
theorem dX9_reading_41 : decode cX9_reading 41 = .ok (.bipush (-4), 2) := by decide +kernel
theorem dX9_reading_43 : decode cX9_reading 43 = .ok (.ireturn, 1) := by decide +kernel
theorem dX9_reading_44 : decode cX9_reading 44 = .ok (.aload_n 0, 1) := by decide +kernel
theorem dX9_reading_45 : decode cX9_reading 45 = .ok (.getfield 43, 3) := by decide +kernel
theorem dX9_reading_48 : decode cX9_reading 48 = .ok (.aload_n 0, 1) := by decide +kernel
theorem dX9_reading_49 : decode cX9_reading 49 = .ok (.getfield 104, 3) := by decide +kernel
theorem dX9_reading_52 : decode cX9_reading 52 = .ok (.iload_n 1, 1) := by decide +kernel
theorem dX9_reading_53 : decode cX9_reading 53 = .ok (.iastore, 1) := by decide +kernel
theorem dX9_reading_54 : decode cX9_reading 54 = .ok (.aload_n 0, 1) := by decide +kernel
theorem dX9_reading_55 : decode cX9_reading 55 = .ok (.getfield 46, 3) := by decide +kernel
theorem dX9_reading_58 : decode cX9_reading 58 = .ok (.aload_n 0, 1) := by decide +kernel
theorem dX9_reading_59 : decode cX9_reading 59 = .ok (.getfield 104, 3) := by decide +kernel
theorem dX9_reading_62 : decode cX9_reading 62 = .ok (.iload_n 2, 1) := by decide +kernel
theorem dX9_reading_63 : decode cX9_reading 63 = .ok (.iastore, 1) := by decide +kernel
theorem dX9_reading_64 : decode cX9_reading 64 = .ok (.aload_n 0, 1) := by decide +kernel
theorem dX9_reading_65 : decode cX9_reading 65 = .ok (.getfield 49, 3) := by decide +kernel
theorem dX9_reading_68 : decode cX9_reading 68 = .ok (.aload_n 0, 1) := by decide +kernel
theorem dX9_reading_69 : decode cX9_reading 69 = .ok (.getfield 104, 3) := by decide +kernel
theorem dX9_reading_72 : decode cX9_reading 72 = .ok (.iload_n 3, 1) := by decide +kernel
theorem dX9_reading_73 : decode cX9_reading 73 = .ok (.iastore, 1) := by decide +kernel
theorem dX9_reading_74 : decode cX9_reading 74 = .ok (.aload_n 0, 1) := by decide +kernel
theorem dX9_reading_75 : decode cX9_reading 75 = .ok (.dup, 1) := by decide +kernel
theorem dX9_reading_76 : decode cX9_reading 76 = .ok (.getfield 104, 3) := by decide +kernel
theorem dX9_reading_79 : decode cX9_reading 79 = .ok (.iconst 1, 1) := by decide +kernel
theorem dX9_reading_80 : decode cX9_reading 80 = .ok (.iadd, 1) := by decide +kernel
theorem dX9_reading_81 : decode cX9_reading 81 = .ok (.putfield 104, 3) := by decide +kernel
theorem dX9_reading_84 : decode cX9_reading 84 = .ok (.aload_n 0, 1) := by decide +kernel
theorem dX9_reading_85 : decode cX9_reading 85 = .ok (.getfield 104, 3) := by decide +kernel
theorem dX9_reading_88 : decode cX9_reading 88 = .ok (.iconst 1, 1) := by decide +kernel
theorem dX9_reading_89 : decode cX9_reading 89 = .ok (.isub, 1) := by decide +kernel
theorem dX9_reading_90 : decode cX9_reading 90 = .ok (.ireturn, 1) := by decide +kernel
theorem dX9_back_0 : decode cX9_back 0 = .ok (.iload_n 1, 1) := by decide +kernel
theorem dX9_back_1 : decode cX9_back 1 = .ok (.iconst 0, 1) := by decide +kernel
theorem dX9_back_2 : decode cX9_back 2 = .ok (.aload_n 0, 1) := by decide +kernel
theorem dX9_back_3 : decode cX9_back 3 = .ok (.getfield 104, 3) := by decide +kernel
theorem dX9_back_6 : decode cX9_back 6 = .ok (.invokestatic 58, 3) := by decide +kernel
theorem dX9_back_9 : decode cX9_back 9 = .ok (.ifCond .ne 6, 3) := by decide +kernel
theorem dX9_back_12 : decode cX9_back 12 = .ok (.bipush (-2), 2) := by decide +kernel
theorem dX9_back_14 : decode cX9_back 14 = .ok (.ireturn, 1) := by decide +kernel
theorem dX9_back_15 : decode cX9_back 15 = .ok (.aload_n 0, 1) := by decide +kernel
theorem dX9_back_16 : decode cX9_back 16 = .ok (.dup, 1) := by decide +kernel
theorem dX9_back_17 : decode cX9_back 17 = .ok (.getfield 104, 3) := by decide +kernel
theorem dX9_back_20 : decode cX9_back 20 = .ok (.iload_n 1, 1) := by decide +kernel
theorem dX9_back_21 : decode cX9_back 21 = .ok (.isub, 1) := by decide +kernel
theorem dX9_back_22 : decode cX9_back 22 = .ok (.putfield 104, 3) := by decide +kernel
theorem dX9_back_25 : decode cX9_back 25 = .ok (.aload_n 0, 1) := by decide +kernel
theorem dX9_back_26 : decode cX9_back 26 = .ok (.getfield 104, 3) := by decide +kernel
theorem dX9_back_29 : decode cX9_back 29 = .ok (.ireturn, 1) := by decide +kernel
theorem dX9_areSo_0 : decode cX9_areSo 0 = .ok (.iconst 0, 1) := by decide +kernel
theorem dX9_areSo_1 : decode cX9_areSo 1 = .ok (.istore_n 1, 1) := by decide +kernel
theorem dX9_areSo_2 : decode cX9_areSo 2 = .ok (.iload_n 1, 1) := by decide +kernel
theorem dX9_areSo_3 : decode cX9_areSo 3 = .ok (.aload_n 0, 1) := by decide +kernel
theorem dX9_areSo_4 : decode cX9_areSo 4 = .ok (.getfield 104, 3) := by decide +kernel
theorem dX9_areSo_7 : decode cX9_areSo 7 = .ok (.if_icmp .ge 46, 3) := by decide +kernel
theorem dX9_areSo_10 : decode cX9_areSo 10 = .ok (.aload_n 0, 1) := by decide +kernel
theorem dX9_areSo_11 : decode cX9_areSo 11 = .ok (.aload_n 0, 1) := by decide +kernel
theorem dX9_areSo_12 : decode cX9_areSo 12 = .ok (.getfield 43, 3) := by decide +kernel
theorem dX9_areSo_15 : decode cX9_areSo 15 = .ok (.iload_n 1, 1) := by decide +kernel
theorem dX9_areSo_16 : decode cX9_areSo 16 = .ok (.iaload, 1) := by decide +kernel
theorem dX9_areSo_17 : decode cX9_areSo 17 = .ok (.invokevirtual 123, 3) := by decide +kernel
theorem dX9_areSo_20 : decode cX9_areSo 20 = .ok (.aload_n 0, 1) := by decide +kernel
theorem dX9_areSo_21 : decode cX9_areSo 21 = .ok (.getfield 46, 3) := by decide +kernel
theorem dX9_areSo_24 : decode cX9_areSo 24 = .ok (.iload_n 1, 1) := by decide +kernel
theorem dX9_areSo_25 : decode cX9_areSo 25 = .ok (.iaload, 1) := by decide +kernel
theorem dX9_areSo_26 : decode cX9_areSo 26 = .ok (.if_icmp .le 7, 3) := by decide +kernel
theorem dX9_areSo_29 : decode cX9_areSo 29 = .ok (.iconst 1, 1) := by decide +kernel
theorem dX9_areSo_30 : decode cX9_areSo 30 = .ok (.goto 4, 3) := by decide +kernel
theorem dX9_areSo_33 : decode cX9_areSo 33 = .ok (.iconst 0, 1) := by decide +kernel
theorem dX9_areSo_34 : decode cX9_areSo 34 = .ok (.istore_n 2, 1) := by decide +kernel
theorem dX9_areSo_35 : decode cX9_areSo 35 = .ok (.iload_n 2, 1) := by decide +kernel
theorem dX9_areSo_36 : decode cX9_areSo 36 = .ok (.aload_n 0, 1) := by decide +kernel
theorem dX9_areSo_37 : decode cX9_areSo 37 = .ok (.getfield 49, 3) := by decide +kernel
theorem dX9_areSo_40 : decode cX9_areSo 40 = .ok (.iload_n 1, 1) := by decide +kernel
theorem dX9_areSo_41 : decode cX9_areSo 41 = .ok (.iaload, 1) := by decide +kernel
theorem dX9_areSo_42 : decode cX9_areSo 42 = .ok (.if_icmp .eq 5, 3) := by decide +kernel
theorem dX9_areSo_45 : decode cX9_areSo 45 = .ok (.iconst 0, 1) := by decide +kernel
theorem dX9_areSo_46 : decode cX9_areSo 46 = .ok (.ireturn, 1) := by decide +kernel
theorem dX9_areSo_47 : decode cX9_areSo 47 = .ok (.iinc 1 1, 3) := by decide +kernel
theorem dX9_areSo_50 : decode cX9_areSo 50 = .ok (.goto (-48), 3) := by decide +kernel
theorem dX9_areSo_53 : decode cX9_areSo 53 = .ok (.iconst 1, 1) := by decide +kernel
theorem dX9_areSo_54 : decode cX9_areSo 54 = .ok (.ireturn, 1) := by decide +kernel
theorem dX9_hastes_0 : decode cX9_hastes 0 = .ok (.aload_n 0, 1) := by decide +kernel
theorem dX9_hastes_1 : decode cX9_hastes 1 = .ok (.iload_n 1, 1) := by decide +kernel
theorem dX9_hastes_2 : decode cX9_hastes 2 = .ok (.invokevirtual 120, 3) := by decide +kernel
theorem dX9_hastes_5 : decode cX9_hastes 5 = .ok (.ifCond .ne 5, 3) := by decide +kernel
theorem dX9_hastes_8 : decode cX9_hastes 8 = .ok (.iconst (-1), 1) := by decide +kernel
theorem dX9_hastes_9 : decode cX9_hastes 9 = .ok (.ireturn, 1) := by decide +kernel
theorem dX9_hastes_10 : decode cX9_hastes 10 = .ok (.aload_n 0, 1) := by decide +kernel
theorem dX9_hastes_11 : decode cX9_hastes 11 = .ok (.getfield 22, 3) := by decide +kernel
theorem dX9_hastes_14 : decode cX9_hastes 14 = .ok (.iload_n 1, 1) := by decide +kernel
theorem dX9_hastes_15 : decode cX9_hastes 15 = .ok (.iaload, 1) := by decide +kernel
theorem dX9_hastes_16 : decode cX9_hastes 16 = .ok (.istore_n 2, 1) := by decide +kernel
theorem dX9_hastes_17 : decode cX9_hastes 17 = .ok (.iconst 0, 1) := by decide +kernel
theorem dX9_hastes_18 : decode cX9_hastes 18 = .ok (.istore_n 3, 1) := by decide +kernel
theorem dX9_hastes_19 : decode cX9_hastes 19 = .ok (.iconst 0, 1) := by decide +kernel
theorem dX9_hastes_20 : decode cX9_hastes 20 = .ok (.istore 4, 2) := by decide +kernel
theorem dX9_hastes_22 : decode cX9_hastes 22 = .ok (.iload 4, 2) := by decide +kernel
theorem dX9_hastes_24 : decode cX9_hastes 24 = .ok (.bipush 9, 2) := by decide +kernel
theorem dX9_hastes_26 : decode cX9_hastes 26 = .ok (.if_icmp .gt 35, 3) := by decide +kernel
theorem dX9_hastes_29 : decode cX9_hastes 29 = .ok (.aload_n 0, 1) := by decide +kernel
theorem dX9_hastes_30 : decode cX9_hastes 30 = .ok (.getfield 22, 3) := by decide +kernel
theorem dX9_hastes_33 : decode cX9_hastes 33 = .ok (.iload_n 1, 1) := by decide +kernel
theorem dX9_hastes_34 : decode cX9_hastes 34 = .ok (.iload 4, 2) := by decide +kernel
theorem dX9_hastes_36 : decode cX9_hastes 36 = .ok (.iastore, 1) := by decide +kernel
theorem dX9_hastes_37 : decode cX9_hastes 37 = .ok (.iload_n 3, 1) := by decide +kernel
theorem dX9_hastes_38 : decode cX9_hastes 38 = .ok (.aload_n 0, 1) := by decide +kernel
theorem dX9_hastes_39 : decode cX9_hastes 39 = .ok (.invokevirtual 180, 3) := by decide +kernel
theorem dX9_hastes_42 : decode cX9_hastes 42 = .ok (.ifCond .eq 10, 3) := by decide +kernel
theorem dX9_hastes_45 : decode cX9_hastes 45 = .ok (.iconst 1, 1) := by decide +kernel
theorem dX9_hastes_46 : decode cX9_hastes 46 = .ok (.iload 4, 2) := by decide +kernel
theorem dX9_hastes_48 : decode cX9_hastes 48 = .ok (.ishl, 1) := by decide +kernel
theorem dX9_hastes_49 : decode cX9_hastes 49 = .ok (.goto 4, 3) := by decide +kernel
theorem dX9_hastes_52 : decode cX9_hastes 52 = .ok (.iconst 0, 1) := by decide +kernel
theorem dX9_hastes_53 : decode cX9_hastes 53 = .ok (.ior, 1) := by decide +kernel
theorem dX9_hastes_54 : decode cX9_hastes 54 = .ok (.istore_n 3, 1) := by decide +kernel
theorem dX9_hastes_55 : decode cX9_hastes 55 = .ok (.iinc 4 1, 3) := by decide +kernel
theorem dX9_hastes_58 : decode cX9_hastes 58 = .ok (.goto (-36), 3) := by decide +kernel
theorem dX9_hastes_61 : decode cX9_hastes 61 = .ok (.aload_n 0, 1) := by decide +kernel
theorem dX9_hastes_62 : decode cX9_hastes 62 = .ok (.getfield 22, 3) := by decide +kernel
theorem dX9_hastes_65 : decode cX9_hastes 65 = .ok (.iload_n 1, 1) := by decide +kernel
theorem dX9_hastes_66 : decode cX9_hastes 66 = .ok (.iload_n 2, 1) := by decide +kernel
theorem dX9_hastes_67 : decode cX9_hastes 67 = .ok (.iastore, 1) := by decide +kernel
theorem dX9_hastes_68 : decode cX9_hastes 68 = .ok (.iload_n 3, 1) := by decide +kernel
theorem dX9_hastes_69 : decode cX9_hastes 69 = .ok (.ireturn, 1) := by decide +kernel
theorem dX9_rooms_0 : decode cX9_rooms 0 = .ok (.aload_n 0, 1) := by decide +kernel
theorem dX9_rooms_1 : decode cX9_rooms 1 = .ok (.iload_n 1, 1) := by decide +kernel
theorem dX9_rooms_2 : decode cX9_rooms 2 = .ok (.invokevirtual 120, 3) := by decide +kernel
theorem dX9_rooms_5 : decode cX9_rooms 5 = .ok (.ifCond .ne 5, 3) := by decide +kernel
theorem dX9_rooms_8 : decode cX9_rooms 8 = .ok (.iconst (-1), 1) := by decide +kernel
theorem dX9_rooms_9 : decode cX9_rooms 9 = .ok (.ireturn, 1) := by decide +kernel
theorem dX9_rooms_10 : decode cX9_rooms 10 = .ok (.aload_n 0, 1) := by decide +kernel
theorem dX9_rooms_11 : decode cX9_rooms 11 = .ok (.getfield 25, 3) := by decide +kernel
theorem dX9_rooms_14 : decode cX9_rooms 14 = .ok (.iload_n 1, 1) := by decide +kernel
theorem dX9_rooms_15 : decode cX9_rooms 15 = .ok (.iaload, 1) := by decide +kernel
theorem dX9_rooms_16 : decode cX9_rooms 16 = .ok (.istore_n 2, 1) := by decide +kernel
theorem dX9_rooms_17 : decode cX9_rooms 17 = .ok (.iconst 0, 1) := by decide +kernel
theorem dX9_rooms_18 : decode cX9_rooms 18 = .ok (.istore_n 3, 1) := by decide +kernel
theorem dX9_rooms_19 : decode cX9_rooms 19 = .ok (.iconst 0, 1) := by decide +kernel
theorem dX9_rooms_20 : decode cX9_rooms 20 = .ok (.istore 4, 2) := by decide +kernel
theorem dX9_rooms_22 : decode cX9_rooms 22 = .ok (.iload 4, 2) := by decide +kernel
theorem dX9_rooms_24 : decode cX9_rooms 24 = .ok (.bipush 9, 2) := by decide +kernel
theorem dX9_rooms_26 : decode cX9_rooms 26 = .ok (.if_icmp .gt 35, 3) := by decide +kernel
theorem dX9_rooms_29 : decode cX9_rooms 29 = .ok (.aload_n 0, 1) := by decide +kernel
theorem dX9_rooms_30 : decode cX9_rooms 30 = .ok (.getfield 25, 3) := by decide +kernel
theorem dX9_rooms_33 : decode cX9_rooms 33 = .ok (.iload_n 1, 1) := by decide +kernel
theorem dX9_rooms_34 : decode cX9_rooms 34 = .ok (.iload 4, 2) := by decide +kernel
theorem dX9_rooms_36 : decode cX9_rooms 36 = .ok (.iastore, 1) := by decide +kernel
theorem dX9_rooms_37 : decode cX9_rooms 37 = .ok (.iload_n 3, 1) := by decide +kernel
theorem dX9_rooms_38 : decode cX9_rooms 38 = .ok (.aload_n 0, 1) := by decide +kernel
theorem dX9_rooms_39 : decode cX9_rooms 39 = .ok (.invokevirtual 180, 3) := by decide +kernel
theorem dX9_rooms_42 : decode cX9_rooms 42 = .ok (.ifCond .eq 10, 3) := by decide +kernel
theorem dX9_rooms_45 : decode cX9_rooms 45 = .ok (.iconst 1, 1) := by decide +kernel
theorem dX9_rooms_46 : decode cX9_rooms 46 = .ok (.iload 4, 2) := by decide +kernel
theorem dX9_rooms_48 : decode cX9_rooms 48 = .ok (.ishl, 1) := by decide +kernel
theorem dX9_rooms_49 : decode cX9_rooms 49 = .ok (.goto 4, 3) := by decide +kernel
theorem dX9_rooms_52 : decode cX9_rooms 52 = .ok (.iconst 0, 1) := by decide +kernel
theorem dX9_rooms_53 : decode cX9_rooms 53 = .ok (.ior, 1) := by decide +kernel
theorem dX9_rooms_54 : decode cX9_rooms 54 = .ok (.istore_n 3, 1) := by decide +kernel
theorem dX9_rooms_55 : decode cX9_rooms 55 = .ok (.iinc 4 1, 3) := by decide +kernel
theorem dX9_rooms_58 : decode cX9_rooms 58 = .ok (.goto (-36), 3) := by decide +kernel
theorem dX9_rooms_61 : decode cX9_rooms 61 = .ok (.aload_n 0, 1) := by decide +kernel
theorem dX9_rooms_62 : decode cX9_rooms 62 = .ok (.getfield 25, 3) := by decide +kernel
theorem dX9_rooms_65 : decode cX9_rooms 65 = .ok (.iload_n 1, 1) := by decide +kernel
theorem dX9_rooms_66 : decode cX9_rooms 66 = .ok (.iload_n 2, 1) := by decide +kernel
theorem dX9_rooms_67 : decode cX9_rooms 67 = .ok (.iastore, 1) := by decide +kernel
theorem dX9_rooms_68 : decode cX9_rooms 68 = .ok (.iload_n 3, 1) := by decide +kernel
theorem dX9_rooms_69 : decode cX9_rooms 69 = .ok (.ireturn, 1) := by decide +kernel
theorem dX9_kinds_0 : decode cX9_kinds 0 = .ok (.aload_n 0, 1) := by decide +kernel
theorem dX9_kinds_1 : decode cX9_kinds 1 = .ok (.iload_n 1, 1) := by decide +kernel
theorem dX9_kinds_2 : decode cX9_kinds 2 = .ok (.invokevirtual 120, 3) := by decide +kernel
theorem dX9_kinds_5 : decode cX9_kinds 5 = .ok (.ifCond .ne 5, 3) := by decide +kernel
theorem dX9_kinds_8 : decode cX9_kinds 8 = .ok (.iconst (-1), 1) := by decide +kernel
theorem dX9_kinds_9 : decode cX9_kinds 9 = .ok (.ireturn, 1) := by decide +kernel
theorem dX9_kinds_10 : decode cX9_kinds 10 = .ok (.aload_n 0, 1) := by decide +kernel
theorem dX9_kinds_11 : decode cX9_kinds 11 = .ok (.getfield 19, 3) := by decide +kernel
theorem dX9_kinds_14 : decode cX9_kinds 14 = .ok (.iload_n 1, 1) := by decide +kernel
theorem dX9_kinds_15 : decode cX9_kinds 15 = .ok (.iaload, 1) := by decide +kernel
theorem dX9_kinds_16 : decode cX9_kinds 16 = .ok (.istore_n 2, 1) := by decide +kernel
theorem dX9_kinds_17 : decode cX9_kinds 17 = .ok (.iconst 0, 1) := by decide +kernel
theorem dX9_kinds_18 : decode cX9_kinds 18 = .ok (.istore_n 3, 1) := by decide +kernel
theorem dX9_kinds_19 : decode cX9_kinds 19 = .ok (.iconst 0, 1) := by decide +kernel
theorem dX9_kinds_20 : decode cX9_kinds 20 = .ok (.istore 4, 2) := by decide +kernel
theorem dX9_kinds_22 : decode cX9_kinds 22 = .ok (.iload 4, 2) := by decide +kernel
theorem dX9_kinds_24 : decode cX9_kinds 24 = .ok (.iconst 3, 1) := by decide +kernel
theorem dX9_kinds_25 : decode cX9_kinds 25 = .ok (.if_icmp .ge 35, 3) := by decide +kernel
theorem dX9_kinds_28 : decode cX9_kinds 28 = .ok (.aload_n 0, 1) := by decide +kernel
theorem dX9_kinds_29 : decode cX9_kinds 29 = .ok (.getfield 19, 3) := by decide +kernel
theorem dX9_kinds_32 : decode cX9_kinds 32 = .ok (.iload_n 1, 1) := by decide +kernel
theorem dX9_kinds_33 : decode cX9_kinds 33 = .ok (.iload 4, 2) := by decide +kernel
theorem dX9_kinds_35 : decode cX9_kinds 35 = .ok (.iastore, 1) := by decide +kernel
theorem dX9_kinds_36 : decode cX9_kinds 36 = .ok (.iload_n 3, 1) := by decide +kernel
theorem dX9_kinds_37 : decode cX9_kinds 37 = .ok (.aload_n 0, 1) := by decide +kernel
theorem dX9_kinds_38 : decode cX9_kinds 38 = .ok (.invokevirtual 180, 3) := by decide +kernel
theorem dX9_kinds_41 : decode cX9_kinds 41 = .ok (.ifCond .eq 10, 3) := by decide +kernel
theorem dX9_kinds_44 : decode cX9_kinds 44 = .ok (.iconst 1, 1) := by decide +kernel
theorem dX9_kinds_45 : decode cX9_kinds 45 = .ok (.iload 4, 2) := by decide +kernel
theorem dX9_kinds_47 : decode cX9_kinds 47 = .ok (.ishl, 1) := by decide +kernel
theorem dX9_kinds_48 : decode cX9_kinds 48 = .ok (.goto 4, 3) := by decide +kernel
theorem dX9_kinds_51 : decode cX9_kinds 51 = .ok (.iconst 0, 1) := by decide +kernel
theorem dX9_kinds_52 : decode cX9_kinds 52 = .ok (.ior, 1) := by decide +kernel
theorem dX9_kinds_53 : decode cX9_kinds 53 = .ok (.istore_n 3, 1) := by decide +kernel
theorem dX9_kinds_54 : decode cX9_kinds 54 = .ok (.iinc 4 1, 3) := by decide +kernel
theorem dX9_kinds_57 : decode cX9_kinds 57 = .ok (.goto (-35), 3) := by decide +kernel
theorem dX9_kinds_60 : decode cX9_kinds 60 = .ok (.aload_n 0, 1) := by decide +kernel
theorem dX9_kinds_61 : decode cX9_kinds 61 = .ok (.getfield 19, 3) := by decide +kernel
theorem dX9_kinds_64 : decode cX9_kinds 64 = .ok (.iload_n 1, 1) := by decide +kernel
theorem dX9_kinds_65 : decode cX9_kinds 65 = .ok (.iload_n 2, 1) := by decide +kernel
theorem dX9_kinds_66 : decode cX9_kinds 66 = .ok (.iastore, 1) := by decide +kernel
theorem dX9_kinds_67 : decode cX9_kinds 67 = .ok (.iload_n 3, 1) := by decide +kernel
theorem dX9_kinds_68 : decode cX9_kinds 68 = .ok (.ireturn, 1) := by decide +kernel
theorem dX9_inLeastTerms_0 : decode cX9_inLeastTerms 0 = .ok (.lload_n 0, 1) := by decide +kernel
theorem dX9_inLeastTerms_1 : decode cX9_inLeastTerms 1 = .ok (.lstore 5, 2) := by decide +kernel
theorem dX9_inLeastTerms_3 : decode cX9_inLeastTerms 3 = .ok (.lload_n 2, 1) := by decide +kernel
theorem dX9_inLeastTerms_4 : decode cX9_inLeastTerms 4 = .ok (.lstore 7, 2) := by decide +kernel
theorem dX9_inLeastTerms_6 : decode cX9_inLeastTerms 6 = .ok (.lload 7, 2) := by decide +kernel
theorem dX9_inLeastTerms_8 : decode cX9_inLeastTerms 8 = .ok (.lconst 0, 1) := by decide +kernel
theorem dX9_inLeastTerms_9 : decode cX9_inLeastTerms 9 = .ok (.lcmp, 1) := by decide +kernel
theorem dX9_inLeastTerms_10 : decode cX9_inLeastTerms 10 = .ok (.ifCond .eq 21, 3) := by decide +kernel
theorem dX9_inLeastTerms_13 : decode cX9_inLeastTerms 13 = .ok (.lload 5, 2) := by decide +kernel
theorem dX9_inLeastTerms_15 : decode cX9_inLeastTerms 15 = .ok (.lload 7, 2) := by decide +kernel
theorem dX9_inLeastTerms_17 : decode cX9_inLeastTerms 17 = .ok (.lrem, 1) := by decide +kernel
theorem dX9_inLeastTerms_18 : decode cX9_inLeastTerms 18 = .ok (.lstore 9, 2) := by decide +kernel
theorem dX9_inLeastTerms_20 : decode cX9_inLeastTerms 20 = .ok (.lload 7, 2) := by decide +kernel
theorem dX9_inLeastTerms_22 : decode cX9_inLeastTerms 22 = .ok (.lstore 5, 2) := by decide +kernel
theorem dX9_inLeastTerms_24 : decode cX9_inLeastTerms 24 = .ok (.lload 9, 2) := by decide +kernel
theorem dX9_inLeastTerms_26 : decode cX9_inLeastTerms 26 = .ok (.lstore 7, 2) := by decide +kernel
theorem dX9_inLeastTerms_28 : decode cX9_inLeastTerms 28 = .ok (.goto (-22), 3) := by decide +kernel
theorem dX9_inLeastTerms_31 : decode cX9_inLeastTerms 31 = .ok (.iload 4, 2) := by decide +kernel
theorem dX9_inLeastTerms_33 : decode cX9_inLeastTerms 33 = .ok (.ifCond .ne 10, 3) := by decide +kernel
theorem dX9_inLeastTerms_36 : decode cX9_inLeastTerms 36 = .ok (.lload_n 0, 1) := by decide +kernel
theorem dX9_inLeastTerms_37 : decode cX9_inLeastTerms 37 = .ok (.lload 5, 2) := by decide +kernel
theorem dX9_inLeastTerms_39 : decode cX9_inLeastTerms 39 = .ok (.ldiv, 1) := by decide +kernel
theorem dX9_inLeastTerms_40 : decode cX9_inLeastTerms 40 = .ok (.goto 7, 3) := by decide +kernel
theorem dX9_inLeastTerms_43 : decode cX9_inLeastTerms 43 = .ok (.lload_n 2, 1) := by decide +kernel
theorem dX9_inLeastTerms_44 : decode cX9_inLeastTerms 44 = .ok (.lload 5, 2) := by decide +kernel
theorem dX9_inLeastTerms_46 : decode cX9_inLeastTerms 46 = .ok (.ldiv, 1) := by decide +kernel
theorem dX9_inLeastTerms_47 : decode cX9_inLeastTerms 47 = .ok (.lreturn, 1) := by decide +kernel
theorem dX9_odds_0 : decode cX9_odds 0 = .ok (.aload_n 0, 1) := by decide +kernel
theorem dX9_odds_1 : decode cX9_odds 1 = .ok (.iload_n 1, 1) := by decide +kernel
theorem dX9_odds_2 : decode cX9_odds 2 = .ok (.invokevirtual 120, 3) := by decide +kernel
theorem dX9_odds_5 : decode cX9_odds 5 = .ok (.ifCond .eq 12, 3) := by decide +kernel
theorem dX9_odds_8 : decode cX9_odds 8 = .ok (.iload_n 2, 1) := by decide +kernel
theorem dX9_odds_9 : decode cX9_odds 9 = .ok (.iconst 0, 1) := by decide +kernel
theorem dX9_odds_10 : decode cX9_odds 10 = .ok (.iconst 1, 1) := by decide +kernel
theorem dX9_odds_11 : decode cX9_odds 11 = .ok (.invokestatic 58, 3) := by decide +kernel
theorem dX9_odds_14 : decode cX9_odds 14 = .ok (.ifCond .ne 7, 3) := by decide +kernel
theorem dX9_odds_17 : decode cX9_odds 17 = .ok (.ldc2_w 56, 3) := by decide +kernel
theorem dX9_odds_20 : decode cX9_odds 20 = .ok (.lreturn, 1) := by decide +kernel
theorem dX9_odds_21 : decode cX9_odds 21 = .ok (.iconst 0, 1) := by decide +kernel
theorem dX9_odds_22 : decode cX9_odds 22 = .ok (.istore_n 3, 1) := by decide +kernel
theorem dX9_odds_23 : decode cX9_odds 23 = .ok (.iconst 1, 1) := by decide +kernel
theorem dX9_odds_24 : decode cX9_odds 24 = .ok (.istore 4, 2) := by decide +kernel
theorem dX9_odds_26 : decode cX9_odds 26 = .ok (.iload 4, 2) := by decide +kernel
theorem dX9_odds_28 : decode cX9_odds 28 = .ok (.iconst 1, 1) := by decide +kernel
theorem dX9_odds_29 : decode cX9_odds 29 = .ok (.aload_n 0, 1) := by decide +kernel
theorem dX9_odds_30 : decode cX9_odds 30 = .ok (.getfield 62, 3) := by decide +kernel
theorem dX9_odds_33 : decode cX9_odds 33 = .ok (.ishl, 1) := by decide +kernel
theorem dX9_odds_34 : decode cX9_odds 34 = .ok (.if_icmp .ge 27, 3) := by decide +kernel
theorem dX9_odds_37 : decode cX9_odds 37 = .ok (.iload_n 3, 1) := by decide +kernel
theorem dX9_odds_38 : decode cX9_odds 38 = .ok (.aload_n 0, 1) := by decide +kernel
theorem dX9_odds_39 : decode cX9_odds 39 = .ok (.iload 4, 2) := by decide +kernel
theorem dX9_odds_41 : decode cX9_odds 41 = .ok (.invokevirtual 145, 3) := by decide +kernel
theorem dX9_odds_44 : decode cX9_odds 44 = .ok (.iload_n 1, 1) := by decide +kernel
theorem dX9_odds_45 : decode cX9_odds 45 = .ok (.if_icmp .ne 7, 3) := by decide +kernel
theorem dX9_odds_48 : decode cX9_odds 48 = .ok (.iconst 1, 1) := by decide +kernel
theorem dX9_odds_49 : decode cX9_odds 49 = .ok (.goto 4, 3) := by decide +kernel
theorem dX9_odds_52 : decode cX9_odds 52 = .ok (.iconst 0, 1) := by decide +kernel
theorem dX9_odds_53 : decode cX9_odds 53 = .ok (.iadd, 1) := by decide +kernel
theorem dX9_odds_54 : decode cX9_odds 54 = .ok (.istore_n 3, 1) := by decide +kernel
theorem dX9_odds_55 : decode cX9_odds 55 = .ok (.iinc 4 1, 3) := by decide +kernel
theorem dX9_odds_58 : decode cX9_odds 58 = .ok (.goto (-32), 3) := by decide +kernel
theorem dX9_odds_61 : decode cX9_odds 61 = .ok (.iload_n 3, 1) := by decide +kernel
theorem dX9_odds_62 : decode cX9_odds 62 = .ok (.i2l, 1) := by decide +kernel
theorem dX9_odds_63 : decode cX9_odds 63 = .ok (.lconst 1, 1) := by decide +kernel
theorem dX9_odds_64 : decode cX9_odds 64 = .ok (.aload_n 0, 1) := by decide +kernel
theorem dX9_odds_65 : decode cX9_odds 65 = .ok (.getfield 62, 3) := by decide +kernel
theorem dX9_odds_68 : decode cX9_odds 68 = .ok (.lshl, 1) := by decide +kernel
theorem dX9_odds_69 : decode cX9_odds 69 = .ok (.iload_n 2, 1) := by decide +kernel
theorem dX9_odds_70 : decode cX9_odds 70 = .ok (.invokestatic 184, 3) := by decide +kernel
theorem dX9_odds_73 : decode cX9_odds 73 = .ok (.lreturn, 1) := by decide +kernel
theorem dX9_sheet_0 : decode cX9_sheet 0 = .ok (.aload_n 0, 1) := by decide +kernel
theorem dX9_sheet_1 : decode cX9_sheet 1 = .ok (.iconst 0, 1) := by decide +kernel
theorem dX9_sheet_2 : decode cX9_sheet 2 = .ok (.putfield 52, 3) := by decide +kernel
theorem dX9_sheet_5 : decode cX9_sheet 5 = .ok (.iload_n 1, 1) := by decide +kernel
theorem dX9_sheet_6 : decode cX9_sheet 6 = .ok (.invokestatic 68, 3) := by decide +kernel
theorem dX9_sheet_9 : decode cX9_sheet 9 = .ok (.ifCond .ne 5, 3) := by decide +kernel
theorem dX9_sheet_12 : decode cX9_sheet 12 = .ok (.iconst (-1), 1) := by decide +kernel
theorem dX9_sheet_13 : decode cX9_sheet 13 = .ok (.ireturn, 1) := by decide +kernel
theorem dX9_sheet_14 : decode cX9_sheet 14 = .ok (.iload_n 2, 1) := by decide +kernel
theorem dX9_sheet_15 : decode cX9_sheet 15 = .ok (.invokestatic 72, 3) := by decide +kernel
theorem dX9_sheet_18 : decode cX9_sheet 18 = .ok (.ifCond .eq 9, 3) := by decide +kernel
theorem dX9_sheet_21 : decode cX9_sheet 21 = .ok (.iload_n 3, 1) := by decide +kernel
theorem dX9_sheet_22 : decode cX9_sheet 22 = .ok (.bipush 60, 2) := by decide +kernel
theorem dX9_sheet_24 : decode cX9_sheet 24 = .ok (.if_icmp .le 6, 3) := by decide +kernel
theorem dX9_sheet_27 : decode cX9_sheet 27 = .ok (.bipush (-2), 2) := by decide +kernel
theorem dX9_sheet_29 : decode cX9_sheet 29 = .ok (.ireturn, 1) := by decide +kernel
theorem dX9_sheet_30 : decode cX9_sheet 30 = .ok (.iload_n 3, 1) := by decide +kernel
theorem dX9_sheet_31 : decode cX9_sheet 31 = .ok (.ifCond .ge 9, 3) := by decide +kernel
theorem dX9_sheet_34 : decode cX9_sheet 34 = .ok (.aload_n 0, 1) := by decide +kernel
theorem dX9_sheet_35 : decode cX9_sheet 35 = .ok (.iconst 4, 1) := by decide +kernel
theorem dX9_sheet_36 : decode cX9_sheet 36 = .ok (.invokevirtual 79, 3) := by decide +kernel
theorem dX9_sheet_39 : decode cX9_sheet 39 = .ok (.ireturn, 1) := by decide +kernel
theorem dX9_sheet_40 : decode cX9_sheet 40 = .ok (.aload_n 0, 1) := by decide +kernel
theorem dX9_sheet_41 : decode cX9_sheet 41 = .ok (.getfield 9, 3) := by decide +kernel
theorem dX9_sheet_44 : decode cX9_sheet 44 = .ok (.iload_n 1, 1) := by decide +kernel
theorem dX9_sheet_45 : decode cX9_sheet 45 = .ok (.iload_n 2, 1) := by decide +kernel
theorem dX9_sheet_46 : decode cX9_sheet 46 = .ok (.iastore, 1) := by decide +kernel
theorem dX9_sheet_47 : decode cX9_sheet 47 = .ok (.aload_n 0, 1) := by decide +kernel
theorem dX9_sheet_48 : decode cX9_sheet 48 = .ok (.getfield 13, 3) := by decide +kernel
theorem dX9_sheet_51 : decode cX9_sheet 51 = .ok (.iload_n 1, 1) := by decide +kernel
theorem dX9_sheet_52 : decode cX9_sheet 52 = .ok (.iload_n 3, 1) := by decide +kernel
theorem dX9_sheet_53 : decode cX9_sheet 53 = .ok (.iastore, 1) := by decide +kernel
theorem dX9_sheet_54 : decode cX9_sheet 54 = .ok (.iconst 0, 1) := by decide +kernel
theorem dX9_sheet_55 : decode cX9_sheet 55 = .ok (.istore 4, 2) := by decide +kernel
theorem dX9_sheet_57 : decode cX9_sheet 57 = .ok (.iload 4, 2) := by decide +kernel
theorem dX9_sheet_59 : decode cX9_sheet 59 = .ok (.bipush 60, 2) := by decide +kernel
theorem dX9_sheet_61 : decode cX9_sheet 61 = .ok (.if_icmp .ge 22, 3) := by decide +kernel
theorem dX9_sheet_64 : decode cX9_sheet 64 = .ok (.aload_n 0, 1) := by decide +kernel
theorem dX9_sheet_65 : decode cX9_sheet 65 = .ok (.getfield 16, 3) := by decide +kernel
theorem dX9_sheet_68 : decode cX9_sheet 68 = .ok (.bipush 60, 2) := by decide +kernel
theorem dX9_sheet_70 : decode cX9_sheet 70 = .ok (.iload_n 1, 1) := by decide +kernel
theorem dX9_sheet_71 : decode cX9_sheet 71 = .ok (.imul, 1) := by decide +kernel
theorem dX9_sheet_72 : decode cX9_sheet 72 = .ok (.iload 4, 2) := by decide +kernel
theorem dX9_sheet_74 : decode cX9_sheet 74 = .ok (.iadd, 1) := by decide +kernel
theorem dX9_sheet_75 : decode cX9_sheet 75 = .ok (.iconst 0, 1) := by decide +kernel
theorem dX9_sheet_76 : decode cX9_sheet 76 = .ok (.iastore, 1) := by decide +kernel
theorem dX9_sheet_77 : decode cX9_sheet 77 = .ok (.iinc 4 1, 3) := by decide +kernel
theorem dX9_sheet_80 : decode cX9_sheet 80 = .ok (.goto (-23), 3) := by decide +kernel
theorem dX9_sheet_83 : decode cX9_sheet 83 = .ok (.iconst 1, 1) := by decide +kernel
theorem dX9_sheet_84 : decode cX9_sheet 84 = .ok (.ireturn, 1) := by decide +kernel
theorem dX9_lose_0 : decode cX9_lose 0 = .ok (.iload_n 1, 1) := by decide +kernel
theorem dX9_lose_1 : decode cX9_lose 1 = .ok (.invokestatic 68, 3) := by decide +kernel
theorem dX9_lose_4 : decode cX9_lose 4 = .ok (.ifCond .ne 5, 3) := by decide +kernel
theorem dX9_lose_7 : decode cX9_lose 7 = .ok (.iconst (-1), 1) := by decide +kernel
theorem dX9_lose_8 : decode cX9_lose 8 = .ok (.ireturn, 1) := by decide +kernel
theorem dX9_lose_9 : decode cX9_lose 9 = .ok (.aload_n 0, 1) := by decide +kernel
theorem dX9_lose_10 : decode cX9_lose 10 = .ok (.getfield 9, 3) := by decide +kernel
theorem dX9_lose_13 : decode cX9_lose 13 = .ok (.iload_n 1, 1) := by decide +kernel
theorem dX9_lose_14 : decode cX9_lose 14 = .ok (.iaload, 1) := by decide +kernel
theorem dX9_lose_15 : decode cX9_lose 15 = .ok (.bipush (-9), 2) := by decide +kernel
theorem dX9_lose_17 : decode cX9_lose 17 = .ok (.if_icmp .ne 7, 3) := by decide +kernel
theorem dX9_lose_20 : decode cX9_lose 20 = .ok (.iconst 0, 1) := by decide +kernel
theorem dX9_lose_21 : decode cX9_lose 21 = .ok (.goto 4, 3) := by decide +kernel
theorem dX9_lose_24 : decode cX9_lose 24 = .ok (.iconst 1, 1) := by decide +kernel
theorem dX9_lose_25 : decode cX9_lose 25 = .ok (.istore_n 2, 1) := by decide +kernel
theorem dX9_lose_26 : decode cX9_lose 26 = .ok (.aload_n 0, 1) := by decide +kernel
theorem dX9_lose_27 : decode cX9_lose 27 = .ok (.getfield 9, 3) := by decide +kernel
theorem dX9_lose_30 : decode cX9_lose 30 = .ok (.iload_n 1, 1) := by decide +kernel
theorem dX9_lose_31 : decode cX9_lose 31 = .ok (.bipush (-9), 2) := by decide +kernel
theorem dX9_lose_33 : decode cX9_lose 33 = .ok (.iastore, 1) := by decide +kernel
theorem dX9_lose_34 : decode cX9_lose 34 = .ok (.iload_n 2, 1) := by decide +kernel
theorem dX9_lose_35 : decode cX9_lose 35 = .ok (.ireturn, 1) := by decide +kernel
theorem dX9_put_0 : decode cX9_put 0 = .ok (.aload_n 0, 1) := by decide +kernel
theorem dX9_put_1 : decode cX9_put 1 = .ok (.iconst 0, 1) := by decide +kernel
theorem dX9_put_2 : decode cX9_put 2 = .ok (.putfield 52, 3) := by decide +kernel
theorem dX9_put_5 : decode cX9_put 5 = .ok (.iload_n 1, 1) := by decide +kernel
theorem dX9_put_6 : decode cX9_put 6 = .ok (.invokestatic 68, 3) := by decide +kernel
theorem dX9_put_9 : decode cX9_put 9 = .ok (.ifCond .ne 5, 3) := by decide +kernel
theorem dX9_put_12 : decode cX9_put 12 = .ok (.iconst (-1), 1) := by decide +kernel
theorem dX9_put_13 : decode cX9_put 13 = .ok (.ireturn, 1) := by decide +kernel
theorem dX9_put_14 : decode cX9_put 14 = .ok (.aload_n 0, 1) := by decide +kernel
theorem dX9_put_15 : decode cX9_put 15 = .ok (.getfield 9, 3) := by decide +kernel
theorem dX9_put_18 : decode cX9_put 18 = .ok (.iload_n 1, 1) := by decide +kernel
theorem dX9_put_19 : decode cX9_put 19 = .ok (.iaload, 1) := by decide +kernel
theorem dX9_put_20 : decode cX9_put 20 = .ok (.bipush (-9), 2) := by decide +kernel
theorem dX9_put_22 : decode cX9_put 22 = .ok (.if_icmp .ne 9, 3) := by decide +kernel
theorem dX9_put_25 : decode cX9_put 25 = .ok (.aload_n 0, 1) := by decide +kernel
theorem dX9_put_26 : decode cX9_put 26 = .ok (.iconst 1, 1) := by decide +kernel
theorem dX9_put_27 : decode cX9_put 27 = .ok (.invokevirtual 79, 3) := by decide +kernel
theorem dX9_put_30 : decode cX9_put 30 = .ok (.ireturn, 1) := by decide +kernel
theorem dX9_put_31 : decode cX9_put 31 = .ok (.iload_n 2, 1) := by decide +kernel
theorem dX9_put_32 : decode cX9_put 32 = .ok (.iconst 0, 1) := by decide +kernel
theorem dX9_put_33 : decode cX9_put 33 = .ok (.aload_n 0, 1) := by decide +kernel
theorem dX9_put_34 : decode cX9_put 34 = .ok (.getfield 13, 3) := by decide +kernel
theorem dX9_put_37 : decode cX9_put 37 = .ok (.iload_n 1, 1) := by decide +kernel
theorem dX9_put_38 : decode cX9_put 38 = .ok (.iaload, 1) := by decide +kernel
theorem dX9_put_39 : decode cX9_put 39 = .ok (.iconst 1, 1) := by decide +kernel
theorem dX9_put_40 : decode cX9_put 40 = .ok (.isub, 1) := by decide +kernel
theorem dX9_put_41 : decode cX9_put 41 = .ok (.invokestatic 58, 3) := by decide +kernel
theorem dX9_put_44 : decode cX9_put 44 = .ok (.ifCond .ne 9, 3) := by decide +kernel
theorem dX9_put_47 : decode cX9_put 47 = .ok (.aload_n 0, 1) := by decide +kernel
theorem dX9_put_48 : decode cX9_put 48 = .ok (.iconst 3, 1) := by decide +kernel
theorem dX9_put_49 : decode cX9_put 49 = .ok (.invokevirtual 79, 3) := by decide +kernel
theorem dX9_put_52 : decode cX9_put 52 = .ok (.ireturn, 1) := by decide +kernel
theorem dX9_put_53 : decode cX9_put 53 = .ok (.aload_n 0, 1) := by decide +kernel
theorem dX9_put_54 : decode cX9_put 54 = .ok (.getfield 16, 3) := by decide +kernel
theorem dX9_put_57 : decode cX9_put 57 = .ok (.bipush 60, 2) := by decide +kernel
theorem dX9_put_59 : decode cX9_put 59 = .ok (.iload_n 1, 1) := by decide +kernel
theorem dX9_put_60 : decode cX9_put 60 = .ok (.imul, 1) := by decide +kernel
theorem dX9_put_61 : decode cX9_put 61 = .ok (.iload_n 2, 1) := by decide +kernel
theorem dX9_put_62 : decode cX9_put 62 = .ok (.iadd, 1) := by decide +kernel
theorem dX9_put_63 : decode cX9_put 63 = .ok (.aload_n 0, 1) := by decide +kernel
theorem dX9_put_64 : decode cX9_put 64 = .ok (.getfield 9, 3) := by decide +kernel
theorem dX9_put_67 : decode cX9_put 67 = .ok (.iload_n 1, 1) := by decide +kernel
theorem dX9_put_68 : decode cX9_put 68 = .ok (.iaload, 1) := by decide +kernel
theorem dX9_put_69 : decode cX9_put 69 = .ok (.ifCond .ne 8, 3) := by decide +kernel
theorem dX9_put_72 : decode cX9_put 72 = .ok (.iload_n 3, 1) := by decide +kernel
theorem dX9_put_73 : decode cX9_put 73 = .ok (.i2b, 1) := by decide +kernel
theorem dX9_put_74 : decode cX9_put 74 = .ok (.goto 19, 3) := by decide +kernel
theorem dX9_put_77 : decode cX9_put 77 = .ok (.aload_n 0, 1) := by decide +kernel
theorem dX9_put_78 : decode cX9_put 78 = .ok (.getfield 9, 3) := by decide +kernel
theorem dX9_put_81 : decode cX9_put 81 = .ok (.iload_n 1, 1) := by decide +kernel
theorem dX9_put_82 : decode cX9_put 82 = .ok (.iaload, 1) := by decide +kernel
theorem dX9_put_83 : decode cX9_put 83 = .ok (.iconst 1, 1) := by decide +kernel
theorem dX9_put_84 : decode cX9_put 84 = .ok (.if_icmp .ne 8, 3) := by decide +kernel
theorem dX9_put_87 : decode cX9_put 87 = .ok (.iload_n 3, 1) := by decide +kernel
theorem dX9_put_88 : decode cX9_put 88 = .ok (.i2s, 1) := by decide +kernel
theorem dX9_put_89 : decode cX9_put 89 = .ok (.goto 4, 3) := by decide +kernel
theorem dX9_put_92 : decode cX9_put 92 = .ok (.iload_n 3, 1) := by decide +kernel
theorem dX9_put_93 : decode cX9_put 93 = .ok (.iastore, 1) := by decide +kernel
theorem dX9_put_94 : decode cX9_put 94 = .ok (.iconst 1, 1) := by decide +kernel
theorem dX9_put_95 : decode cX9_put 95 = .ok (.ireturn, 1) := by decide +kernel
theorem dX9_cell_0 : decode cX9_cell 0 = .ok (.aload_n 0, 1) := by decide +kernel
theorem dX9_cell_1 : decode cX9_cell 1 = .ok (.iconst 0, 1) := by decide +kernel
theorem dX9_cell_2 : decode cX9_cell 2 = .ok (.putfield 52, 3) := by decide +kernel
theorem dX9_cell_5 : decode cX9_cell 5 = .ok (.iload_n 1, 1) := by decide +kernel
theorem dX9_cell_6 : decode cX9_cell 6 = .ok (.invokestatic 68, 3) := by decide +kernel
theorem dX9_cell_9 : decode cX9_cell 9 = .ok (.ifCond .eq 10, 3) := by decide +kernel
theorem dX9_cell_12 : decode cX9_cell 12 = .ok (.iload_n 3, 1) := by decide +kernel
theorem dX9_cell_13 : decode cX9_cell 13 = .ok (.invokestatic 72, 3) := by decide +kernel
theorem dX9_cell_16 : decode cX9_cell 16 = .ok (.ifCond .ne 7, 3) := by decide +kernel
theorem dX9_cell_19 : decode cX9_cell 19 = .ok (.ldc2_w 56, 3) := by decide +kernel
theorem dX9_cell_22 : decode cX9_cell 22 = .ok (.lreturn, 1) := by decide +kernel
theorem dX9_cell_23 : decode cX9_cell 23 = .ok (.aload_n 0, 1) := by decide +kernel
theorem dX9_cell_24 : decode cX9_cell 24 = .ok (.getfield 9, 3) := by decide +kernel
theorem dX9_cell_27 : decode cX9_cell 27 = .ok (.iload_n 1, 1) := by decide +kernel
theorem dX9_cell_28 : decode cX9_cell 28 = .ok (.iaload, 1) := by decide +kernel
theorem dX9_cell_29 : decode cX9_cell 29 = .ok (.bipush (-9), 2) := by decide +kernel
theorem dX9_cell_31 : decode cX9_cell 31 = .ok (.if_icmp .eq 19, 3) := by decide +kernel
theorem dX9_cell_34 : decode cX9_cell 34 = .ok (.aload_n 0, 1) := by decide +kernel
theorem dX9_cell_35 : decode cX9_cell 35 = .ok (.getfield 9, 3) := by decide +kernel
theorem dX9_cell_38 : decode cX9_cell 38 = .ok (.iload_n 1, 1) := by decide +kernel
theorem dX9_cell_39 : decode cX9_cell 39 = .ok (.iaload, 1) := by decide +kernel
theorem dX9_cell_40 : decode cX9_cell 40 = .ok (.iload_n 3, 1) := by decide +kernel
theorem dX9_cell_41 : decode cX9_cell 41 = .ok (.if_icmp .eq 9, 3) := by decide +kernel
theorem dX9_cell_44 : decode cX9_cell 44 = .ok (.aload_n 0, 1) := by decide +kernel
theorem dX9_cell_45 : decode cX9_cell 45 = .ok (.iconst 2, 1) := by decide +kernel
theorem dX9_cell_46 : decode cX9_cell 46 = .ok (.invokevirtual 188, 3) := by decide +kernel
theorem dX9_cell_49 : decode cX9_cell 49 = .ok (.lreturn, 1) := by decide +kernel
theorem dX9_cell_50 : decode cX9_cell 50 = .ok (.aload_n 0, 1) := by decide +kernel
theorem dX9_cell_51 : decode cX9_cell 51 = .ok (.getfield 9, 3) := by decide +kernel
theorem dX9_cell_54 : decode cX9_cell 54 = .ok (.iload_n 1, 1) := by decide +kernel
theorem dX9_cell_55 : decode cX9_cell 55 = .ok (.iaload, 1) := by decide +kernel
theorem dX9_cell_56 : decode cX9_cell 56 = .ok (.bipush (-9), 2) := by decide +kernel
theorem dX9_cell_58 : decode cX9_cell 58 = .ok (.if_icmp .ne 9, 3) := by decide +kernel
theorem dX9_cell_61 : decode cX9_cell 61 = .ok (.aload_n 0, 1) := by decide +kernel
theorem dX9_cell_62 : decode cX9_cell 62 = .ok (.iconst 1, 1) := by decide +kernel
theorem dX9_cell_63 : decode cX9_cell 63 = .ok (.invokevirtual 188, 3) := by decide +kernel
theorem dX9_cell_66 : decode cX9_cell 66 = .ok (.lreturn, 1) := by decide +kernel
theorem dX9_cell_67 : decode cX9_cell 67 = .ok (.iload_n 2, 1) := by decide +kernel
theorem dX9_cell_68 : decode cX9_cell 68 = .ok (.iconst 0, 1) := by decide +kernel
theorem dX9_cell_69 : decode cX9_cell 69 = .ok (.aload_n 0, 1) := by decide +kernel
theorem dX9_cell_70 : decode cX9_cell 70 = .ok (.getfield 13, 3) := by decide +kernel
theorem dX9_cell_73 : decode cX9_cell 73 = .ok (.iload_n 1, 1) := by decide +kernel
theorem dX9_cell_74 : decode cX9_cell 74 = .ok (.iaload, 1) := by decide +kernel
theorem dX9_cell_75 : decode cX9_cell 75 = .ok (.iconst 1, 1) := by decide +kernel
theorem dX9_cell_76 : decode cX9_cell 76 = .ok (.isub, 1) := by decide +kernel
theorem dX9_cell_77 : decode cX9_cell 77 = .ok (.invokestatic 58, 3) := by decide +kernel
theorem dX9_cell_80 : decode cX9_cell 80 = .ok (.ifCond .ne 9, 3) := by decide +kernel
theorem dX9_cell_83 : decode cX9_cell 83 = .ok (.aload_n 0, 1) := by decide +kernel
theorem dX9_cell_84 : decode cX9_cell 84 = .ok (.iconst 3, 1) := by decide +kernel
theorem dX9_cell_85 : decode cX9_cell 85 = .ok (.invokevirtual 188, 3) := by decide +kernel
theorem dX9_cell_88 : decode cX9_cell 88 = .ok (.lreturn, 1) := by decide +kernel
theorem dX9_cell_89 : decode cX9_cell 89 = .ok (.aload_n 0, 1) := by decide +kernel
theorem dX9_cell_90 : decode cX9_cell 90 = .ok (.getfield 16, 3) := by decide +kernel
theorem dX9_cell_93 : decode cX9_cell 93 = .ok (.bipush 60, 2) := by decide +kernel
theorem dX9_cell_95 : decode cX9_cell 95 = .ok (.iload_n 1, 1) := by decide +kernel
theorem dX9_cell_96 : decode cX9_cell 96 = .ok (.imul, 1) := by decide +kernel
theorem dX9_cell_97 : decode cX9_cell 97 = .ok (.iload_n 2, 1) := by decide +kernel
theorem dX9_cell_98 : decode cX9_cell 98 = .ok (.iadd, 1) := by decide +kernel
theorem dX9_cell_99 : decode cX9_cell 99 = .ok (.iaload, 1) := by decide +kernel
theorem dX9_cell_100 : decode cX9_cell 100 = .ok (.i2l, 1) := by decide +kernel
theorem dX9_cell_101 : decode cX9_cell 101 = .ok (.lreturn, 1) := by decide +kernel
theorem dX9_copy_0 : decode cX9_copy 0 = .ok (.aload_n 0, 1) := by decide +kernel
theorem dX9_copy_1 : decode cX9_copy 1 = .ok (.iconst 0, 1) := by decide +kernel
theorem dX9_copy_2 : decode cX9_copy 2 = .ok (.putfield 52, 3) := by decide +kernel
theorem dX9_copy_5 : decode cX9_copy 5 = .ok (.iload_n 1, 1) := by decide +kernel
theorem dX9_copy_6 : decode cX9_copy 6 = .ok (.invokestatic 68, 3) := by decide +kernel
theorem dX9_copy_9 : decode cX9_copy 9 = .ok (.ifCond .eq 10, 3) := by decide +kernel
theorem dX9_copy_12 : decode cX9_copy 12 = .ok (.iload_n 3, 1) := by decide +kernel
theorem dX9_copy_13 : decode cX9_copy 13 = .ok (.invokestatic 68, 3) := by decide +kernel
theorem dX9_copy_16 : decode cX9_copy 16 = .ok (.ifCond .ne 5, 3) := by decide +kernel
theorem dX9_copy_19 : decode cX9_copy 19 = .ok (.iconst (-1), 1) := by decide +kernel
theorem dX9_copy_20 : decode cX9_copy 20 = .ok (.ireturn, 1) := by decide +kernel
theorem dX9_copy_21 : decode cX9_copy 21 = .ok (.aload_n 0, 1) := by decide +kernel
theorem dX9_copy_22 : decode cX9_copy 22 = .ok (.getfield 9, 3) := by decide +kernel
theorem dX9_copy_25 : decode cX9_copy 25 = .ok (.iload_n 1, 1) := by decide +kernel
theorem dX9_copy_26 : decode cX9_copy 26 = .ok (.iaload, 1) := by decide +kernel
theorem dX9_copy_27 : decode cX9_copy 27 = .ok (.bipush (-9), 2) := by decide +kernel
theorem dX9_copy_29 : decode cX9_copy 29 = .ok (.if_icmp .eq 14, 3) := by decide +kernel
theorem dX9_copy_32 : decode cX9_copy 32 = .ok (.aload_n 0, 1) := by decide +kernel
theorem dX9_copy_33 : decode cX9_copy 33 = .ok (.getfield 9, 3) := by decide +kernel
theorem dX9_copy_36 : decode cX9_copy 36 = .ok (.iload_n 3, 1) := by decide +kernel
theorem dX9_copy_37 : decode cX9_copy 37 = .ok (.iaload, 1) := by decide +kernel
theorem dX9_copy_38 : decode cX9_copy 38 = .ok (.bipush (-9), 2) := by decide +kernel
theorem dX9_copy_40 : decode cX9_copy 40 = .ok (.if_icmp .ne 9, 3) := by decide +kernel
theorem dX9_copy_43 : decode cX9_copy 43 = .ok (.aload_n 0, 1) := by decide +kernel
theorem dX9_copy_44 : decode cX9_copy 44 = .ok (.iconst 1, 1) := by decide +kernel
theorem dX9_copy_45 : decode cX9_copy 45 = .ok (.invokevirtual 79, 3) := by decide +kernel
theorem dX9_copy_48 : decode cX9_copy 48 = .ok (.ireturn, 1) := by decide +kernel
theorem dX9_copy_49 : decode cX9_copy 49 = .ok (.aload_n 0, 1) := by decide +kernel
theorem dX9_copy_50 : decode cX9_copy 50 = .ok (.getfield 9, 3) := by decide +kernel
theorem dX9_copy_53 : decode cX9_copy 53 = .ok (.iload_n 1, 1) := by decide +kernel
theorem dX9_copy_54 : decode cX9_copy 54 = .ok (.iaload, 1) := by decide +kernel
theorem dX9_copy_55 : decode cX9_copy 55 = .ok (.aload_n 0, 1) := by decide +kernel
theorem dX9_copy_56 : decode cX9_copy 56 = .ok (.getfield 9, 3) := by decide +kernel
theorem dX9_copy_59 : decode cX9_copy 59 = .ok (.iload_n 3, 1) := by decide +kernel
theorem dX9_copy_60 : decode cX9_copy 60 = .ok (.iaload, 1) := by decide +kernel
theorem dX9_copy_61 : decode cX9_copy 61 = .ok (.if_icmp .eq 9, 3) := by decide +kernel
theorem dX9_copy_64 : decode cX9_copy 64 = .ok (.aload_n 0, 1) := by decide +kernel
theorem dX9_copy_65 : decode cX9_copy 65 = .ok (.iconst 2, 1) := by decide +kernel
theorem dX9_copy_66 : decode cX9_copy 66 = .ok (.invokevirtual 79, 3) := by decide +kernel
theorem dX9_copy_69 : decode cX9_copy 69 = .ok (.ireturn, 1) := by decide +kernel
theorem dX9_copy_70 : decode cX9_copy 70 = .ok (.iload_n 2, 1) := by decide +kernel
theorem dX9_copy_71 : decode cX9_copy 71 = .ok (.ifCond .lt 38, 3) := by decide +kernel
theorem dX9_copy_74 : decode cX9_copy 74 = .ok (.iload 4, 2) := by decide +kernel
theorem dX9_copy_76 : decode cX9_copy 76 = .ok (.ifCond .lt 33, 3) := by decide +kernel
theorem dX9_copy_79 : decode cX9_copy 79 = .ok (.iload 5, 2) := by decide +kernel
theorem dX9_copy_81 : decode cX9_copy 81 = .ok (.ifCond .lt 28, 3) := by decide +kernel
theorem dX9_copy_84 : decode cX9_copy 84 = .ok (.iload_n 2, 1) := by decide +kernel
theorem dX9_copy_85 : decode cX9_copy 85 = .ok (.aload_n 0, 1) := by decide +kernel
theorem dX9_copy_86 : decode cX9_copy 86 = .ok (.getfield 13, 3) := by decide +kernel
theorem dX9_copy_89 : decode cX9_copy 89 = .ok (.iload_n 1, 1) := by decide +kernel
theorem dX9_copy_90 : decode cX9_copy 90 = .ok (.iaload, 1) := by decide +kernel
theorem dX9_copy_91 : decode cX9_copy 91 = .ok (.if_icmp .gt 18, 3) := by decide +kernel
theorem dX9_copy_94 : decode cX9_copy 94 = .ok (.iload 4, 2) := by decide +kernel
theorem dX9_copy_96 : decode cX9_copy 96 = .ok (.aload_n 0, 1) := by decide +kernel
theorem dX9_copy_97 : decode cX9_copy 97 = .ok (.getfield 13, 3) := by decide +kernel
theorem dX9_copy_100 : decode cX9_copy 100 = .ok (.iload_n 3, 1) := by decide +kernel
theorem dX9_copy_101 : decode cX9_copy 101 = .ok (.iaload, 1) := by decide +kernel
theorem dX9_copy_102 : decode cX9_copy 102 = .ok (.if_icmp .gt 7, 3) := by decide +kernel
theorem dX9_copy_105 : decode cX9_copy 105 = .ok (.iconst 1, 1) := by decide +kernel
theorem dX9_copy_106 : decode cX9_copy 106 = .ok (.goto 4, 3) := by decide +kernel
theorem dX9_copy_109 : decode cX9_copy 109 = .ok (.iconst 0, 1) := by decide +kernel
theorem dX9_copy_110 : decode cX9_copy 110 = .ok (.istore 6, 2) := by decide +kernel
theorem dX9_copy_112 : decode cX9_copy 112 = .ok (.iload 6, 2) := by decide +kernel
theorem dX9_copy_114 : decode cX9_copy 114 = .ok (.ifCond .eq 30, 3) := by decide +kernel
theorem dX9_copy_117 : decode cX9_copy 117 = .ok (.iload 5, 2) := by decide +kernel
theorem dX9_copy_119 : decode cX9_copy 119 = .ok (.aload_n 0, 1) := by decide +kernel
theorem dX9_copy_120 : decode cX9_copy 120 = .ok (.getfield 13, 3) := by decide +kernel
theorem dX9_copy_123 : decode cX9_copy 123 = .ok (.iload_n 1, 1) := by decide +kernel
theorem dX9_copy_124 : decode cX9_copy 124 = .ok (.iaload, 1) := by decide +kernel
theorem dX9_copy_125 : decode cX9_copy 125 = .ok (.iload_n 2, 1) := by decide +kernel
theorem dX9_copy_126 : decode cX9_copy 126 = .ok (.isub, 1) := by decide +kernel
theorem dX9_copy_127 : decode cX9_copy 127 = .ok (.if_icmp .gt 17, 3) := by decide +kernel
theorem dX9_copy_130 : decode cX9_copy 130 = .ok (.iload 5, 2) := by decide +kernel
theorem dX9_copy_132 : decode cX9_copy 132 = .ok (.aload_n 0, 1) := by decide +kernel
theorem dX9_copy_133 : decode cX9_copy 133 = .ok (.getfield 13, 3) := by decide +kernel
theorem dX9_copy_136 : decode cX9_copy 136 = .ok (.iload_n 3, 1) := by decide +kernel
theorem dX9_copy_137 : decode cX9_copy 137 = .ok (.iaload, 1) := by decide +kernel
theorem dX9_copy_138 : decode cX9_copy 138 = .ok (.iload 4, 2) := by decide +kernel
theorem dX9_copy_140 : decode cX9_copy 140 = .ok (.isub, 1) := by decide +kernel
theorem dX9_copy_141 : decode cX9_copy 141 = .ok (.if_icmp .le 9, 3) := by decide +kernel
theorem dX9_copy_144 : decode cX9_copy 144 = .ok (.aload_n 0, 1) := by decide +kernel
theorem dX9_copy_145 : decode cX9_copy 145 = .ok (.iconst 3, 1) := by decide +kernel
theorem dX9_copy_146 : decode cX9_copy 146 = .ok (.invokevirtual 79, 3) := by decide +kernel
theorem dX9_copy_149 : decode cX9_copy 149 = .ok (.ireturn, 1) := by decide +kernel
theorem dX9_copy_150 : decode cX9_copy 150 = .ok (.iload_n 2, 1) := by decide +kernel
theorem dX9_copy_151 : decode cX9_copy 151 = .ok (.iload 4, 2) := by decide +kernel
theorem dX9_copy_153 : decode cX9_copy 153 = .ok (.if_icmp .ge 7, 3) := by decide +kernel
theorem dX9_copy_156 : decode cX9_copy 156 = .ok (.iconst 1, 1) := by decide +kernel
theorem dX9_copy_157 : decode cX9_copy 157 = .ok (.goto 4, 3) := by decide +kernel
theorem dX9_copy_160 : decode cX9_copy 160 = .ok (.iconst 0, 1) := by decide +kernel
theorem dX9_copy_161 : decode cX9_copy 161 = .ok (.istore 7, 2) := by decide +kernel
theorem dX9_copy_163 : decode cX9_copy 163 = .ok (.iconst 0, 1) := by decide +kernel
theorem dX9_copy_164 : decode cX9_copy 164 = .ok (.istore 8, 2) := by decide +kernel
theorem dX9_copy_166 : decode cX9_copy 166 = .ok (.iload 8, 2) := by decide +kernel
theorem dX9_copy_168 : decode cX9_copy 168 = .ok (.iload 5, 2) := by decide +kernel
theorem dX9_copy_170 : decode cX9_copy 170 = .ok (.if_icmp .ge 57, 3) := by decide +kernel
theorem dX9_copy_173 : decode cX9_copy 173 = .ok (.iload 7, 2) := by decide +kernel
theorem dX9_copy_175 : decode cX9_copy 175 = .ok (.ifCond .eq 13, 3) := by decide +kernel
theorem dX9_copy_178 : decode cX9_copy 178 = .ok (.iload 5, 2) := by decide +kernel
theorem dX9_copy_180 : decode cX9_copy 180 = .ok (.iconst 1, 1) := by decide +kernel
theorem dX9_copy_181 : decode cX9_copy 181 = .ok (.isub, 1) := by decide +kernel
theorem dX9_copy_182 : decode cX9_copy 182 = .ok (.iload 8, 2) := by decide +kernel
theorem dX9_copy_184 : decode cX9_copy 184 = .ok (.isub, 1) := by decide +kernel
theorem dX9_copy_185 : decode cX9_copy 185 = .ok (.goto 5, 3) := by decide +kernel
theorem dX9_copy_188 : decode cX9_copy 188 = .ok (.iload 8, 2) := by decide +kernel
theorem dX9_copy_190 : decode cX9_copy 190 = .ok (.istore 9, 2) := by decide +kernel
theorem dX9_copy_192 : decode cX9_copy 192 = .ok (.aload_n 0, 1) := by decide +kernel
theorem dX9_copy_193 : decode cX9_copy 193 = .ok (.getfield 16, 3) := by decide +kernel
theorem dX9_copy_196 : decode cX9_copy 196 = .ok (.bipush 60, 2) := by decide +kernel
theorem dX9_copy_198 : decode cX9_copy 198 = .ok (.iload_n 3, 1) := by decide +kernel
theorem dX9_copy_199 : decode cX9_copy 199 = .ok (.imul, 1) := by decide +kernel
theorem dX9_copy_200 : decode cX9_copy 200 = .ok (.iload 4, 2) := by decide +kernel
theorem dX9_copy_202 : decode cX9_copy 202 = .ok (.iadd, 1) := by decide +kernel
theorem dX9_copy_203 : decode cX9_copy 203 = .ok (.iload 9, 2) := by decide +kernel
theorem dX9_copy_205 : decode cX9_copy 205 = .ok (.iadd, 1) := by decide +kernel
theorem dX9_copy_206 : decode cX9_copy 206 = .ok (.aload_n 0, 1) := by decide +kernel
theorem dX9_copy_207 : decode cX9_copy 207 = .ok (.getfield 16, 3) := by decide +kernel
theorem dX9_copy_210 : decode cX9_copy 210 = .ok (.bipush 60, 2) := by decide +kernel
theorem dX9_copy_212 : decode cX9_copy 212 = .ok (.iload_n 1, 1) := by decide +kernel
theorem dX9_copy_213 : decode cX9_copy 213 = .ok (.imul, 1) := by decide +kernel
theorem dX9_copy_214 : decode cX9_copy 214 = .ok (.iload_n 2, 1) := by decide +kernel
theorem dX9_copy_215 : decode cX9_copy 215 = .ok (.iadd, 1) := by decide +kernel
theorem dX9_copy_216 : decode cX9_copy 216 = .ok (.iload 9, 2) := by decide +kernel
theorem dX9_copy_218 : decode cX9_copy 218 = .ok (.iadd, 1) := by decide +kernel
theorem dX9_copy_219 : decode cX9_copy 219 = .ok (.iaload, 1) := by decide +kernel
theorem dX9_copy_220 : decode cX9_copy 220 = .ok (.iastore, 1) := by decide +kernel
theorem dX9_copy_221 : decode cX9_copy 221 = .ok (.iinc 8 1, 3) := by decide +kernel
theorem dX9_copy_224 : decode cX9_copy 224 = .ok (.goto (-58), 3) := by decide +kernel
theorem dX9_copy_227 : decode cX9_copy 227 = .ok (.iload 5, 2) := by decide +kernel
theorem dX9_copy_229 : decode cX9_copy 229 = .ok (.ireturn, 1) := by decide +kernel
theorem dX9_begins_0 : decode cX9_begins 0 = .ok (.aload_n 0, 1) := by decide +kernel
theorem dX9_begins_1 : decode cX9_begins 1 = .ok (.bipush 31, 2) := by decide +kernel
theorem dX9_begins_3 : decode cX9_begins 3 = .ok (.aload_n 0, 1) := by decide +kernel
theorem dX9_begins_4 : decode cX9_begins 4 = .ok (.getfield 192, 3) := by decide +kernel
theorem dX9_begins_7 : decode cX9_begins 7 = .ok (.imul, 1) := by decide +kernel
theorem dX9_begins_8 : decode cX9_begins 8 = .ok (.iload_n 1, 1) := by decide +kernel
theorem dX9_begins_9 : decode cX9_begins 9 = .ok (.iadd, 1) := by decide +kernel
theorem dX9_begins_10 : decode cX9_begins 10 = .ok (.putfield 192, 3) := by decide +kernel
theorem dX9_begins_13 : decode cX9_begins 13 = .ok (.return_, 1) := by decide +kernel
theorem dX9_tell_0 : decode cX9_tell 0 = .ok (.aload_n 0, 1) := by decide +kernel
theorem dX9_tell_1 : decode cX9_tell 1 = .ok (.iload_n 1, 1) := by decide +kernel
theorem dX9_tell_2 : decode cX9_tell 2 = .ok (.invokevirtual 120, 3) := by decide +kernel
theorem dX9_tell_5 : decode cX9_tell 5 = .ok (.ifCond .ne 5, 3) := by decide +kernel
theorem dX9_tell_8 : decode cX9_tell 8 = .ok (.iconst (-1), 1) := by decide +kernel
theorem dX9_tell_9 : decode cX9_tell 9 = .ok (.ireturn, 1) := by decide +kernel
theorem dX9_tell_10 : decode cX9_tell 10 = .ok (.aload_n 0, 1) := by decide +kernel
theorem dX9_tell_11 : decode cX9_tell 11 = .ok (.getfield 22, 3) := by decide +kernel
theorem dX9_tell_14 : decode cX9_tell 14 = .ok (.iload_n 1, 1) := by decide +kernel
theorem dX9_tell_15 : decode cX9_tell 15 = .ok (.iaload, 1) := by decide +kernel
theorem dX9_tell_16 : decode cX9_tell 16 = .ok (.istore_n 2, 1) := by decide +kernel
theorem dX9_tell_17 : decode cX9_tell 17 = .ok (.aload_n 0, 1) := by decide +kernel
theorem dX9_tell_18 : decode cX9_tell 18 = .ok (.getfield 19, 3) := by decide +kernel
theorem dX9_tell_21 : decode cX9_tell 21 = .ok (.iload_n 1, 1) := by decide +kernel
theorem dX9_tell_22 : decode cX9_tell 22 = .ok (.iaload, 1) := by decide +kernel
theorem dX9_tell_23 : decode cX9_tell 23 = .ok (.lookupswitch 67 #[(1, 25), (2, 40)], 25) := by decide +kernel
theorem dX9_tell_48 : decode cX9_tell 48 = .ok (.aload_n 0, 1) := by decide +kernel
theorem dX9_tell_49 : decode cX9_tell 49 = .ok (.iconst 2, 1) := by decide +kernel
theorem dX9_tell_50 : decode cX9_tell 50 = .ok (.invokevirtual 195, 3) := by decide +kernel
theorem dX9_tell_53 : decode cX9_tell 53 = .ok (.aload_n 0, 1) := by decide +kernel
theorem dX9_tell_54 : decode cX9_tell 54 = .ok (.iconst 1, 1) := by decide +kernel
theorem dX9_tell_55 : decode cX9_tell 55 = .ok (.invokevirtual 195, 3) := by decide +kernel
theorem dX9_tell_58 : decode cX9_tell 58 = .ok (.iload_n 2, 1) := by decide +kernel
theorem dX9_tell_59 : decode cX9_tell 59 = .ok (.bipush 100, 2) := by decide +kernel
theorem dX9_tell_61 : decode cX9_tell 61 = .ok (.iadd, 1) := by decide +kernel
theorem dX9_tell_62 : decode cX9_tell 62 = .ok (.ireturn, 1) := by decide +kernel
theorem dX9_tell_63 : decode cX9_tell 63 = .ok (.aload_n 0, 1) := by decide +kernel
theorem dX9_tell_64 : decode cX9_tell 64 = .ok (.iconst 3, 1) := by decide +kernel
theorem dX9_tell_65 : decode cX9_tell 65 = .ok (.invokevirtual 195, 3) := by decide +kernel
theorem dX9_tell_68 : decode cX9_tell 68 = .ok (.aload_n 0, 1) := by decide +kernel
theorem dX9_tell_69 : decode cX9_tell 69 = .ok (.iconst 2, 1) := by decide +kernel
theorem dX9_tell_70 : decode cX9_tell 70 = .ok (.invokevirtual 195, 3) := by decide +kernel
theorem dX9_tell_73 : decode cX9_tell 73 = .ok (.aload_n 0, 1) := by decide +kernel
theorem dX9_tell_74 : decode cX9_tell 74 = .ok (.iconst 1, 1) := by decide +kernel
theorem dX9_tell_75 : decode cX9_tell 75 = .ok (.invokevirtual 195, 3) := by decide +kernel
theorem dX9_tell_78 : decode cX9_tell 78 = .ok (.aload_n 0, 1) := by decide +kernel
theorem dX9_tell_79 : decode cX9_tell 79 = .ok (.iconst 1, 1) := by decide +kernel
theorem dX9_tell_80 : decode cX9_tell 80 = .ok (.invokevirtual 195, 3) := by decide +kernel
theorem dX9_tell_83 : decode cX9_tell 83 = .ok (.iconst 2, 1) := by decide +kernel
theorem dX9_tell_84 : decode cX9_tell 84 = .ok (.iload_n 2, 1) := by decide +kernel
theorem dX9_tell_85 : decode cX9_tell 85 = .ok (.imul, 1) := by decide +kernel
theorem dX9_tell_86 : decode cX9_tell 86 = .ok (.bipush 100, 2) := by decide +kernel
theorem dX9_tell_88 : decode cX9_tell 88 = .ok (.iadd, 1) := by decide +kernel
theorem dX9_tell_89 : decode cX9_tell 89 = .ok (.ireturn, 1) := by decide +kernel
theorem dX9_tell_90 : decode cX9_tell 90 = .ok (.aload_n 0, 1) := by decide +kernel
theorem dX9_tell_91 : decode cX9_tell 91 = .ok (.iconst 1, 1) := by decide +kernel
theorem dX9_tell_92 : decode cX9_tell 92 = .ok (.invokevirtual 195, 3) := by decide +kernel
theorem dX9_tell_95 : decode cX9_tell 95 = .ok (.iload_n 2, 1) := by decide +kernel
theorem dX9_tell_96 : decode cX9_tell 96 = .ok (.ireturn, 1) := by decide +kernel
theorem dX9_hear_0 : decode cX9_hear 0 = .ok (.aload_n 0, 1) := by decide +kernel
theorem dX9_hear_1 : decode cX9_hear 1 = .ok (.iload_n 1, 1) := by decide +kernel
theorem dX9_hear_2 : decode cX9_hear 2 = .ok (.invokevirtual 120, 3) := by decide +kernel
theorem dX9_hear_5 : decode cX9_hear 5 = .ok (.ifCond .ne 5, 3) := by decide +kernel
theorem dX9_hear_8 : decode cX9_hear 8 = .ok (.iconst (-1), 1) := by decide +kernel
theorem dX9_hear_9 : decode cX9_hear 9 = .ok (.ireturn, 1) := by decide +kernel
theorem dX9_hear_10 : decode cX9_hear 10 = .ok (.aload_n 0, 1) := by decide +kernel
theorem dX9_hear_11 : decode cX9_hear 11 = .ok (.aload_n 0, 1) := by decide +kernel
theorem dX9_hear_12 : decode cX9_hear 12 = .ok (.getfield 19, 3) := by decide +kernel
theorem dX9_hear_15 : decode cX9_hear 15 = .ok (.iload_n 1, 1) := by decide +kernel
theorem dX9_hear_16 : decode cX9_hear 16 = .ok (.iaload, 1) := by decide +kernel
theorem dX9_hear_17 : decode cX9_hear 17 = .ok (.iconst 2, 1) := by decide +kernel
theorem dX9_hear_18 : decode cX9_hear 18 = .ok (.if_icmp .ne 7, 3) := by decide +kernel
theorem dX9_hear_21 : decode cX9_hear 21 = .ok (.iconst 5, 1) := by decide +kernel
theorem dX9_hear_22 : decode cX9_hear 22 = .ok (.goto 4, 3) := by decide +kernel
theorem dX9_hear_25 : decode cX9_hear 25 = .ok (.iconst 4, 1) := by decide +kernel
theorem dX9_hear_26 : decode cX9_hear 26 = .ok (.invokevirtual 195, 3) := by decide +kernel
theorem dX9_hear_29 : decode cX9_hear 29 = .ok (.aload_n 0, 1) := by decide +kernel
theorem dX9_hear_30 : decode cX9_hear 30 = .ok (.getfield 19, 3) := by decide +kernel
theorem dX9_hear_33 : decode cX9_hear 33 = .ok (.iload_n 1, 1) := by decide +kernel
theorem dX9_hear_34 : decode cX9_hear 34 = .ok (.iaload, 1) := by decide +kernel
theorem dX9_hear_35 : decode cX9_hear 35 = .ok (.iconst 2, 1) := by decide +kernel
theorem dX9_hear_36 : decode cX9_hear 36 = .ok (.if_icmp .ne 8, 3) := by decide +kernel
theorem dX9_hear_39 : decode cX9_hear 39 = .ok (.bipush 20, 2) := by decide +kernel
theorem dX9_hear_41 : decode cX9_hear 41 = .ok (.goto 4, 3) := by decide +kernel
theorem dX9_hear_44 : decode cX9_hear 44 = .ok (.iload_n 1, 1) := by decide +kernel
theorem dX9_hear_45 : decode cX9_hear 45 = .ok (.ireturn, 1) := by decide +kernel
theorem dX9_as_0 : decode cX9_as 0 = .ok (.aload_n 0, 1) := by decide +kernel
theorem dX9_as_1 : decode cX9_as 1 = .ok (.iconst 0, 1) := by decide +kernel
theorem dX9_as_2 : decode cX9_as 2 = .ok (.putfield 52, 3) := by decide +kernel
theorem dX9_as_5 : decode cX9_as 5 = .ok (.aload_n 0, 1) := by decide +kernel
theorem dX9_as_6 : decode cX9_as 6 = .ok (.iload_n 1, 1) := by decide +kernel
theorem dX9_as_7 : decode cX9_as 7 = .ok (.invokevirtual 120, 3) := by decide +kernel
theorem dX9_as_10 : decode cX9_as 10 = .ok (.ifCond .ne 5, 3) := by decide +kernel
theorem dX9_as_13 : decode cX9_as 13 = .ok (.iconst (-1), 1) := by decide +kernel
theorem dX9_as_14 : decode cX9_as 14 = .ok (.ireturn, 1) := by decide +kernel
theorem dX9_as_15 : decode cX9_as 15 = .ok (.iload_n 2, 1) := by decide +kernel
theorem dX9_as_16 : decode cX9_as 16 = .ok (.iconst 0, 1) := by decide +kernel
theorem dX9_as_17 : decode cX9_as 17 = .ok (.iconst 2, 1) := by decide +kernel
theorem dX9_as_18 : decode cX9_as 18 = .ok (.invokestatic 58, 3) := by decide +kernel
theorem dX9_as_21 : decode cX9_as 21 = .ok (.ifCond .ne 6, 3) := by decide +kernel
theorem dX9_as_24 : decode cX9_as 24 = .ok (.bipush (-2), 2) := by decide +kernel
theorem dX9_as_26 : decode cX9_as 26 = .ok (.ireturn, 1) := by decide +kernel
theorem dX9_as_27 : decode cX9_as 27 = .ok (.aload_n 0, 1) := by decide +kernel
theorem dX9_as_28 : decode cX9_as 28 = .ok (.getfield 19, 3) := by decide +kernel
theorem dX9_as_31 : decode cX9_as 31 = .ok (.iload_n 1, 1) := by decide +kernel
theorem dX9_as_32 : decode cX9_as 32 = .ok (.iaload, 1) := by decide +kernel
theorem dX9_as_33 : decode cX9_as 33 = .ok (.iload_n 2, 1) := by decide +kernel
theorem dX9_as_34 : decode cX9_as 34 = .ok (.if_icmp .lt 7, 3) := by decide +kernel
theorem dX9_as_37 : decode cX9_as 37 = .ok (.iconst 1, 1) := by decide +kernel
theorem dX9_as_38 : decode cX9_as 38 = .ok (.goto 8, 3) := by decide +kernel
theorem dX9_as_41 : decode cX9_as 41 = .ok (.aload_n 0, 1) := by decide +kernel
theorem dX9_as_42 : decode cX9_as 42 = .ok (.iconst 2, 1) := by decide +kernel
theorem dX9_as_43 : decode cX9_as 43 = .ok (.invokevirtual 79, 3) := by decide +kernel
theorem dX9_as_46 : decode cX9_as 46 = .ok (.ireturn, 1) := by decide +kernel
theorem dX9_trace_0 : decode cX9_trace 0 = .ok (.aload_n 0, 1) := by decide +kernel
theorem dX9_trace_1 : decode cX9_trace 1 = .ok (.getfield 192, 3) := by decide +kernel
theorem dX9_trace_4 : decode cX9_trace 4 = .ok (.ireturn, 1) := by decide +kernel
theorem dX9_fault_0 : decode cX9_fault 0 = .ok (.aload_n 0, 1) := by decide +kernel
theorem dX9_fault_1 : decode cX9_fault 1 = .ok (.getfield 52, 3) := by decide +kernel
theorem dX9_fault_4 : decode cX9_fault 4 = .ok (.ireturn, 1) := by decide +kernel
theorem dX9_many_0 : decode cX9_many 0 = .ok (.iload_n 1, 1) := by decide +kernel
theorem dX9_many_1 : decode cX9_many 1 = .ok (.tableswitch 63 0 4 #[35, 40, 45, 53, 58], 35) := by decide +kernel
theorem dX9_many_36 : decode cX9_many 36 = .ok (.aload_n 0, 1) := by decide +kernel
theorem dX9_many_37 : decode cX9_many 37 = .ok (.getfield 62, 3) := by decide +kernel
theorem dX9_many_40 : decode cX9_many 40 = .ok (.ireturn, 1) := by decide +kernel
theorem dX9_many_41 : decode cX9_many 41 = .ok (.aload_n 0, 1) := by decide +kernel
theorem dX9_many_42 : decode cX9_many 42 = .ok (.getfield 92, 3) := by decide +kernel
theorem dX9_many_45 : decode cX9_many 45 = .ok (.ireturn, 1) := by decide +kernel
theorem dX9_many_46 : decode cX9_many 46 = .ok (.aload_n 0, 1) := by decide +kernel
theorem dX9_many_47 : decode cX9_many 47 = .ok (.getfield 98, 3) := by decide +kernel
theorem dX9_many_50 : decode cX9_many 50 = .ok (.invokestatic 148, 3) := by decide +kernel
theorem dX9_many_53 : decode cX9_many 53 = .ok (.ireturn, 1) := by decide +kernel
theorem dX9_many_54 : decode cX9_many 54 = .ok (.aload_n 0, 1) := by decide +kernel
theorem dX9_many_55 : decode cX9_many 55 = .ok (.getfield 101, 3) := by decide +kernel
theorem dX9_many_58 : decode cX9_many 58 = .ok (.ireturn, 1) := by decide +kernel
theorem dX9_many_59 : decode cX9_many 59 = .ok (.aload_n 0, 1) := by decide +kernel
theorem dX9_many_60 : decode cX9_many 60 = .ok (.getfield 104, 3) := by decide +kernel
theorem dX9_many_63 : decode cX9_many 63 = .ok (.ireturn, 1) := by decide +kernel
theorem dX9_many_64 : decode cX9_many 64 = .ok (.bipush (-2), 2) := by decide +kernel
theorem dX9_many_66 : decode cX9_many 66 = .ok (.ireturn, 1) := by decide +kernel
end
section
/-! the two systems' worlds: every place by number, what its int fields (I) and its int rows (F) hold -/
def b2i (b : Bool) : Int32 := if b then 1 else 0
theorem aw_nb (b : Bool) : narrow .boolean (.int (b2i b)) = .int (b2i b) := by cases b <;> rfl
theorem b2i_eq0 (b : Bool) : b2i b = 0 ↔ b = false := by cases b <;> decide
theorem b2i_ne0 (b : Bool) : ¬ b2i b = 0 ↔ b = true := by cases b <;> decide
def st_I (I : Nat → Nat → Int32) (a k : Nat) (v : Int32) : Nat → Nat → Int32 := fun b => if b = a then upd (I a) k v else I b
def st_F (F : Nat → Nat → Int32) (a : Nat) (g : Nat → Int32) : Nat → Nat → Int32 := fun b => if b = a then g else F b
def st_h (ent : Nat → (Nat → Int32) → (Nat → Int32) → va_E) (I F : Nat → Nat → Int32) : aw_H := fun a => ent a (I a) (F a)
theorem st_hI {ent : Nat → (Nat → Int32) → (Nat → Int32) → va_E} {I F : Nat → Nat → Int32} {o k : Nat} {v : Int32} {e : va_E} (h : ent o (upd (I o) k v) (F o) = e) : aw_up (st_h ent I F) o e = st_h ent (st_I I o k v) F := by
  funext a
  unfold aw_up st_h st_I
  by_cases q : a = o
  · subst q
    simp [h]
  · simp [q]
theorem st_hF {ent : Nat → (Nat → Int32) → (Nat → Int32) → va_E} {I F : Nat → Nat → Int32} {o : Nat} {g : Nat → Int32} {e : va_E} (h : ent o (I o) g = e) : aw_up (st_h ent I F) o e = st_h ent I (st_F F o g) := by
  funext a
  unfold aw_up st_h st_F
  by_cases q : a = o
  · subst q
    simp [h]
  · simp [q]
theorem st_Is (I : Nat → Nat → Int32) (a k : Nat) (v : Int32) : st_I I a k v a k = v := by simp [st_I, upd]
theorem st_In {I : Nat → Nat → Int32} {a k b j : Nat} {v : Int32} (h : ¬ (b = a ∧ j = k)) : st_I I a k v b j = I b j := by
  unfold st_I upd
  by_cases e : b = a
  · subst e
    simp
    intro e2
    exact absurd ⟨rfl, e2⟩ h
  · simp [e]
theorem st_Fs (F : Nat → Nat → Int32) (a : Nat) (g : Nat → Int32) : st_F F a g a = g := by simp [st_F]
theorem st_Fn {F : Nat → Nat → Int32} {a b : Nat} {g : Nat → Int32} (h : b ≠ a) : st_F F a g b = F b := by simp [st_F, h]
section STR
variable {l : Launch} {D : va_G} {tc : Nat → ClassId} {own : String} {cc : ByteArray} {nL : Nat} {ret : Option FieldType} {R : Room} {n0 mc ms : Nat} {Q : Option Value → Nat → aw_H → Prop} {pc : Nat} {L : List (Option Value)} {st rest : List Value} {n : Nat} {h : aw_H} {cells slots : Nat} {ent : Nat → (Nat → Int32) → (Nat → Int32) → va_E} {I I' F F' : Nat → Nat → Int32}
theorem aw_putI {o idx ci k0 : Nat} {C : String} {T : u_T} {N : Nat} {ty : FieldType} {fs : List Value} {x : Int32} (hf : aw_fp own idx ci k0 C T N ty) (d : decode cc pc = .ok (.putfield idx, 3)) (ho : o < n) (he : st_h ent I F o = .inr (ci, fs)) (hn9 : narrow ty (.int x) = .int x) (hfit : fits ty (.int x) = true) (hl : k0 < fs.length) (hh : ent o (upd (I o) k0 x) (F o) = .inr (ci, fs.set k0 (.int x))) (hI : st_I I o k0 x = I') (k : AW l D tc own cc nL ret R n0 mc ms Q (pc + 3) L rest n (st_h ent I' F) cells slots) : AW l D tc own cc nL ret R n0 mc ms Q pc L (.int x :: .ref o :: rest) n (st_h ent I F) cells slots := by
  subst hI
  exact aw_put hf d ho he hn9 hfit hl (st_hI hh) k
theorem aw_puti {o idx ci k0 : Nat} {C : String} {T : u_T} {N : Nat} {ty : FieldType} {fs : List Value} {x : Int32} (hf : aw_fp own idx ci k0 C T N ty) (d : decode cc pc = .ok (.putfield idx, 3)) (ho : o < n) (he : st_h ent I F o = .inr (ci, fs)) (hn9 : narrow ty (.int x) = .int x) (hfit : fits ty (.int x) = true) (hl : k0 < fs.length) (hh : ent o (upd (I o) k0 x) (F o) = .inr (ci, fs.set k0 (.int x))) (k : AW l D tc own cc nL ret R n0 mc ms Q (pc + 3) L rest n (st_h ent (st_I I o k0 x) F) cells slots) : AW l D tc own cc nL ret R n0 mc ms Q pc L (.int x :: .ref o :: rest) n (st_h ent I F) cells slots := aw_put hf d ho he hn9 hfit hl (st_hI hh) k
theorem aw_iasti {o len : Nat} {f : Nat → Int32} {i x : Int32} (d : decode cc pc = .ok (.iastore, 1)) (ho : o < n) (he : st_h ent I F o = .inl (0, len, .inl f)) (hh : ∀ g, ent o (I o) g = .inl (0, len, .inl g)) (hin : vp_in i len) (k : AW l D tc own cc nL ret R n0 mc ms Q (pc + 1) L rest n (st_h ent I (st_F F o (upd f i.toNatClampNeg x))) cells slots) : AW l D tc own cc nL ret R n0 mc ms Q pc L (.int x :: .int i :: .ref o :: rest) n (st_h ent I F) cells slots := aw_iast d ho he hin (st_hF (hh _)) k
theorem aw_iastI {o len : Nat} {f : Nat → Int32} {i x : Int32} (d : decode cc pc = .ok (.iastore, 1)) (ho : o < n) (he : st_h ent I F o = .inl (0, len, .inl f)) (hh : ∀ g, ent o (I o) g = .inl (0, len, .inl g)) (hin : vp_in i len) (hF : st_F F o (upd f i.toNatClampNeg x) = F') (k : AW l D tc own cc nL ret R n0 mc ms Q (pc + 1) L rest n (st_h ent I F') cells slots) : AW l D tc own cc nL ret R n0 mc ms Q pc L (.int x :: .int i :: .ref o :: rest) n (st_h ent I F) cells slots := by
  subst hF
  exact aw_iast d ho he hin (st_hF (hh _)) k
theorem aw_zasti {o len : Nat} {f : Nat → Int32} {i x : Int32} (d : decode cc pc = .ok (.bastore, 1)) (ho : o < n) (he : st_h ent I F o = .inl (1, len, .inl f)) (hh : ∀ g, ent o (I o) g = .inl (1, len, .inl g)) (hin : vp_in i len) (k : AW l D tc own cc nL ret R n0 mc ms Q (pc + 1) L rest n (st_h ent I (st_F F o (upd f i.toNatClampNeg (vp_nar .boolean x)))) cells slots) : AW l D tc own cc nL ret R n0 mc ms Q pc L (.int x :: .int i :: .ref o :: rest) n (st_h ent I F) cells slots := aw_zast d ho he hin (st_hF (hh _)) k
theorem aw_tableC {dflt lo hi : Int} {offs : Array Int} {len : Nat} {x v : Int32} {off : Int} {tgt : Nat} (hx : x = v) (d : decode cc pc = .ok (.tableswitch dflt lo hi offs, len)) (h1 : ¬ v.toInt < lo) (h2 : ¬ hi < v.toInt) (ho : offs[(v.toInt - lo).toNat]? = some off) (ht : (pc : Int) + off = (tgt : Int)) (k : AW l D tc own cc nL ret R n0 mc ms Q tgt L rest n h cells slots) : AW l D tc own cc nL ret R n0 mc ms Q pc L (.int x :: rest) n h cells slots := by
  subst hx
  exact aw_tableIn d h1 h2 ho ht k
theorem aw_lookupC {dflt : Int} {ps : Array (Int × Int)} {len : Nat} {x v : Int32} {off : Int} {tgt : Nat} (hx : x = v) (d : decode cc pc = .ok (.lookupswitch dflt ps, len)) (hp : (ps.toList.zip (ps.toList.drop 1)).all (fun (a, next) => a.1 < next.1) = true) (ho : Op.lookupswitch.offset ps.toList dflt v.toInt = off) (ht : (pc : Int) + off = (tgt : Int)) (k : AW l D tc own cc nL ret R n0 mc ms Q tgt L rest n h cells slots) : AW l D tc own cc nL ret R n0 mc ms Q pc L (.int x :: rest) n h cells slots := by
  subst hx
  exact aw_lookup d hp ho ht k
/-- Math.min and Math.max -/
theorem aw_min {x y : Int32} {idx : Nat} (hl : Cond.methodLink own idx Lib.Math.min.name ∈ aw_gw) (hR : 1 ≤ R.frames ∧ 21 ≤ R.locals) (hc : cells ≤ R.cells ∧ slots ≤ R.slots) (hw : (rest.map fun v => v.category).sum ≤ 8) (d : decode cc pc = .ok (.invokestatic idx, 3)) (k : AW l D tc own cc nL ret R n0 mc ms Q (pc + 3) L (.int (if y < x then y else x) :: rest) n h cells slots) : AW l D tc own cc nL ret R n0 mc ms Q pc L (.int y :: .int x :: rest) n h cells slots := by
  intro p e s m args below meth c H locs ls A ad ad0 X Y
  exact va_mmin X.1 X.2.1 (X.2.2.2.1.trans Y.2.2.2.2.2.1.symm) X.2.2.2.2.1 (X.2.2.2.2.2.1 _ hl) (X.2.2.2.2.2.1 _ sm_Math_min) (X.2.2.2.2.2.1 _ in_J9) (X.2.2.2.2.2.1 _ cd_Math_min) hR.1 (by rw [aw_cats]; omega) hc.1 hc.2 d (k p e s m args below meth c H locs ls A ad ad0 X Y)
theorem aw_max {x y : Int32} {idx : Nat} (hl : Cond.methodLink own idx Lib.Math.max.name ∈ aw_gw) (hR : 1 ≤ R.frames ∧ 21 ≤ R.locals) (hc : cells ≤ R.cells ∧ slots ≤ R.slots) (hw : (rest.map fun v => v.category).sum ≤ 8) (d : decode cc pc = .ok (.invokestatic idx, 3)) (k : AW l D tc own cc nL ret R n0 mc ms Q (pc + 3) L (.int (if x < y then y else x) :: rest) n h cells slots) : AW l D tc own cc nL ret R n0 mc ms Q pc L (.int y :: .int x :: rest) n h cells slots := by
  intro p e s m args below meth c H locs ls A ad ad0 X Y
  exact va_mmax X.1 X.2.1 (X.2.2.2.1.trans Y.2.2.2.2.2.1.symm) X.2.2.2.2.1 (X.2.2.2.2.2.1 _ hl) (X.2.2.2.2.2.1 _ sm_Math_max) (X.2.2.2.2.2.1 _ in_J9) (X.2.2.2.2.2.1 _ cd_Math_max) hR.1 (by rw [aw_cats]; omega) hc.1 hc.2 d (k p e s m args below meth c H locs ls A ad ad0 X Y)
end STR
theorem st_ne {x v : Int32} {z : Int} (hv : v.toInt = z) (h : ¬ x = v) : ¬ x.toInt = z := fun q => h (Int32.toInt_inj.mp (q.trans hv.symm))
theorem aw_out8 {x : Int32} (h0 : ¬ x = 0) (h1 : ¬ x = 1) (h2 : ¬ x = 2) (h3 : ¬ x = 3) (h4 : ¬ x = 4) (h5 : ¬ x = 5) (h6 : ¬ x = 6) (h7 : ¬ x = 7) : x.toInt < 0 ∨ 7 < x.toInt := by
  have := st_ne (z := 0) (by decide) h0
  have := st_ne (z := 1) (by decide) h1
  have := st_ne (z := 2) (by decide) h2
  have := st_ne (z := 3) (by decide) h3
  have := st_ne (z := 4) (by decide) h4
  have := st_ne (z := 5) (by decide) h5
  have := st_ne (z := 6) (by decide) h6
  have := st_ne (z := 7) (by decide) h7
  omega
theorem aw_out5 {x : Int32} (h0 : ¬ x = 0) (h1 : ¬ x = 1) (h2 : ¬ x = 2) (h3 : ¬ x = 3) (h4 : ¬ x = 4) : x.toInt < 0 ∨ 4 < x.toInt := by
  have := st_ne (z := 0) (by decide) h0
  have := st_ne (z := 1) (by decide) h1
  have := st_ne (z := 2) (by decide) h2
  have := st_ne (z := 3) (by decide) h3
  have := st_ne (z := 4) (by decide) h4
  omega
theorem aw_out3 {x : Int32} (h0 : ¬ x = 0) (h1 : ¬ x = 1) (h2 : ¬ x = 2) : x.toInt < 0 ∨ 2 < x.toInt := by
  have := st_ne (z := 0) (by decide) h0
  have := st_ne (z := 1) (by decide) h1
  have := st_ne (z := 2) (by decide) h2
  omega
/-- the class's world: persons stand from place 30 on, pk their kinds' numbers, G who stands in the row of people -/
def entC (pk : Nat → Nat) (G : Nat → Option Nat) : Nat → (Nat → Int32) → (Nat → Int32) → va_E
  | 0, i, _ => .inr (8, [.ref 1, .ref 2, .ref 3, .ref 4, .ref 7, .ref 17, .ref 21, .int (i 7), .int (i 8), .int (i 9), .int (i 10), .int (i 11)])
  | 1, _, _ => .inl (2, 4, .inr (.inr (.inr (.inr (fun k => if k < 4 then some (22 + k) else none)))))
  | 2, _, _ => .inl (3, 6, .inr (.inr (.inr (.inr G))))
  | 3, _, f => .inl (0, 6, .inl f)
  | 4, i, _ => .inr (2, [.ref 5, .ref 6, .int (i 2), .int (i 3), .int (i 4)])
  | 5, _, f => .inl (0, 6, .inl f)
  | 6, _, f => .inl (0, 6, .inl f)
  | 7, _, _ => .inr (0, [.ref 8, .ref 15, .ref 16])
  | 8, _, _ => .inl (4, 6, .inr (.inr (.inr (.inr (fun k => if k < 6 then some (9 + k) else none)))))
  | 9, _, f => .inl (0, 6, .inl f)
  | 10, _, f => .inl (0, 6, .inl f)
  | 11, _, f => .inl (0, 6, .inl f)
  | 12, _, f => .inl (0, 6, .inl f)
  | 13, _, f => .inl (0, 6, .inl f)
  | 14, _, f => .inl (0, 6, .inl f)
  | 15, _, f => .inl (0, 6, .inl f)
  | 16, _, f => .inl (0, 64, .inl f)
  | 17, i, _ => .inr (5, [.ref 18, .ref 19, .ref 20, .int (i 3)])
  | 18, _, f => .inl (0, 8, .inl f)
  | 19, _, f => .inl (0, 8, .inl f)
  | 20, _, f => .inl (1, 8, .inl f)
  | 21, i, _ => .inr (7, [.int (i 0)])
  | 22, i, _ => .inr (6, [.ref 26, .int (i 1), .int (i 2), .int (i 3)])
  | 23, i, _ => .inr (6, [.ref 27, .int (i 1), .int (i 2), .int (i 3)])
  | 24, i, _ => .inr (6, [.ref 28, .int (i 1), .int (i 2), .int (i 3)])
  | 25, i, _ => .inr (6, [.ref 29, .int (i 1), .int (i 2), .int (i 3)])
  | 26, _, f => .inl (0, 60, .inl f)
  | 27, _, f => .inl (0, 60, .inl f)
  | 28, _, f => .inl (0, 60, .inl f)
  | 29, _, f => .inl (0, 60, .inl f)
  | a + 30, i, _ => .inr (pk a, [.int (i 0), .int (i 1), .int (i 2)])
abbrev hC (pk : Nat → Nat) (G : Nat → Option Nat) (I F : Nat → Nat → Int32) : aw_H := st_h (entC pk G) I F
theorem entC_row (pk : Nat → Nat) (G : Nat → Option Nat) {k : Nat} (hk : k < 4) (i f : Nat → Int32) : entC pk G (22 + k) i f = .inr (6, [.ref (26 + k), .int (i 1), .int (i 2), .int (i 3)]) := by
  match k, hk with
  | 0, _ => rfl
  | 1, _ => rfl
  | 2, _ => rfl
  | 3, _ => rfl
theorem entC_cells (pk : Nat → Nat) (G : Nat → Option Nat) {k : Nat} (hk : k < 4) (i f : Nat → Int32) : entC pk G (26 + k) i f = .inl (0, 60, .inl f) := by
  match k, hk with
  | 0, _ => rfl
  | 1, _ => rfl
  | 2, _ => rfl
  | 3, _ => rfl
theorem entC_owed (pk : Nat → Nat) (G : Nat → Option Nat) {k : Nat} (hk : k < 6) (i f : Nat → Int32) : entC pk G (9 + k) i f = .inl (0, 6, .inl f) := by
  match k, hk with
  | 0, _ => rfl
  | 1, _ => rfl
  | 2, _ => rfl
  | 3, _ => rfl
  | 4, _ => rfl
  | 5, _ => rfl
theorem entC_per (pk : Nat → Nat) (G : Nat → Option Nat) (j : Nat) (i f : Nat → Int32) : entC pk G (j + 30) i f = .inr (pk j, [.int (i 0), .int (i 1), .int (i 2)]) := rfl
/-- the reference's world -/
def entM : Nat → (Nat → Int32) → (Nat → Int32) → va_E
  | 0, i, _ => .inr (9, [.int (i 0), .int (i 1), .ref 1, .ref 2, .ref 3, .int (i 5), .int (i 6), .int (i 7), .int (i 8), .ref 4, .ref 5, .ref 6, .ref 7, .int (i 13), .int (i 14), .int (i 15), .ref 8, .int (i 17), .int (i 18), .int (i 19), .ref 9, .ref 10, .int (i 22), .ref 11, .int (i 24), .ref 12, .ref 13, .ref 14])
  | 1, _, f => .inl (0, 4, .inl f)
  | 2, _, f => .inl (0, 4, .inl f)
  | 3, _, f => .inl (0, 240, .inl f)
  | 4, _, f => .inl (0, 6, .inl f)
  | 5, _, f => .inl (0, 6, .inl f)
  | 6, _, f => .inl (0, 6, .inl f)
  | 7, _, f => .inl (0, 36, .inl f)
  | 8, _, f => .inl (0, 18, .inl f)
  | 9, _, f => .inl (0, 6, .inl f)
  | 10, _, f => .inl (0, 6, .inl f)
  | 11, _, f => .inl (0, 64, .inl f)
  | _, _, f => .inl (0, 8, .inl f)
abbrev hM (I F : Nat → Nat → Int32) : aw_H := st_h entM I F
end
section
/-! what the small static methods answer -/
def sW (v a b : Int32) : Bool := !decide (v < a) && !decide (b < v)
def sBit (k : Int32) : Int32 := 1 <<< (k &&& 31)
def sHas (set k : Int32) : Bool := !decide (set &&& sBit k = 0)
def sDig (c : Int32) : Bool := sW c 48 57
def sWould (kind haste : Int32) : Int32 := if kind = 1 then 2 * haste else if kind = 2 then haste / 2 else haste
theorem aw_lk1 {x v1 : Int32} {a1 o1 d : Int} (q1 : v1.toInt = a1) (h1 : ¬ x = v1) : Op.lookupswitch.offset [(a1, o1)] d x.toInt = d := by
  have e1 : ¬ a1 = x.toInt := fun q => h1 (Int32.toInt_inj.mp (q1.trans q).symm)
  simp [Op.lookupswitch.offset, e1]
theorem aw_lk2 {x v1 v2 : Int32} {a1 o1 a2 o2 d : Int} (q1 : v1.toInt = a1) (q2 : v2.toInt = a2) (h1 : ¬ x = v1) (h2 : ¬ x = v2) : Op.lookupswitch.offset [(a1, o1), (a2, o2)] d x.toInt = d := by
  have e1 : ¬ a1 = x.toInt := fun q => h1 (Int32.toInt_inj.mp (q1.trans q).symm)
  have e2 : ¬ a2 = x.toInt := fun q => h2 (Int32.toInt_inj.mp (q2.trans q).symm)
  simp [Op.lookupswitch.offset, e1, e2]

set_option maxRecDepth 100000 in
set_option maxHeartbeats 4000000 in
theorem c_X8_isWithin {l : Launch} {D : va_G} {tc : Nat → ClassId} (x a b : Int32) (n : Nat) (h : aw_H) : AM l D tc yX8_isWithin cX8_isWithin 3 (some .boolean) 0 0 0 0 [.int x, .int a, .int b] n h (fun v n1 h1 => n1 = n ∧ (v = some (.int (b2i (sW x a b))) ∧ h1 = h)) := by
  refine am_of (L := [some (.int x), some (.int a), some (.int b)]) (by decide +kernel) (Nat.le_of_ble_eq_true rfl) rfl ?_
  refine aw_iload_n dX8_isWithin_0 rfl rfl ?_
  refine aw_iload_n dX8_isWithin_1 rfl rfl ?_
  refine aw_icmp_lt (tgt := 14) dX8_isWithin_2 (by decide) (fun c_2 => ?_) (fun c_2 => ?_)
  · refine aw_iconst (v := 0) dX8_isWithin_14 (by decide) ?_
    refine aw_zret dX8_isWithin_15 (by first | rfl | exact aw_nb _) (Nat.zero_le _) (Nat.zero_le _) ?_
    refine ⟨rfl, ?_, rfl⟩
    simp [b2i, sW, *]
  · refine aw_iload_n dX8_isWithin_5 rfl rfl ?_
    refine aw_iload_n dX8_isWithin_6 rfl rfl ?_
    refine aw_icmp_gt (tgt := 14) dX8_isWithin_7 (by decide) (fun c_7 => ?_) (fun c_7 => ?_)
    · refine aw_iconst (v := 0) dX8_isWithin_14 (by decide) ?_
      refine aw_zret dX8_isWithin_15 (by first | rfl | exact aw_nb _) (Nat.zero_le _) (Nat.zero_le _) ?_
      refine ⟨rfl, ?_, rfl⟩
      simp [b2i, sW, *]
    · refine aw_iconst (v := 1) dX8_isWithin_10 (by decide) ?_
      refine aw_goto (tgt := 15) dX8_isWithin_11 (by decide) ?_
      refine aw_zret dX8_isWithin_15 (by first | rfl | exact aw_nb _) (Nat.zero_le _) (Nat.zero_le _) ?_
      refine ⟨rfl, ?_, rfl⟩
      simp [b2i, sW, *]
set_option maxRecDepth 100000 in
set_option maxHeartbeats 4000000 in
theorem c_X8_isLane {l : Launch} {D : va_G} {tc : Nat → ClassId} (x : Int32) (n : Nat) (h : aw_H) : AM l D tc yX8_isLane cX8_isLane 1 (some .boolean) 1 22 0 0 [.int x] n h (fun v n1 h1 => n1 = n ∧ (v = some (.int (b2i (sW x 0 2))) ∧ h1 = h)) := by
  refine am_of (L := [some (.int x)]) (by decide +kernel) (Nat.le_of_ble_eq_true rfl) rfl ?_
  refine aw_iload_n dX8_isLane_0 rfl rfl ?_
  refine aw_iconst (v := 0) dX8_isLane_1 (by decide) ?_
  refine aw_iconst (v := 2) dX8_isLane_2 (by decide) ?_
  refine aw_callS cw_X8_isWithin ml_X8_122 sm_X8_isWithin (c_X8_isWithin _ _ _ _ _) ⟨Nat.le_of_ble_eq_true rfl, Nat.le_of_ble_eq_true rfl⟩ ⟨Nat.zero_le _, Nat.zero_le _⟩ rfl rfl (Nat.le_of_ble_eq_true rfl) dX8_isLane_3 ?_
  rintro _ _ ⟨rfl, rfl⟩
  refine aw_zret dX8_isLane_6 (by first | rfl | exact aw_nb _) (Nat.zero_le _) (Nat.zero_le _) ?_
  exact ⟨rfl, rfl, rfl⟩
set_option maxRecDepth 100000 in
set_option maxHeartbeats 4000000 in
theorem c_X8_isDigit {l : Launch} {D : va_G} {tc : Nat → ClassId} (x : Int32) (n : Nat) (h : aw_H) : AM l D tc yX8_isDigit cX8_isDigit 1 (some .boolean) 1 22 0 0 [.int x] n h (fun v n1 h1 => n1 = n ∧ (v = some (.int (b2i (sDig x))) ∧ h1 = h)) := by
  refine am_of (L := [some (.int x)]) (by decide +kernel) (Nat.le_of_ble_eq_true rfl) rfl ?_
  refine aw_iload_n dX8_isDigit_0 rfl rfl ?_
  refine aw_bipush (v := (48)) dX8_isDigit_1 (by decide) ?_
  refine aw_bipush (v := (57)) dX8_isDigit_3 (by decide) ?_
  refine aw_callS cw_X8_isWithin ml_X8_122 sm_X8_isWithin (c_X8_isWithin _ _ _ _ _) ⟨Nat.le_of_ble_eq_true rfl, Nat.le_of_ble_eq_true rfl⟩ ⟨Nat.zero_le _, Nat.zero_le _⟩ rfl rfl (Nat.le_of_ble_eq_true rfl) dX8_isDigit_5 ?_
  rintro _ _ ⟨rfl, rfl⟩
  refine aw_zret dX8_isDigit_8 (aw_nb (sDig x)) (Nat.zero_le _) (Nat.zero_le _) ?_
  exact ⟨rfl, rfl, rfl⟩
set_option maxRecDepth 100000 in
set_option maxHeartbeats 4000000 in
theorem c_X8_bit {l : Launch} {D : va_G} {tc : Nat → ClassId} (x : Int32) (n : Nat) (h : aw_H) : AM l D tc yX8_bit cX8_bit 1 (some .int) 0 0 0 0 [.int x] n h (fun v n1 h1 => n1 = n ∧ (v = some (.int (sBit x)) ∧ h1 = h)) := by
  refine am_of (L := [some (.int x)]) (by decide +kernel) (Nat.le_of_ble_eq_true rfl) rfl ?_
  refine aw_iconst (v := 1) dX8_bit_0 (by decide) ?_
  refine aw_iload_n dX8_bit_1 rfl rfl ?_
  refine aw_ishl dX8_bit_2 ?_
  refine aw_iret dX8_bit_3 (Nat.zero_le _) (Nat.zero_le _) ?_
  exact ⟨rfl, rfl, rfl⟩
set_option maxRecDepth 100000 in
set_option maxHeartbeats 4000000 in
theorem c_X8_has {l : Launch} {D : va_G} {tc : Nat → ClassId} (x y : Int32) (n : Nat) (h : aw_H) : AM l D tc yX8_has cX8_has 2 (some .boolean) 1 20 0 0 [.int x, .int y] n h (fun v n1 h1 => n1 = n ∧ (v = some (.int (b2i (sHas x y))) ∧ h1 = h)) := by
  refine am_of (L := [some (.int x), some (.int y)]) (by decide +kernel) (Nat.le_of_ble_eq_true rfl) rfl ?_
  refine aw_iload_n dX8_has_0 rfl rfl ?_
  refine aw_iload_n dX8_has_1 rfl rfl ?_
  refine aw_callS cw_X8_bit ml_X8_137 sm_X8_bit (c_X8_bit _ _ _) ⟨Nat.le_of_ble_eq_true rfl, Nat.le_of_ble_eq_true rfl⟩ ⟨Nat.zero_le _, Nat.zero_le _⟩ rfl rfl (Nat.le_of_ble_eq_true rfl) dX8_has_2 ?_
  rintro _ _ ⟨rfl, rfl⟩
  refine aw_iand dX8_has_5 ?_
  refine aw_if_eq (tgt := 13) dX8_has_6 (by decide) (fun c_6 => ?_) (fun c_6 => ?_)
  · refine aw_iconst (v := 0) dX8_has_13 (by decide) ?_
    refine aw_zret dX8_has_14 (by first | rfl | exact aw_nb _) (Nat.zero_le _) (Nat.zero_le _) ?_
    refine ⟨rfl, ?_, rfl⟩
    simp [b2i, sHas, *]
  · refine aw_iconst (v := 1) dX8_has_9 (by decide) ?_
    refine aw_goto (tgt := 14) dX8_has_10 (by decide) ?_
    refine aw_zret dX8_has_14 (by first | rfl | exact aw_nb _) (Nat.zero_le _) (Nat.zero_le _) ?_
    refine ⟨rfl, ?_, rfl⟩
    simp [b2i, sHas, *]
set_option maxRecDepth 100000 in
set_option maxHeartbeats 4000000 in
theorem c_X8_wouldGo {l : Launch} {D : va_G} {tc : Nat → ClassId} (x y : Int32) (n : Nat) (h : aw_H) : AM l D tc yX8_wouldGo cX8_wouldGo 2 (some .int) 0 0 0 0 [.int x, .int y] n h (fun v n1 h1 => n1 = n ∧ (v = some (.int (sWould x y)) ∧ h1 = h)) := by
  refine am_of (L := [some (.int x), some (.int y)]) (by decide +kernel) (Nat.le_of_ble_eq_true rfl) rfl ?_
  refine aw_iload_n dX8_wouldGo_0 rfl rfl ?_
  by_cases e_1_1 : x = 1
  · refine aw_lookupC (off := 27) (tgt := 28) e_1_1 dX8_wouldGo_1 (by decide) (by decide) (by decide) ?_
    refine aw_iconst (v := 2) dX8_wouldGo_28 (by decide) ?_
    refine aw_iload_n dX8_wouldGo_29 rfl rfl ?_
    refine aw_imul dX8_wouldGo_30 ?_
    refine aw_iret dX8_wouldGo_31 (Nat.zero_le _) (Nat.zero_le _) ?_
    refine ⟨rfl, ?_, rfl⟩
    simp [sWould, *]
  by_cases e_1_2 : x = 2
  · refine aw_lookupC (off := 31) (tgt := 32) e_1_2 dX8_wouldGo_1 (by decide) (by decide) (by decide) ?_
    refine aw_iload_n dX8_wouldGo_32 rfl rfl ?_
    refine aw_iconst (v := 2) dX8_wouldGo_33 (by decide) ?_
    refine aw_idiv dX8_wouldGo_34 (by decide) ?_
    refine aw_iret dX8_wouldGo_35 (Nat.zero_le _) (Nat.zero_le _) ?_
    refine ⟨rfl, ?_, rfl⟩
    simp [sWould, *]
  refine aw_lookup (off := 35) (tgt := 36) dX8_wouldGo_1 (by decide) (aw_lk2 (by decide) (by decide) e_1_1 e_1_2) (by decide) ?_
  refine aw_iload_n dX8_wouldGo_36 rfl rfl ?_
  refine aw_iret dX8_wouldGo_37 (Nat.zero_le _) (Nat.zero_le _) ?_
  refine ⟨rfl, ?_, rfl⟩
  simp [sWould, *]
end
section
/-! rows of cells -/
theorem i32_lt (a b : Int32) : a < b ↔ a.toInt < b.toInt := Int32.lt_iff_toInt_lt
theorem i32_le (a b : Int32) : a ≤ b ↔ a.toInt ≤ b.toInt := Int32.le_iff_toInt_le
def sHasC (z i m : Int32) : Bool := !decide (i < 0) && !decide (z < i) && !decide (m < 0) && !decide (z - i < m)
theorem hasC_iff {z : Nat} (hz : z ≤ 60) (i m : Int32) : sHasC (nI z) i m = true ↔ ∃ a b : Nat, i = nI a ∧ m = nI b ∧ a + b ≤ z := by
  unfold sHasC
  simp only [Bool.and_eq_true, Bool.not_eq_true', decide_eq_false_iff_not]
  constructor
  · rintro ⟨⟨⟨h1, h2⟩, h3⟩, h4⟩
    obtain ⟨a, ha, rfl⟩ := nI_of h1
    obtain ⟨b, hb, rfl⟩ := nI_of h3
    have e1 : a ≤ z := by
      rcases Nat.lt_or_ge z a with q | q
      · exact absurd (nI_lt q (by omega)) h2
      · exact q
    rw [pk_sub e1] at h4
    have e2 : b ≤ z - a := by
      rcases Nat.lt_or_ge (z - a) b with q | q
      · exact absurd (nI_lt q (by omega)) h4
      · exact q
    exact ⟨a, b, rfl, rfl, by omega⟩
  · rintro ⟨a, b, rfl, rfl, h⟩
    rw [pk_sub (by omega)]
    exact ⟨⟨⟨nI_pos (by omega), nI_nlt (by omega) (by omega)⟩, nI_pos (by omega)⟩, nI_nlt (by omega) (by omega)⟩
theorem rd_in {z : Nat} (hz : z ≤ 60) {w i : Int32} (hw : w = nI z) (h : sHasC w i 1 = true) : vp_in i 60 := by
  subst hw
  obtain ⟨a, b, rfl, e, h1⟩ := (hasC_iff hz i 1).mp h
  have : b = 1 := by
    have e2 : nI 1 = nI b := by rw [← e]; rfl
    exact ((nI_eq (by omega) (by omega)).mp e2).symm
  exact vp_in_nI (by omega) (by decide)
def sRead (z : Int32) (f : Nat → Int32) (i : Int32) : Int32 := if sHasC z i 1 then f i.toNatClampNeg else 0
def sCut (lane v : Int32) : Int32 := if lane = 0 then v.toInt8.toInt32 else if lane = 1 then v.toInt16.toInt32 else v
def zr (f : Nat → Int32) (i : Nat) : Nat → Int32 := fun j => if j < i then 0 else f j
theorem zr_0 (f : Nat → Int32) : zr f 0 = f := by funext j; simp [zr]
theorem zr_s (f : Nat → Int32) (i : Nat) : upd (zr f i) i 0 = zr f (i + 1) := by
  funext j
  unfold upd zr
  by_cases e : j = i
  · subst e; simp
  · by_cases q : j < i
    · simp [e, q, Nat.lt_succ_of_lt q]
    · simp [e, q, show ¬ j < i + 1 by omega]
theorem st_FF (F : Nat → Nat → Int32) (a : Nat) (g g' : Nat → Int32) : st_F (st_F F a g) a g' = st_F F a g' := by
  funext b
  unfold st_F
  by_cases e : b = a <;> simp [e]
theorem st_F0 (F : Nat → Nat → Int32) (a : Nat) : st_F F a (F a) = F := by
  funext b
  unfold st_F
  by_cases e : b = a
  · subst e; simp
  · simp [e]
theorem rn_sz {z : Nat} (hz : z ≤ 60) : (if (0 : Int32) < (if (60 : Int32) < nI z then 60 else nI z) then (if (60 : Int32) < nI z then 60 else nI z) else 0) = nI z := by
  have h1 : ¬ (60 : Int32) < nI z := nI_nlt (a := 60) hz (by omega)
  rw [if_neg h1]
  by_cases h : 0 < z
  · have h2 : (0 : Int32) < nI z := nI_lt (a := 0) h (by omega)
    rw [if_pos h2]
  · have : z = 0 := by omega
    subst this
    decide
def rnI (I : Nat → Nat → Int32) (k : Nat) (a z : Int32) : Nat → Nat → Int32 := st_I (st_I (st_I I (22 + k) 1 1) (22 + k) 2 a) (22 + k) 3 z

set_option maxRecDepth 100000 in
set_option maxHeartbeats 4000000 in
theorem c_X6_hasCells {l : Launch} {D : va_G} {tc : Nat → ClassId} (pk : Nat → Nat) (G : Nat → Option Nat) (I F : Nat → Nat → Int32) (n : Nat) (hn : 30 ≤ n) (k : Nat) (hk : k < 4) (i m : Int32) : AM l D tc yX6_hasCells cX6_hasCells 3 (some .boolean) 0 0 0 0 [.ref (22 + k), .int i, .int m] n (hC pk G I F) (fun v n1 h1 => n1 = n ∧ (v = some (.int (b2i (sHasC (I (22 + k) 3) i m))) ∧ h1 = (hC pk G I F))) := by
  refine am_of (L := [some (.ref (22 + k)), some (.int i), some (.int m)]) (by decide +kernel) (Nat.le_of_ble_eq_true rfl) rfl ?_
  refine aw_iload_n dX6_hasCells_0 rfl rfl ?_
  refine aw_if_lt (tgt := 30) dX6_hasCells_1 (by decide) (fun c_1 => ?_) (fun c_1 => ?_)
  · refine aw_iconst (v := 0) dX6_hasCells_30 (by decide) ?_
    refine aw_zret dX6_hasCells_31 (by first | rfl | exact aw_nb _) (Nat.zero_le _) (Nat.zero_le _) ?_
    refine ⟨rfl, ?_, rfl⟩
    simp [b2i, sHasC, *]
  · refine aw_iload_n dX6_hasCells_4 rfl rfl ?_
    refine aw_aload_n dX6_hasCells_5 rfl rfl ?_
    refine aw_get fd_X6_32_6 dX6_hasCells_6 (by omega) (entC_row _ _ hk _ _) rfl ?_
    refine aw_icmp_gt (tgt := 30) dX6_hasCells_9 (by decide) (fun c_9 => ?_) (fun c_9 => ?_)
    · refine aw_iconst (v := 0) dX6_hasCells_30 (by decide) ?_
      refine aw_zret dX6_hasCells_31 (by first | rfl | exact aw_nb _) (Nat.zero_le _) (Nat.zero_le _) ?_
      refine ⟨rfl, ?_, rfl⟩
      simp [b2i, sHasC, *]
    · refine aw_iload_n dX6_hasCells_12 rfl rfl ?_
      refine aw_if_lt (tgt := 30) dX6_hasCells_13 (by decide) (fun c_13 => ?_) (fun c_13 => ?_)
      · refine aw_iconst (v := 0) dX6_hasCells_30 (by decide) ?_
        refine aw_zret dX6_hasCells_31 (by first | rfl | exact aw_nb _) (Nat.zero_le _) (Nat.zero_le _) ?_
        refine ⟨rfl, ?_, rfl⟩
        simp [b2i, sHasC, *]
      · refine aw_iload_n dX6_hasCells_16 rfl rfl ?_
        refine aw_aload_n dX6_hasCells_17 rfl rfl ?_
        refine aw_get fd_X6_32_6 dX6_hasCells_18 (by omega) (entC_row _ _ hk _ _) rfl ?_
        refine aw_iload_n dX6_hasCells_21 rfl rfl ?_
        refine aw_isub dX6_hasCells_22 ?_
        refine aw_icmp_gt (tgt := 30) dX6_hasCells_23 (by decide) (fun c_23 => ?_) (fun c_23 => ?_)
        · refine aw_iconst (v := 0) dX6_hasCells_30 (by decide) ?_
          refine aw_zret dX6_hasCells_31 (by first | rfl | exact aw_nb _) (Nat.zero_le _) (Nat.zero_le _) ?_
          refine ⟨rfl, ?_, rfl⟩
          simp [b2i, sHasC, *]
        · refine aw_iconst (v := 1) dX6_hasCells_26 (by decide) ?_
          refine aw_goto (tgt := 31) dX6_hasCells_27 (by decide) ?_
          refine aw_zret dX6_hasCells_31 (by first | rfl | exact aw_nb _) (Nat.zero_le _) (Nat.zero_le _) ?_
          refine ⟨rfl, ?_, rfl⟩
          simp [b2i, sHasC, *]
set_option maxRecDepth 100000 in
set_option maxHeartbeats 4000000 in
theorem c_X6_read {l : Launch} {D : va_G} {tc : Nat → ClassId} (pk : Nat → Nat) (G : Nat → Option Nat) (I F : Nat → Nat → Int32) (n : Nat) (hn : 30 ≤ n) (k : Nat) (hk : k < 4) {z : Nat} (hz : z ≤ 60) (hI : I (22 + k) 3 = nI z) (i : Int32) : AM l D tc yX6_read cX6_read 2 (some .int) 1 22 0 0 [.ref (22 + k), .int i] n (hC pk G I F) (fun v n1 h1 => n1 = n ∧ (v = some (.int (sRead (I (22 + k) 3) (F (26 + k)) i)) ∧ h1 = (hC pk G I F))) := by
  refine am_of (L := [some (.ref (22 + k)), some (.int i)]) (by decide +kernel) (Nat.le_of_ble_eq_true rfl) rfl ?_
  refine aw_aload_n dX6_read_0 rfl rfl ?_
  refine aw_iload_n dX6_read_1 rfl rfl ?_
  refine aw_iconst (v := 1) dX6_read_2 (by decide) ?_
  refine aw_callV cw_X6_hasCells ml_X6_35 im_X6_hasCells sl_X6_X6_hasCells rfl (by omega) (entC_row _ _ hk _ _) (c_X6_hasCells pk G _ _ n hn _ hk _ _) ⟨Nat.le_of_ble_eq_true rfl, Nat.le_of_ble_eq_true rfl⟩ ⟨Nat.zero_le _, Nat.zero_le _⟩ rfl rfl (Nat.le_of_ble_eq_true rfl) dX6_read_3 ?_
  rintro _ _ ⟨rfl, rfl⟩
  refine aw_if_eq (tgt := 18) dX6_read_6 (by decide) (fun c_6 => ?_) (fun c_6 => ?_)
  · refine aw_iconst (v := 0) dX6_read_18 (by decide) ?_
    refine aw_iret dX6_read_19 (Nat.zero_le _) (Nat.zero_le _) ?_
    refine ⟨rfl, ?_, rfl⟩
    first | rw [sRead, if_neg (by rw [(b2i_eq0 _).mp c_6]; decide)] | rw [sRead, if_pos ((b2i_ne0 _).mp c_6)]
  · refine aw_aload_n dX6_read_9 rfl rfl ?_
    refine aw_get fd_X6_9_6 dX6_read_10 (by omega) (entC_row _ _ hk _ _) rfl ?_
    refine aw_iload_n dX6_read_13 rfl rfl ?_
    refine aw_iald dX6_read_14 (by omega) (entC_cells _ _ hk _ _) (rd_in hz hI ((b2i_ne0 _).mp c_6)) ?_
    refine aw_goto (tgt := 19) dX6_read_15 (by decide) ?_
    refine aw_iret dX6_read_19 (Nat.zero_le _) (Nat.zero_le _) ?_
    refine ⟨rfl, ?_, rfl⟩
    first | rw [sRead, if_neg (by rw [(b2i_eq0 _).mp c_6]; decide)] | rw [sRead, if_pos ((b2i_ne0 _).mp c_6)]
set_option maxRecDepth 100000 in
set_option maxHeartbeats 4000000 in
theorem c_X6_cut {l : Launch} {D : va_G} {tc : Nat → ClassId} (pk : Nat → Nat) (G : Nat → Option Nat) (I F : Nat → Nat → Int32) (n : Nat) (hn : 30 ≤ n) (k : Nat) (hk : k < 4) (x : Int32) : AM l D tc yX6_cut cX6_cut 2 (some .int) 0 0 0 0 [.ref (22 + k), .int x] n (hC pk G I F) (fun v n1 h1 => n1 = n ∧ (v = some (.int (sCut (I (22 + k) 2) x)) ∧ h1 = (hC pk G I F))) := by
  refine am_of (L := [some (.ref (22 + k)), some (.int x)]) (by decide +kernel) (Nat.le_of_ble_eq_true rfl) rfl ?_
  refine aw_aload_n dX6_cut_0 rfl rfl ?_
  refine aw_get fd_X6_19_6 dX6_cut_1 (by omega) (entC_row _ _ hk _ _) rfl ?_
  by_cases e_4_0 : I (22 + k) 2 = 0
  · refine aw_lookupC (off := 28) (tgt := 32) e_4_0 dX6_cut_4 (by decide) (by decide) (by decide) ?_
    refine aw_iload_n dX6_cut_32 rfl rfl ?_
    refine aw_i2b dX6_cut_33 ?_
    refine aw_iret dX6_cut_34 (Nat.zero_le _) (Nat.zero_le _) ?_
    refine ⟨rfl, ?_, rfl⟩
    simp [sCut, *]
  by_cases e_4_1 : I (22 + k) 2 = 1
  · refine aw_lookupC (off := 31) (tgt := 35) e_4_1 dX6_cut_4 (by decide) (by decide) (by decide) ?_
    refine aw_iload_n dX6_cut_35 rfl rfl ?_
    refine aw_i2s dX6_cut_36 ?_
    refine aw_iret dX6_cut_37 (Nat.zero_le _) (Nat.zero_le _) ?_
    refine ⟨rfl, ?_, rfl⟩
    simp [sCut, *]
  refine aw_lookup (off := 34) (tgt := 38) dX6_cut_4 (by decide) (aw_lk2 (by decide) (by decide) e_4_0 e_4_1) (by decide) ?_
  refine aw_iload_n dX6_cut_38 rfl rfl ?_
  refine aw_iret dX6_cut_39 (Nat.zero_le _) (Nat.zero_le _) ?_
  refine ⟨rfl, ?_, rfl⟩
  simp [sCut, *]
set_option maxRecDepth 100000 in
set_option maxHeartbeats 4000000 in
theorem c_X6_write {l : Launch} {D : va_G} {tc : Nat → ClassId} (pk : Nat → Nat) (G : Nat → Option Nat) (I F : Nat → Nat → Int32) (n : Nat) (hn : 30 ≤ n) (k : Nat) (hk : k < 4) {z : Nat} (hz : z ≤ 60) (hI : I (22 + k) 3 = nI z) (i x : Int32) : AM l D tc yX6_write cX6_write 3 none 1 22 0 0 [.ref (22 + k), .int i, .int x] n (hC pk G I F) (fun v n1 h1 => n1 = n ∧ (v = none ∧ h1 = hC pk G I (if sHasC (I (22 + k) 3) i 1 then st_F F (26 + k) (upd (F (26 + k)) i.toNatClampNeg (sCut (I (22 + k) 2) x)) else F))) := by
  refine am_of (L := [some (.ref (22 + k)), some (.int i), some (.int x)]) (by decide +kernel) (Nat.le_of_ble_eq_true rfl) rfl ?_
  refine aw_aload_n dX6_write_0 rfl rfl ?_
  refine aw_iload_n dX6_write_1 rfl rfl ?_
  refine aw_iconst (v := 1) dX6_write_2 (by decide) ?_
  refine aw_callV cw_X6_hasCells ml_X6_35 im_X6_hasCells sl_X6_X6_hasCells rfl (by omega) (entC_row _ _ hk _ _) (c_X6_hasCells pk G _ _ n hn _ hk _ _) ⟨Nat.le_of_ble_eq_true rfl, Nat.le_of_ble_eq_true rfl⟩ ⟨Nat.zero_le _, Nat.zero_le _⟩ rfl rfl (Nat.le_of_ble_eq_true rfl) dX6_write_3 ?_
  rintro _ _ ⟨rfl, rfl⟩
  refine aw_if_eq (tgt := 20) dX6_write_6 (by decide) (fun c_6 => ?_) (fun c_6 => ?_)
  · refine aw_vret dX6_write_20 (Nat.zero_le _) (Nat.zero_le _) ?_
    refine ⟨rfl, rfl, ?_⟩
    first | rw [if_neg (by rw [(b2i_eq0 _).mp c_6]; decide)] | rw [if_pos ((b2i_ne0 _).mp c_6)]
  · refine aw_aload_n dX6_write_9 rfl rfl ?_
    refine aw_get fd_X6_9_6 dX6_write_10 (by omega) (entC_row _ _ hk _ _) rfl ?_
    refine aw_iload_n dX6_write_13 rfl rfl ?_
    refine aw_aload_n dX6_write_14 rfl rfl ?_
    refine aw_iload_n dX6_write_15 rfl rfl ?_
    refine aw_callV cw_X6_cut ml_X6_39 im_X6_cut sl_X6_X6_cut rfl (by omega) (entC_row _ _ hk _ _) (c_X6_cut pk G _ _ n hn _ hk _) ⟨Nat.le_of_ble_eq_true rfl, Nat.le_of_ble_eq_true rfl⟩ ⟨Nat.zero_le _, Nat.zero_le _⟩ rfl rfl (Nat.le_of_ble_eq_true rfl) dX6_write_16 ?_
    rintro _ _ ⟨rfl, rfl⟩
    refine aw_iastI dX6_write_19 (by omega) (entC_cells _ _ hk _ _) (fun _ => entC_cells _ _ hk _ _) (rd_in hz hI ((b2i_ne0 _).mp c_6)) rfl ?_
    refine aw_vret dX6_write_20 (Nat.zero_le _) (Nat.zero_le _) ?_
    refine ⟨rfl, rfl, ?_⟩
    first | rw [if_neg (by rw [(b2i_eq0 _).mp c_6]; decide)] | rw [if_pos ((b2i_ne0 _).mp c_6)]
set_option maxRecDepth 100000 in
set_option maxHeartbeats 4000000 in
theorem lp_X6_renew {l : Launch} {D : va_G} {tc : Nat → ClassId} (pk : Nat → Nat) (G : Nat → Option Nat) (I F : Nat → Nat → Int32) (n : Nat) (hn : 30 ≤ n) (k : Nat) (hk : k < 4) (a b : Int32) (f0 : Nat → Int32) {z : Nat} (hz : z ≤ 60) (hI : I (22 + k) 3 = nI z) : ∀ (m i : Nat), i + m = z → AW l D tc yX6_renew.cls cX6_renew 4 none { frames := 1, cells := 0, slots := 0, locals := 21 } n 0 0 (fun v n1 h1 => n1 = n ∧ (v = none ∧ h1 = hC pk G I (st_F F (26 + k) (zr f0 z)))) 26 [some (.ref (22 + k)), some (.int a), some (.int b), some (.int (nI i))] [] n (hC pk G I (st_F F (26 + k) (zr f0 i))) 0 0 := by
  intro m
  induction m using Nat.strongRecOn with
  | _ m ih =>
    intro i hi
    refine aw_iload_n dX6_renew_26 rfl rfl ?_
    refine aw_aload_n dX6_renew_27 rfl rfl ?_
    refine aw_get fd_X6_32_6 dX6_renew_28 (by omega) (entC_row _ _ hk _ _) rfl ?_
    refine aw_icmp_ge (tgt := 47) dX6_renew_31 (by decide) (fun c_31 => ?_) (fun c_31 => ?_)
    · refine aw_vret dX6_renew_47 (Nat.zero_le _) (Nat.zero_le _) ?_
      have : i = z := by
        rcases Nat.lt_or_ge i z with q | q
        · exact absurd c_31 (by rw [hI]; exact nI_ge q (by omega))
        · omega
      subst this
      exact ⟨rfl, rfl, rfl⟩
    · have hiz : i < z := by
        rcases Nat.lt_or_ge i z with q | q
        · exact q
        · exact absurd (by rw [hI]; exact nI_le q (by omega)) c_31
      refine aw_aload_n dX6_renew_34 rfl rfl ?_
      refine aw_get fd_X6_9_6 dX6_renew_35 (by omega) (entC_row _ _ hk _ _) rfl ?_
      refine aw_iload_n dX6_renew_38 rfl rfl ?_
      refine aw_iconst (v := 0) dX6_renew_39 (by decide) ?_
      refine aw_iastI dX6_renew_40 (by omega) (entC_cells _ _ hk _ _) (fun _ => entC_cells _ _ hk _ _) (vp_in_nI (n := i) (by omega) (by decide)) (by show st_F (st_F F (26 + k) (zr f0 i)) (26 + k) (upd (st_F F (26 + k) (zr f0 i) (26 + k)) _ 0) = _; rw [st_Fs, st_FF, nI_clamp (by omega), zr_s]) ?_
      refine aw_iinc (v := 1) dX6_renew_41 rfl (by decide) (by decide) rfl ?_
      refine aw_goto (tgt := 26) dX6_renew_44 (by decide) ?_
      rw [nI_1]
      exact ih (m - 1) (by omega) (i + 1) (by omega)
set_option maxRecDepth 100000 in
set_option maxHeartbeats 4000000 in
theorem c_X6_renew {l : Launch} {D : va_G} {tc : Nat → ClassId} (pk : Nat → Nat) (G : Nat → Option Nat) (I F : Nat → Nat → Int32) (n : Nat) (hn : 30 ≤ n) (k : Nat) (hk : k < 4) (a : Int32) {z : Nat} (hz : z ≤ 60) : AM l D tc yX6_renew cX6_renew 4 none 1 21 0 0 [.ref (22 + k), .int a, .int (nI z)] n (hC pk G I F) (fun v n1 h1 => n1 = n ∧ (v = none ∧ h1 = hC pk G (rnI I k a (nI z)) (st_F F (26 + k) (zr (F (26 + k)) z)))) := by
  refine am_of (L := [some (.ref (22 + k)), some (.int a), some (.int (nI z)), none]) (by decide +kernel) (Nat.le_of_ble_eq_true rfl) rfl ?_
  refine aw_aload_n dX6_renew_0 rfl rfl ?_
  refine aw_iconst (v := 1) dX6_renew_1 (by decide) ?_
  refine aw_puti fp_X6_15_6 dX6_renew_2 (by omega) (entC_row _ _ hk _ _) rfl rfl (Nat.le_of_ble_eq_true rfl) (entC_row _ _ hk _ _) ?_
  refine aw_aload_n dX6_renew_5 rfl rfl ?_
  refine aw_iload_n dX6_renew_6 rfl rfl ?_
  refine aw_puti fp_X6_19_6 dX6_renew_7 (by omega) (entC_row _ _ hk _ _) rfl rfl (Nat.le_of_ble_eq_true rfl) (entC_row _ _ hk _ _) ?_
  refine aw_aload_n dX6_renew_10 rfl rfl ?_
  refine aw_iconst (v := 0) dX6_renew_11 (by decide) ?_
  refine aw_iload_n dX6_renew_12 rfl rfl ?_
  refine aw_bipush (v := (60)) dX6_renew_13 (by decide) ?_
  refine aw_min ml_X6_23 ⟨Nat.le_of_ble_eq_true rfl, Nat.le_of_ble_eq_true rfl⟩ ⟨Nat.zero_le _, Nat.zero_le _⟩ (Nat.le_of_ble_eq_true rfl) dX6_renew_15 ?_
  refine aw_max ml_X6_29 ⟨Nat.le_of_ble_eq_true rfl, Nat.le_of_ble_eq_true rfl⟩ ⟨Nat.zero_le _, Nat.zero_le _⟩ (Nat.le_of_ble_eq_true rfl) dX6_renew_18 ?_
  rw [rn_sz hz]
  refine aw_puti fp_X6_32_6 dX6_renew_21 (by omega) (entC_row _ _ hk _ _) rfl rfl (Nat.le_of_ble_eq_true rfl) (entC_row _ _ hk _ _) ?_
  refine aw_iconst (v := 0) dX6_renew_24 (by decide) ?_
  refine aw_istore_n dX6_renew_25 rfl (by decide) rfl ?_
  have hl := lp_X6_renew (l := l) (D := D) (tc := tc) pk G (rnI I k a (nI z)) F n hn k hk a (nI z) (F (26 + k)) hz (by simp [rnI, st_I, upd]) z 0 (by omega)
  rw [zr_0, st_F0] at hl
  exact hl
end
section
/-! people: of three kinds, by number 1 (lame), 3 (plain), 4 (proud) -/
def pKind (c : Nat) : Prop := c = 1 ∨ c = 3 ∨ c = 4
def kd (c : Nat) : Int32 := if c = 3 then 0 else if c = 4 then 1 else 2
def tr (I : Nat → Nat → Int32) (x : Int32) : Nat → Nat → Int32 := st_I I 21 0 (31 * I 21 0 + x)
theorem tr_p (I : Nat → Nat → Int32) (x : Int32) (j k : Nat) : tr I x (j + 30) k = I (j + 30) k := st_In (by omega)
section PER
variable {l : Launch} {D : va_G} {tc : Nat → ClassId} {own : String} {cc : ByteArray} {nL : Nat} {ret : Option FieldType} {R : Room} {n0 mc ms : Nat} {Q : Option Value → Nat → aw_H → Prop} {pc : Nat} {L : List (Option Value)} {st rest : List Value} {n : Nat} {h : aw_H} {cells slots : Nat} {pk : Nat → Nat} {G : Nat → Option Nat} {I F : Nat → Nat → Int32}
theorem aw_getP {o idx k0 c : Nat} {i0 i1 i2 : Int32} {v : Value} (h1 : aw_fd own idx 1 k0 RX1 TX1 3) (h3 : aw_fd own idx 3 k0 RX3 TX3 3) (h4 : aw_fd own idx 4 k0 RX4 TX4 3) (hp : pKind c) (d : decode cc pc = .ok (.getfield idx, 3)) (ho : o < n) (he : h o = .inr (c, [.int i0, .int i1, .int i2])) (hv : [Value.int i0, .int i1, .int i2][k0]? = some v) (k : AW l D tc own cc nL ret R n0 mc ms Q (pc + 3) L (v :: rest) n h cells slots) : AW l D tc own cc nL ret R n0 mc ms Q pc L (.ref o :: rest) n h cells slots := by
  rcases hp with rfl | rfl | rfl
  · exact aw_get h1 d ho he hv k
  · exact aw_get h3 d ho he hv k
  · exact aw_get h4 d ho he hv k
theorem aw_putP {j idx k0 : Nat} {x : Int32} (h1 : aw_fp own idx 1 k0 RX1 TX1 3 .int) (h3 : aw_fp own idx 3 k0 RX3 TX3 3 .int) (h4 : aw_fp own idx 4 k0 RX4 TX4 3 .int) (hp : pKind (pk j)) (d : decode cc pc = .ok (.putfield idx, 3)) (ho : j + 30 < n) (k : AW l D tc own cc nL ret R n0 mc ms Q (pc + 3) L rest n (hC pk G (st_I I (j + 30) k0 x) F) cells slots) : AW l D tc own cc nL ret R n0 mc ms Q pc L (.int x :: .ref (j + 30) :: rest) n (hC pk G I F) cells slots := by
  have hk : k0 < 3 := h1.1.2.2.1
  have hh : ∀ c, pk j = c → entC pk G (j + 30) (upd (I (j + 30)) k0 x) (F (j + 30)) = .inr (c, [Value.int (I (j + 30) 0), .int (I (j + 30) 1), .int (I (j + 30) 2)].set k0 (.int x)) := by
    intro c hc
    rw [entC_per, hc]
    match k0, hk with
    | 0, _ => rfl
    | 1, _ => rfl
    | 2, _ => rfl
  have he : ∀ c, pk j = c → hC pk G I F (j + 30) = .inr (c, [Value.int (I (j + 30) 0), .int (I (j + 30) 1), .int (I (j + 30) 2)]) := fun c hc => by
    show entC pk G (j + 30) _ _ = _
    rw [entC_per, hc]
  rcases hp with q | q | q
  · exact aw_puti h1 d ho (he _ q) rfl rfl hk (hh _ q) k
  · exact aw_puti h3 d ho (he _ q) rfl rfl hk (hh _ q) k
  · exact aw_puti h4 d ho (he _ q) rfl rfl hk (hh _ q) k
theorem he_per (j : Nat) : hC pk G I F (j + 30) = .inr (pk j, [.int (I (j + 30) 0), .int (I (j + 30) 1), .int (I (j + 30) 2)]) := rfl
theorem he_perc {j c : Nat} (hc : pk j = c) : hC pk G I F (j + 30) = .inr (c, [.int (I (j + 30) 0), .int (I (j + 30) 1), .int (I (j + 30) 2)]) := by rw [← hc]; rfl
/-- super.m(..) -/
theorem aw_super {y : MethodName} {cc' : ByteArray} {nL' nA fr' lo' idx : Nat} {ret' : Option FieldType} {Q' : Option Value → aw_H → Prop} {av : List Value} {o ci : Nat} {C : String} {T : u_T} {N : Nat} {fs : List Value} (hcw : aw_cw y cc' nL' ret' nA) (hl : Cond.methodLink own idx y ∈ aw_gw) (hsm : Cond.sameMethod y.cls y.cls y.name y.desc ∈ aw_gw) (hsu : Cond.superclass own y.cls ∈ aw_gw) (hi : Cond.instanceMethod y ∈ aw_gw) (hno : y.name ≠ "<init>") (hcl : vwCl[ci]? = some (C, T, N)) (ho : o < n) (he : h o = .inr (ci, fs)) (hM : AM l D tc y cc' nL' ret' fr' lo' 0 0 (.ref o :: av) n h (fun v n1 h1 => n1 = n ∧ Q' v h1)) (hR : fr' + 1 ≤ R.frames ∧ 8 + (nL' + 11) + lo' ≤ R.locals) (hc : cells ≤ R.cells ∧ slots ≤ R.slots) (hn : av.length = nA) (hst : av.reverse ++ .ref o :: rest = st) (hw : (rest.map fun v => v.category).sum ≤ 8) (d : decode cc pc = .ok (.invokespecial idx, 3)) (k : ∀ (v : Option Value) (h1 : aw_H), Q' v h1 → AW l D tc own cc nL ret R n0 mc ms Q (pc + 3) L (v.toList ++ rest) n h1 cells slots) : AW l D tc own cc nL ret R n0 mc ms Q pc L st n h cells slots := by
  subst hst
  intro p e s m args below meth c H locs ls A ad ad0 X Y
  obtain ⟨hx, hb, hr0, hml, hown, hts, hlk, hK, hA⟩ := id X
  obtain ⟨hn0, had, hP, hD, hS, hL⟩ := Y
  obtain ⟨w3, w4, g1, g2, g3⟩ := hcw
  have hM' := hM ad A H.size (fun q hq => hA q (Nat.le_trans hS.1 hq))
  have hw9 := aw_ws_at (tc := tc) (ad := ad) (h := h) ho
  rw [he] at hw9
  have hG : GoodIn aw_gw (va_wsSU own idx y (Cond.code y cc' nL' ret' :: aw_gw)) := by
    intro w hw1
    have hm : w ∈ aw_gw := by
      unfold va_wsSU at hw1
      simp only [List.cons_append, List.nil_append, List.mem_cons] at hw1
      rcases hw1 with rfl | rfl | rfl | rfl | rfl | rfl | hw1
      all_goals assumption
    exact ⟨hm, good_of_word (List.mem_filter.mp hm).2⟩
  have hB := va_cwSU (R := R) (own := own) (index := idx) (y := y) (mc := 0) (ms := 0) (rm := { frames := fr', cells := 0, slots := 0, locals := lo' }) nA hts hG rfl rfl rfl ⟨hno, g3⟩ hR
  have hr := va_runSU (hK.1.1 ci _ hcl).2 (b := ad o) (R := R) (e := e) (below := below) (meth := meth) (locs := locs) (cells := cells) (slots := slots) (As := av.map (aw_mv ad)) (rest := rest.map (aw_mv ad)) (g := F0 m pc ls ((av.reverse ++ .ref o :: rest).map (aw_mv ad))) ⟨hx, hb, hml, hown, hts⟩ hM' hB ⟨aw_blind, va_recv hK.1 hP hcl hw9, fun U hU hW => ⟨rfl, by rw [hU], aw_K.warm hW hK, by rw [hU]; exact hP, hD⟩⟩ rfl (by rw [List.length_map]; exact hn) hL.1 (by simp [List.map_reverse, aw_mv]) (lv_room (by rw [aw_cats]; exact hw)) d ⟨hc.1, hc.2⟩
  refine aw_cont hr hS (fun v n1 h1 ad1 H1 locs1 hq hn1 had1 hP1 hD1 hS1 => ?_)
  obtain ⟨e9, hq⟩ := hq
  subst e9
  have e8 : ad1 = ad := funext fun k9 => had1 k9 (fun q => by omega)
  subst e8
  rw [aw_stk]
  exact k v h1 hq p e s m args below meth c H1 locs1 ls A ad1 ad0 X ⟨hn0, had, hP1, hD1, hS1, hL⟩
/-- instanceof -/
theorem aw_instY {o ci idx : Nat} {C nm : String} {T : u_T} {N : Nat} {fs : List Value} (hl : Cond.classLink own idx nm ∈ aw_gw) (hca : Cond.castable C nm ∈ aw_nw) (hcl : vwCl[ci]? = some (C, T, N)) (d : decode cc pc = .ok (.instanceof idx, 3)) (ho : o < n) (he : h o = .inr (ci, fs)) (k : AW l D tc own cc nL ret R n0 mc ms Q (pc + 3) L (.int 1 :: rest) n h cells slots) : AW l D tc own cc nL ret R n0 mc ms Q pc L (.ref o :: rest) n h cells slots := by
  intro p e s m args below meth c H locs ls A ad ad0 X Y
  have hw := aw_ws_at (tc := tc) (ad := ad) (h := h) ho
  rw [he] at hw
  exact va_instY X.1 X.2.1 X.2.2.2.2.1 (X.2.2.2.2.2.1 _ hl) (X.2.2.2.2.2.2.2.1.2.1 _ hca) (va_recv X.2.2.2.2.2.2.2.1.1 Y.2.2.1 hcl hw) d (k p e s m args below meth c H locs ls A ad ad0 X Y)
theorem aw_instS {o ci idx : Nat} {nm : String} {T : u_T} {N : Nat} {fs : List Value} (hl : Cond.classLink own idx nm ∈ aw_gw) (hcl : vwCl[ci]? = some (nm, T, N)) (d : decode cc pc = .ok (.instanceof idx, 3)) (ho : o < n) (he : h o = .inr (ci, fs)) (k : AW l D tc own cc nL ret R n0 mc ms Q (pc + 3) L (.int 1 :: rest) n h cells slots) : AW l D tc own cc nL ret R n0 mc ms Q pc L (.ref o :: rest) n h cells slots := by
  intro p e s m args below meth c H locs ls A ad ad0 X Y
  have hw := aw_ws_at (tc := tc) (ad := ad) (h := h) ho
  rw [he] at hw
  exact va_instS X.1 X.2.1 X.2.2.2.2.1 (X.2.2.2.2.2.1 _ hl) (X.2.2.2.2.2.2.2.1.1.1 ci _ hcl).2 (va_recv X.2.2.2.2.2.2.2.1.1 Y.2.2.1 hcl hw) d (k p e s m args below meth c H locs ls A ad ad0 X Y)
theorem aw_instN {o ci idx : Nat} {C nm : String} {T : u_T} {N : Nat} {fs : List Value} (hl : Cond.classLink own idx nm ∈ aw_gw) (hca : (C, nm) ∈ aw_nc) (hcl : vwCl[ci]? = some (C, T, N)) (d : decode cc pc = .ok (.instanceof idx, 3)) (ho : o < n) (he : h o = .inr (ci, fs)) (k : AW l D tc own cc nL ret R n0 mc ms Q (pc + 3) L (.int 0 :: rest) n h cells slots) : AW l D tc own cc nL ret R n0 mc ms Q pc L (.ref o :: rest) n h cells slots := by
  intro p e s m args below meth c H locs ls A ad ad0 X Y
  have hw := aw_ws_at (tc := tc) (ad := ad) (h := h) ho
  rw [he] at hw
  exact va_instNo X.1 X.2.1 X.2.2.2.2.1 (X.2.2.2.2.2.1 _ hl) (X.2.2.2.2.2.2.2.1.2.2 _ hca) (va_recv X.2.2.2.2.2.2.2.1.1 Y.2.2.1 hcl hw) d (k p e s m args below meth c H locs ls A ad ad0 X Y)
end PER

set_option maxRecDepth 100000 in
set_option maxHeartbeats 4000000 in
theorem c_X7_leave {l : Launch} {D : va_G} {tc : Nat → ClassId} (pk : Nat → Nat) (G : Nat → Option Nat) (I F : Nat → Nat → Int32) (n : Nat) (hn : 30 ≤ n) (x : Int32) : AM l D tc yX7_leave cX7_leave 2 none 0 0 0 0 [.ref 21, .int x] n (hC pk G I F) (fun v n1 h1 => n1 = n ∧ (v = none ∧ h1 = hC pk G (tr I x) F)) := by
  refine am_of (L := [some (.ref 21), some (.int x)]) (by decide +kernel) (Nat.le_of_ble_eq_true rfl) rfl ?_
  refine aw_aload_n dX7_leave_0 rfl rfl ?_
  refine aw_bipush (v := (31)) dX7_leave_1 (by decide) ?_
  refine aw_aload_n dX7_leave_3 rfl rfl ?_
  refine aw_get fd_X7_7_7 dX7_leave_4 (by omega) rfl rfl ?_
  refine aw_imul dX7_leave_7 ?_
  refine aw_iload_n dX7_leave_8 rfl rfl ?_
  refine aw_iadd dX7_leave_9 ?_
  refine aw_puti fp_X7_7_7 dX7_leave_10 (by omega) rfl rfl rfl (Nat.le_of_ble_eq_true rfl) rfl ?_
  refine aw_vret dX7_leave_13 (Nat.zero_le _) (Nat.zero_le _) ?_
  exact ⟨rfl, rfl, rfl⟩
set_option maxRecDepth 100000 in
set_option maxHeartbeats 4000000 in
theorem c_X1_kind {l : Launch} {D : va_G} {tc : Nat → ClassId} (o n : Nat) (h : aw_H) : AM l D tc yX1_kind cX1_kind 1 (some .int) 0 0 0 0 [.ref o] n h (fun v n1 h1 => n1 = n ∧ (v = some (.int 2) ∧ h1 = h)) := by
  refine am_of (L := [some (.ref o)]) (by decide +kernel) (Nat.le_of_ble_eq_true rfl) rfl ?_
  refine aw_iconst (v := 2) dX1_kind_0 (by decide) ?_
  refine aw_iret dX1_kind_1 (Nat.zero_le _) (Nat.zero_le _) ?_
  exact ⟨rfl, rfl, rfl⟩
set_option maxRecDepth 100000 in
set_option maxHeartbeats 4000000 in
theorem c_X3_kind {l : Launch} {D : va_G} {tc : Nat → ClassId} (o n : Nat) (h : aw_H) : AM l D tc yX3_kind cX3_kind 1 (some .int) 0 0 0 0 [.ref o] n h (fun v n1 h1 => n1 = n ∧ (v = some (.int 0) ∧ h1 = h)) := by
  refine am_of (L := [some (.ref o)]) (by decide +kernel) (Nat.le_of_ble_eq_true rfl) rfl ?_
  refine aw_iconst (v := 0) dX3_kind_0 (by decide) ?_
  refine aw_iret dX3_kind_1 (Nat.zero_le _) (Nat.zero_le _) ?_
  exact ⟨rfl, rfl, rfl⟩
set_option maxRecDepth 100000 in
set_option maxHeartbeats 4000000 in
theorem c_X4_kind {l : Launch} {D : va_G} {tc : Nat → ClassId} (o n : Nat) (h : aw_H) : AM l D tc yX4_kind cX4_kind 1 (some .int) 0 0 0 0 [.ref o] n h (fun v n1 h1 => n1 = n ∧ (v = some (.int 1) ∧ h1 = h)) := by
  refine am_of (L := [some (.ref o)]) (by decide +kernel) (Nat.le_of_ble_eq_true rfl) rfl ?_
  refine aw_iconst (v := 1) dX4_kind_0 (by decide) ?_
  refine aw_iret dX4_kind_1 (Nat.zero_le _) (Nat.zero_le _) ?_
  exact ⟨rfl, rfl, rfl⟩
set_option maxRecDepth 100000 in
set_option maxHeartbeats 4000000 in
theorem c_X3_plainTelling {l : Launch} {D : va_G} {tc : Nat → ClassId} (pk : Nat → Nat) (G : Nat → Option Nat) (I F : Nat → Nat → Int32) (n : Nat) (hn : 30 ≤ n) (j : Nat) (hj : j + 30 < n)  (hp : pKind (pk j)) : AM l D tc yX3_plainTelling cX3_plainTelling 2 (some .int) 1 21 0 0 [.ref (j + 30), .ref 21] n (hC pk G I F) (fun v n1 h1 => n1 = n ∧ (v = some (.int (I (j + 30) 1)) ∧ h1 = hC pk G (tr I 1) F)) := by
  refine am_of (L := [some (.ref (j + 30)), some (.ref 21)]) (by decide +kernel) (Nat.le_of_ble_eq_true rfl) rfl ?_
  refine aw_aload_n dX3_plainTelling_0 rfl rfl ?_
  refine aw_iconst (v := 1) dX3_plainTelling_1 (by decide) ?_
  refine aw_callV cw_X7_leave ml_X3_25 im_X7_leave sl_X7_X7_leave rfl (by omega) rfl (c_X7_leave pk G _ _ n hn _) ⟨Nat.le_of_ble_eq_true rfl, Nat.le_of_ble_eq_true rfl⟩ ⟨Nat.zero_le _, Nat.zero_le _⟩ rfl rfl (Nat.le_of_ble_eq_true rfl) dX3_plainTelling_2 ?_
  rintro _ _ ⟨rfl, rfl⟩
  refine aw_aload_n dX3_plainTelling_5 rfl rfl ?_
  refine aw_getP fd_X3_15_1 fd_X3_15_3 fd_X3_15_4 hp dX3_plainTelling_6 hj (he_per _) rfl ?_
  refine aw_iret dX3_plainTelling_9 (Nat.zero_le _) (Nat.zero_le _) ?_
  refine ⟨rfl, ?_, rfl⟩
  simp [tr_p]
set_option maxRecDepth 100000 in
set_option maxHeartbeats 4000000 in
theorem c_X3_heardAs {l : Launch} {D : va_G} {tc : Nat → ClassId} (pk : Nat → Nat) (G : Nat → Option Nat) (I F : Nat → Nat → Int32) (n : Nat) (hn : 30 ≤ n) (j : Nat) (hj : j + 30 < n)  (hp : pKind (pk j)) : AM l D tc yX3_heardAs cX3_heardAs 2 (some .int) 1 21 0 0 [.ref (j + 30), .ref 21] n (hC pk G I F) (fun v n1 h1 => n1 = n ∧ (v = some (.int (I (j + 30) 0)) ∧ h1 = hC pk G (tr I 4) F)) := by
  refine am_of (L := [some (.ref (j + 30)), some (.ref 21)]) (by decide +kernel) (Nat.le_of_ble_eq_true rfl) rfl ?_
  refine aw_aload_n dX3_heardAs_0 rfl rfl ?_
  refine aw_iconst (v := 4) dX3_heardAs_1 (by decide) ?_
  refine aw_callV cw_X7_leave ml_X3_25 im_X7_leave sl_X7_X7_leave rfl (by omega) rfl (c_X7_leave pk G _ _ n hn _) ⟨Nat.le_of_ble_eq_true rfl, Nat.le_of_ble_eq_true rfl⟩ ⟨Nat.zero_le _, Nat.zero_le _⟩ rfl rfl (Nat.le_of_ble_eq_true rfl) dX3_heardAs_2 ?_
  rintro _ _ ⟨rfl, rfl⟩
  refine aw_aload_n dX3_heardAs_5 rfl rfl ?_
  refine aw_getP fd_X3_9_1 fd_X3_9_3 fd_X3_9_4 hp dX3_heardAs_6 hj (he_per _) rfl ?_
  refine aw_iret dX3_heardAs_9 (Nat.zero_le _) (Nat.zero_le _) ?_
  refine ⟨rfl, ?_, rfl⟩
  simp [tr_p]
set_option maxRecDepth 100000 in
set_option maxHeartbeats 4000000 in
theorem c_X1_heardAs {l : Launch} {D : va_G} {tc : Nat → ClassId} (pk : Nat → Nat) (G : Nat → Option Nat) (I F : Nat → Nat → Int32) (n : Nat) (hn : 30 ≤ n) (j : Nat) (hj : j + 30 < n)  : AM l D tc yX1_heardAs cX1_heardAs 2 (some .int) 1 21 0 0 [.ref (j + 30), .ref 21] n (hC pk G I F) (fun v n1 h1 => n1 = n ∧ (v = some (.int 20) ∧ h1 = hC pk G (tr I 5) F)) := by
  refine am_of (L := [some (.ref (j + 30)), some (.ref 21)]) (by decide +kernel) (Nat.le_of_ble_eq_true rfl) rfl ?_
  refine aw_aload_n dX1_heardAs_0 rfl rfl ?_
  refine aw_iconst (v := 5) dX1_heardAs_1 (by decide) ?_
  refine aw_callV cw_X7_leave ml_X1_9 im_X7_leave sl_X7_X7_leave rfl (by omega) rfl (c_X7_leave pk G _ _ n hn _) ⟨Nat.le_of_ble_eq_true rfl, Nat.le_of_ble_eq_true rfl⟩ ⟨Nat.zero_le _, Nat.zero_le _⟩ rfl rfl (Nat.le_of_ble_eq_true rfl) dX1_heardAs_2 ?_
  rintro _ _ ⟨rfl, rfl⟩
  refine aw_bipush (v := (20)) dX1_heardAs_5 (by decide) ?_
  refine aw_iret dX1_heardAs_7 (Nat.zero_le _) (Nat.zero_le _) ?_
  exact ⟨rfl, rfl, rfl⟩
set_option maxRecDepth 100000 in
set_option maxHeartbeats 4000000 in
theorem c_X3_telling {l : Launch} {D : va_G} {tc : Nat → ClassId} (pk : Nat → Nat) (G : Nat → Option Nat) (I F : Nat → Nat → Int32) (n : Nat) (hn : 30 ≤ n) (j : Nat) (hj : j + 30 < n) (hc3 : pk j = 3) : AM l D tc yX3_telling cX3_telling 2 (some .int) 2 42 0 0 [.ref (j + 30), .ref 21] n (hC pk G I F) (fun v n1 h1 => n1 = n ∧ (v = some (.int (I (j + 30) 1)) ∧ h1 = hC pk G (tr I 1) F)) := by
  refine am_of (L := [some (.ref (j + 30)), some (.ref 21)]) (by decide +kernel) (Nat.le_of_ble_eq_true rfl) rfl ?_
  refine aw_aload_n dX3_telling_0 rfl rfl ?_
  refine aw_aload_n dX3_telling_1 rfl rfl ?_
  refine aw_callV cw_X3_plainTelling ml_X3_21 im_X3_plainTelling sl_X3_X3_plainTelling rfl hj (he_perc hc3) (c_X3_plainTelling pk G _ _ n hn j hj (Or.inr (Or.inl hc3))) ⟨Nat.le_of_ble_eq_true rfl, Nat.le_of_ble_eq_true rfl⟩ ⟨Nat.zero_le _, Nat.zero_le _⟩ rfl rfl (Nat.le_of_ble_eq_true rfl) dX3_telling_2 ?_
  rintro _ _ ⟨rfl, rfl⟩
  refine aw_iret dX3_telling_5 (Nat.zero_le _) (Nat.zero_le _) ?_
  exact ⟨rfl, rfl, rfl⟩
set_option maxRecDepth 100000 in
set_option maxHeartbeats 4000000 in
theorem c_X4_telling {l : Launch} {D : va_G} {tc : Nat → ClassId} (pk : Nat → Nat) (G : Nat → Option Nat) (I F : Nat → Nat → Int32) (n : Nat) (hn : 30 ≤ n) (j : Nat) (hj : j + 30 < n) (hcc : pk j = 1 ∨ pk j = 4) : AM l D tc yX4_telling cX4_telling 2 (some .int) 2 42 0 0 [.ref (j + 30), .ref 21] n (hC pk G I F) (fun v n1 h1 => n1 = n ∧ (v = some (.int (I (j + 30) 1 + 100)) ∧ h1 = hC pk G (tr (tr I 2) 1) F)) := by
  refine am_of (L := [some (.ref (j + 30)), some (.ref 21)]) (by decide +kernel) (Nat.le_of_ble_eq_true rfl) rfl ?_
  refine aw_aload_n dX4_telling_0 rfl rfl ?_
  refine aw_iconst (v := 2) dX4_telling_1 (by decide) ?_
  refine aw_callV cw_X7_leave ml_X4_9 im_X7_leave sl_X7_X7_leave rfl (by omega) rfl (c_X7_leave pk G _ _ n hn _) ⟨Nat.le_of_ble_eq_true rfl, Nat.le_of_ble_eq_true rfl⟩ ⟨Nat.zero_le _, Nat.zero_le _⟩ rfl rfl (Nat.le_of_ble_eq_true rfl) dX4_telling_2 ?_
  rintro _ _ ⟨rfl, rfl⟩
  refine aw_aload_n dX4_telling_5 rfl rfl ?_
  refine aw_aload_n dX4_telling_6 rfl rfl ?_
  rcases hcc with hc1 | hc1
  · refine aw_callO (x := ⟨"StepBack$Proud", "plainTelling", "(LStepBack$Trace;)I"⟩) (owner := RX3) cw_X3_plainTelling ml_X4_15 sa_X4_X3_plainTelling im_X3_plainTelling cd_X3_plainTelling im_X3_plainTelling so_X1_X4_plainTelling_X3_plainTelling ⟨by decide, by decide, by decide +kernel⟩ rfl hj (he_perc hc1) (c_X3_plainTelling pk G _ _ n hn j hj (Or.inl hc1)) ⟨Nat.le_of_ble_eq_true rfl, Nat.le_of_ble_eq_true rfl⟩ ⟨Nat.zero_le _, Nat.zero_le _⟩ rfl rfl (Nat.le_of_ble_eq_true rfl) dX4_telling_7 ?_
    rintro _ _ ⟨rfl, rfl⟩
    refine aw_bipush (v := (100)) dX4_telling_10 (by decide) ?_
    refine aw_iadd dX4_telling_12 ?_
    refine aw_iret dX4_telling_13 (Nat.zero_le _) (Nat.zero_le _) ?_
    refine ⟨rfl, ?_, rfl⟩
    simp [tr_p]
  · refine aw_callO (x := ⟨"StepBack$Proud", "plainTelling", "(LStepBack$Trace;)I"⟩) (owner := RX3) cw_X3_plainTelling ml_X4_15 sa_X4_X3_plainTelling im_X3_plainTelling cd_X3_plainTelling im_X3_plainTelling so_X4_X4_plainTelling_X3_plainTelling ⟨by decide, by decide, by decide +kernel⟩ rfl hj (he_perc hc1) (c_X3_plainTelling pk G _ _ n hn j hj (Or.inr (Or.inr hc1))) ⟨Nat.le_of_ble_eq_true rfl, Nat.le_of_ble_eq_true rfl⟩ ⟨Nat.zero_le _, Nat.zero_le _⟩ rfl rfl (Nat.le_of_ble_eq_true rfl) dX4_telling_7 ?_
    rintro _ _ ⟨rfl, rfl⟩
    refine aw_bipush (v := (100)) dX4_telling_10 (by decide) ?_
    refine aw_iadd dX4_telling_12 ?_
    refine aw_iret dX4_telling_13 (Nat.zero_le _) (Nat.zero_le _) ?_
    refine ⟨rfl, ?_, rfl⟩
    simp [tr_p]
set_option maxRecDepth 100000 in
set_option maxHeartbeats 4000000 in
theorem c_X1_telling {l : Launch} {D : va_G} {tc : Nat → ClassId} (pk : Nat → Nat) (G : Nat → Option Nat) (I F : Nat → Nat → Int32) (n : Nat) (hn : 30 ≤ n) (j : Nat) (hj : j + 30 < n) (hc1 : pk j = 1) : AM l D tc yX1_telling cX1_telling 3 (some .int) 3 63 0 0 [.ref (j + 30), .ref 21] n (hC pk G I F) (fun v n1 h1 => n1 = n ∧ (v = some (.int (I (j + 30) 1 + 100 + I (j + 30) 1)) ∧ h1 = hC pk G (tr (tr (tr (tr I 3) 2) 1) 1) F)) := by
  refine am_of (L := [some (.ref (j + 30)), some (.ref 21), none]) (by decide +kernel) (Nat.le_of_ble_eq_true rfl) rfl ?_
  refine aw_aload_n dX1_telling_0 rfl rfl ?_
  refine aw_iconst (v := 3) dX1_telling_1 (by decide) ?_
  refine aw_callV cw_X7_leave ml_X1_9 im_X7_leave sl_X7_X7_leave rfl (by omega) rfl (c_X7_leave pk G _ _ n hn _) ⟨Nat.le_of_ble_eq_true rfl, Nat.le_of_ble_eq_true rfl⟩ ⟨Nat.zero_le _, Nat.zero_le _⟩ rfl rfl (Nat.le_of_ble_eq_true rfl) dX1_telling_2 ?_
  rintro _ _ ⟨rfl, rfl⟩
  refine aw_aload_n dX1_telling_5 rfl rfl ?_
  refine aw_aload_n dX1_telling_6 rfl rfl ?_
  refine aw_super cw_X4_telling ml_X1_15 sa_X4_X4_telling su_X1 im_X4_telling (by decide) rfl hj (he_perc hc1) (c_X4_telling pk G _ _ n hn j hj (Or.inl hc1)) ⟨Nat.le_of_ble_eq_true rfl, Nat.le_of_ble_eq_true rfl⟩ ⟨Nat.zero_le _, Nat.zero_le _⟩ rfl rfl (Nat.le_of_ble_eq_true rfl) dX1_telling_7 ?_
  rintro _ _ ⟨rfl, rfl⟩
  refine aw_istore_n dX1_telling_10 rfl (by decide) rfl ?_
  refine aw_iload_n dX1_telling_11 rfl rfl ?_
  refine aw_aload_n dX1_telling_12 rfl rfl ?_
  refine aw_aload_n dX1_telling_13 rfl rfl ?_
  refine aw_callO (x := ⟨"StepBack$Lame", "plainTelling", "(LStepBack$Trace;)I"⟩) (owner := RX3) cw_X3_plainTelling ml_X1_19 sa_X1_X3_plainTelling im_X3_plainTelling cd_X3_plainTelling im_X3_plainTelling so_X1_X1_plainTelling_X3_plainTelling ⟨by decide, by decide, by decide +kernel⟩ rfl hj (he_perc hc1) (c_X3_plainTelling pk G _ _ n hn j hj (Or.inl hc1)) ⟨Nat.le_of_ble_eq_true rfl, Nat.le_of_ble_eq_true rfl⟩ ⟨Nat.zero_le _, Nat.zero_le _⟩ rfl rfl (Nat.le_of_ble_eq_true rfl) dX1_telling_14 ?_
  rintro _ _ ⟨rfl, rfl⟩
  refine aw_iadd dX1_telling_17 ?_
  refine aw_iret dX1_telling_18 (Nat.zero_le _) (Nat.zero_le _) ?_
  refine ⟨rfl, ?_, rfl⟩
  simp [tr_p]
def sTell (c : Nat) (x : Int32) : Int32 := if c = 3 then x else if c = 4 then x + 100 else x + 100 + x
def trTell (c : Nat) (I : Nat → Nat → Int32) : Nat → Nat → Int32 := if c = 3 then tr I 1 else if c = 4 then tr (tr I 2) 1 else tr (tr (tr (tr I 3) 2) 1) 1
section PERC
variable {l : Launch} {D : va_G} {tc : Nat → ClassId} {own : String} {cc : ByteArray} {nL : Nat} {ret : Option FieldType} {R : Room} {n0 mc ms : Nat} {Q : Option Value → Nat → aw_H → Prop} {pc : Nat} {L : List (Option Value)} {st rest : List Value} {n : Nat} {h : aw_H} {cells slots : Nat} {pk : Nat → Nat} {G : Nat → Option Nat} {I F : Nat → Nat → Int32}
set_option maxRecDepth 100000 in
set_option maxHeartbeats 4000000 in
theorem aw_kindP {j : Nat} (hp : pKind (pk j)) (hj : j + 30 < n) (hR : 1 ≤ R.frames ∧ 20 ≤ R.locals) (hc : cells ≤ R.cells ∧ slots ≤ R.slots) (hw : (rest.map fun v => v.category).sum ≤ 8) (d : decode cc pc = .ok (.invokevirtual 91, 3)) (k : AW l D tc RX8 cc nL ret R n0 mc ms Q (pc + 3) L (.int (kd (pk j)) :: rest) n (hC pk G I F) cells slots) : AW l D tc RX8 cc nL ret R n0 mc ms Q pc L (.ref (j + 30) :: rest) n (hC pk G I F) cells slots := by
  rcases hp with q | q | q
  · refine aw_callO (x := yX3_kind) (owner := RX3) (av := []) cw_X1_kind ml_X8_91 sa_X3_X3_kind im_X3_kind cd_X3_kind im_X1_kind so_X1_X3_kind_X1_kind ⟨by decide, by decide, by decide +kernel⟩ rfl hj (he_perc q) (c_X1_kind _ _ _) hR hc rfl rfl hw d ?_
    rintro _ _ ⟨rfl, rfl⟩
    rw [q] at k
    exact k
  · refine aw_callV (av := []) cw_X3_kind ml_X8_91 im_X3_kind sl_X3_X3_kind rfl hj (he_perc q) (c_X3_kind _ _ _) hR hc rfl rfl hw d ?_
    rintro _ _ ⟨rfl, rfl⟩
    rw [q] at k
    exact k
  · refine aw_callO (x := yX3_kind) (owner := RX3) (av := []) cw_X4_kind ml_X8_91 sa_X3_X3_kind im_X3_kind cd_X3_kind im_X4_kind so_X4_X3_kind_X4_kind ⟨by decide, by decide, by decide +kernel⟩ rfl hj (he_perc q) (c_X4_kind _ _ _) hR hc rfl rfl hw d ?_
    rintro _ _ ⟨rfl, rfl⟩
    rw [q] at k
    exact k
set_option maxRecDepth 100000 in
set_option maxHeartbeats 4000000 in
theorem aw_tellP (hn : 30 ≤ n) {j : Nat} (hp : pKind (pk j)) (hj : j + 30 < n) (hR : 4 ≤ R.frames ∧ 85 ≤ R.locals) (hc : cells ≤ R.cells ∧ slots ≤ R.slots) (hw : (rest.map fun v => v.category).sum ≤ 8) (d : decode cc pc = .ok (.invokevirtual 241, 3)) (k : AW l D tc RX8 cc nL ret R n0 mc ms Q (pc + 3) L (.int (sTell (pk j) (I (j + 30) 1)) :: rest) n (hC pk G (trTell (pk j) I) F) cells slots) : AW l D tc RX8 cc nL ret R n0 mc ms Q pc L (.ref 21 :: .ref (j + 30) :: rest) n (hC pk G I F) cells slots := by
  rcases hp with q | q | q
  · refine aw_callO (x := yX3_telling) (owner := RX3) (av := [.ref 21]) cw_X1_telling ml_X8_241 sa_X3_X3_telling im_X3_telling cd_X3_telling im_X1_telling so_X1_X3_telling_X1_telling ⟨by decide, by decide, by decide +kernel⟩ rfl hj (he_perc q) (c_X1_telling pk G _ _ n hn j hj q) ⟨by omega, by omega⟩ hc rfl rfl hw d ?_
    rintro _ _ ⟨rfl, rfl⟩
    rw [q] at k
    exact k
  · refine aw_callV (av := [.ref 21]) cw_X3_telling ml_X8_241 im_X3_telling sl_X3_X3_telling rfl hj (he_perc q) (c_X3_telling pk G _ _ n hn j hj q) ⟨by omega, by omega⟩ hc rfl rfl hw d ?_
    rintro _ _ ⟨rfl, rfl⟩
    rw [q] at k
    exact k
  · refine aw_callO (x := yX3_telling) (owner := RX3) (av := [.ref 21]) cw_X4_telling ml_X8_241 sa_X3_X3_telling im_X3_telling cd_X3_telling im_X4_telling so_X4_X3_telling_X4_telling ⟨by decide, by decide, by decide +kernel⟩ rfl hj (he_perc q) (c_X4_telling pk G _ _ n hn j hj (Or.inr q)) ⟨by omega, by omega⟩ hc rfl rfl hw d ?_
    rintro _ _ ⟨rfl, rfl⟩
    rw [q] at k
    exact k
def sHear (c : Nat) (x : Int32) : Int32 := if c = 1 then 20 else x
def trHear (c : Nat) (I : Nat → Nat → Int32) : Nat → Nat → Int32 := if c = 1 then tr I 5 else tr I 4
set_option maxRecDepth 100000 in
set_option maxHeartbeats 4000000 in
theorem aw_hearP (hn : 30 ≤ n) {j : Nat} (hp : pKind (pk j)) (hj : j + 30 < n) (hR : 2 ≤ R.frames ∧ 42 ≤ R.locals) (hc : cells ≤ R.cells ∧ slots ≤ R.slots) (hw : (rest.map fun v => v.category).sum ≤ 8) (d : decode cc pc = .ok (.invokevirtual 245, 3)) (k : AW l D tc RX8 cc nL ret R n0 mc ms Q (pc + 3) L (.int (sHear (pk j) (I (j + 30) 0)) :: rest) n (hC pk G (trHear (pk j) I) F) cells slots) : AW l D tc RX8 cc nL ret R n0 mc ms Q pc L (.ref 21 :: .ref (j + 30) :: rest) n (hC pk G I F) cells slots := by
  rcases hp with q | q | q
  · refine aw_callO (x := yX3_heardAs) (owner := RX3) (av := [.ref 21]) cw_X1_heardAs ml_X8_245 sa_X3_X3_heardAs im_X3_heardAs cd_X3_heardAs im_X1_heardAs so_X1_X3_heardAs_X1_heardAs ⟨by decide, by decide, by decide +kernel⟩ rfl hj (he_perc q) (c_X1_heardAs pk G _ _ n hn j hj) ⟨by omega, by omega⟩ hc rfl rfl hw d ?_
    rintro _ _ ⟨rfl, rfl⟩
    rw [q] at k
    exact k
  · refine aw_callV (av := [.ref 21]) cw_X3_heardAs ml_X8_245 im_X3_heardAs sl_X3_X3_heardAs rfl hj (he_perc q) (c_X3_heardAs pk G _ _ n hn j hj (Or.inr (Or.inl q))) ⟨by omega, by omega⟩ hc rfl rfl hw d ?_
    rintro _ _ ⟨rfl, rfl⟩
    rw [q] at k
    exact k
  · refine aw_callV (av := [.ref 21]) cw_X3_heardAs ml_X8_245 im_X3_heardAs sl_X4_X3_heardAs rfl hj (he_perc q) (c_X3_heardAs pk G _ _ n hn j hj (Or.inr (Or.inr q))) ⟨by omega, by omega⟩ hc rfl rfl hw d ?_
    rintro _ _ ⟨rfl, rfl⟩
    rw [q] at k
    exact k
end PERC
end
section
/-! loops by number; what is owed -/
theorem lp_ge {i N : Nat} (hN : N < 2 ^ 31) (hi : i ≤ N) (c : nI N ≤ nI i) : i = N := by
  rcases Nat.lt_or_ge i N with q | q
  · exact absurd c (nI_ge q hN)
  · omega
theorem lp_lt {i N : Nat} (hi : i < 2 ^ 31) (c : ¬ nI N ≤ nI i) : i < N := by
  rcases Nat.lt_or_ge i N with q | q
  · exact q
  · exact absurd (nI_le q hi) c
theorem sW_ex {x : Int32} {m : Nat} (hm : m < 2 ^ 30) (h : sW x 0 (nI m) = true) : ∃ a : Nat, a ≤ m ∧ x = nI a := by
  unfold sW at h
  simp only [Bool.and_eq_true, Bool.not_eq_true', decide_eq_false_iff_not] at h
  obtain ⟨a, ha, rfl⟩ := nI_of h.1
  refine ⟨a, ?_, rfl⟩
  rcases Nat.lt_or_ge m a with q | q
  · exact absurd (nI_lt q ha) h.2
  · exact q
theorem sW_nI {a m : Nat} (hm : m < 2 ^ 30) (h : a ≤ m) : sW (nI a) 0 (nI m) = true := by
  unfold sW
  simp only [Bool.and_eq_true, Bool.not_eq_true', decide_eq_false_iff_not]
  exact ⟨nI_pos (by omega), nI_nlt h (by omega)⟩
def sumN (f : Nat → Int32) : Nat → Int32
  | 0 => 0
  | n + 1 => sumN f n + f n
def sNum (p q : Int32) : Bool := sW p 0 5 && sW q 0 5
theorem sNum_ex {p q : Int32} (h : sNum p q = true) : ∃ a b : Nat, a < 6 ∧ b < 6 ∧ p = nI a ∧ q = nI b := by
  unfold sNum at h
  rw [Bool.and_eq_true] at h
  obtain ⟨a, ha, rfl⟩ := sW_ex (m := 5) (by decide) h.1
  obtain ⟨b, hb, rfl⟩ := sW_ex (m := 5) (by decide) h.2
  exact ⟨a, b, by omega, by omega, rfl, rfl⟩
def sBtw (F : Nat → Nat → Int32) (p q : Int32) : Int32 := if sNum p q then F (9 + p.toNatClampNeg) q.toNatClampNeg else 0
def sBy (F : Nat → Nat → Int32) (p : Int32) : Int32 := sumN (fun q => sBtw F p (nI q)) 6
def sTo (F : Nat → Nat → Int32) (p : Int32) : Int32 := sumN (fun q => sBtw F (nI q) p) 6
def sBal (F : Nat → Nat → Int32) (p : Int32) : Int32 := sTo F p - sBy F p
def sSteps (F : Nat → Nat → Int32) : Int32 := sumN (fun p => if 0 < sBal F (nI p) then sBal F (nI p) else 0) 6
def adF (F : Nat → Nat → Int32) (p q s : Int32) : Nat → Nat → Int32 := if sNum p q then st_F F (9 + p.toNatClampNeg) (upd (F (9 + p.toNatClampNeg)) q.toNatClampNeg (F (9 + p.toNatClampNeg) q.toNatClampNeg + s)) else F
def fgF (F : Nat → Nat → Int32) (n : Nat) : Nat → Nat → Int32 := fun a => if 9 ≤ a ∧ a < 9 + n then zr (F a) 6 else F a
theorem fgF_0 (F : Nat → Nat → Int32) : fgF F 0 = F := by
  funext a
  unfold fgF
  rw [if_neg (by omega)]
theorem fgF_s (F : Nat → Nat → Int32) (n : Nat) : st_F (fgF F n) (9 + n) (zr (F (9 + n)) 6) = fgF F (n + 1) := by
  funext a
  unfold st_F fgF
  by_cases e : a = 9 + n
  · subst e
    rw [if_pos rfl, if_pos (by omega)]
  · rw [if_neg e]
    by_cases q : 9 ≤ a ∧ a < 9 + n
    · rw [if_pos q, if_pos (by omega)]
    · rw [if_neg q, if_neg (by omega)]
theorem and_in {m : Nat} (hm : m < 64) (y : Int32) : vp_in (nI m &&& y) 64 := by
  have e1 : nI m &&& 63 = nI m := by
    have := pk_andN (n := m) (by omega) (m := 63) 6 (by decide)
    rw [this, Nat.mod_eq_of_lt (by omega)]
  have e2 : nI m &&& y = (nI m &&& y) &&& 63 := by
    rw [Int32.and_assoc, Int32.and_comm y 63, ← Int32.and_assoc, e1]
  rw [e2]
  exact pk_andIn _ 6 (by decide) (by decide)
theorem clr_in (m : Nat) (hm : m < 64) (p : Nat) (_hp : p < 6) : vp_in (nI m &&& (sBit (nI p) ^^^ (-1))) 64 := and_in hm _
theorem vp_63 : vp_in ((64 : Int32) - 1) 64 := by
  unfold vp_in
  decide
theorem vp_0 {N : Nat} (h : 0 < N) (h2 : N < 2 ^ 31) : vp_in 0 N := vp_in_nI (n := 0) h h2
def sClr (set : Int32) (p : Int32) : Int32 := set &&& (sBit p ^^^ (-1))
def mgN (g b : Nat → Int32) (set : Int32) : Nat → Int32 × Int32
  | 0 => (0, 0)
  | p + 1 => if sHas set (nI p) then (if (mgN g b set p).1 < g (sClr set (nI p)).toNatClampNeg then g (sClr set (nI p)).toNatClampNeg else (mgN g b set p).1, (mgN g b set p).2 + b p) else mgN g b set p
def sMg (g b : Nat → Int32) (set : Int32) : Int32 := if (mgN g b set 6).2 = 0 then (mgN g b set 6).1 + 1 else (mgN g b set 6).1
def gpN (g b : Nat → Int32) : Nat → Nat → Int32
  | 0 => upd g 0 0
  | k + 1 => upd (gpN g b k) (k + 1) (sMg (gpN g b k) b (nI (k + 1)))
def blN (F : Nat → Nat → Int32) (f : Nat → Int32) (n : Nat) : Nat → Int32 := fun j => if j < n then sBal F (nI j) else f j
theorem blN_0 (F : Nat → Nat → Int32) (f : Nat → Int32) : blN F f 0 = f := by funext j; simp [blN]
theorem blN_s (F : Nat → Nat → Int32) (f : Nat → Int32) (i : Nat) : upd (blN F f i) i (sBal F (nI i)) = blN F f (i + 1) := by
  funext j
  unfold upd blN
  by_cases e : j = i
  · subst e; simp
  · by_cases q : j < i
    · simp [e, q, Nat.lt_succ_of_lt q]
    · simp [e, q, show ¬ j < i + 1 by omega]
section AAR
variable {l : Launch} {D : va_G} {tc : Nat → ClassId} {own : String} {cc : ByteArray} {nL : Nat} {ret : Option FieldType} {R : Room} {n0 mc ms : Nat} {Q : Option Value → Nat → aw_H → Prop} {pc : Nat} {L : List (Option Value)} {st rest : List Value} {n : Nat} {h : aw_H} {cells slots : Nat}
theorem aw_aaldR2 {o len r : Nat} {f : Nat → Option Nat} {i : Int32} (d : decode cc pc = .ok (.aaload, 1)) (ho : o < n) (he : h o = .inl (2, len, .inr (.inr (.inr (.inr f))))) (hin : vp_in i len) (hr : f i.toNatClampNeg = some r) (k : AW l D tc own cc nL ret R n0 mc ms Q (pc + 1) L (.ref r :: rest) n h cells slots) : AW l D tc own cc nL ret R n0 mc ms Q pc L (.int i :: .ref o :: rest) n h cells slots := aw_aald2 d ho he hin (by rw [hr]; exact k)
theorem aw_aaldR3 {o len r : Nat} {f : Nat → Option Nat} {i : Int32} (d : decode cc pc = .ok (.aaload, 1)) (ho : o < n) (he : h o = .inl (3, len, .inr (.inr (.inr (.inr f))))) (hin : vp_in i len) (hr : f i.toNatClampNeg = some r) (k : AW l D tc own cc nL ret R n0 mc ms Q (pc + 1) L (.ref r :: rest) n h cells slots) : AW l D tc own cc nL ret R n0 mc ms Q pc L (.int i :: .ref o :: rest) n h cells slots := aw_aald3 d ho he hin (by rw [hr]; exact k)
theorem aw_aaldR4 {o len r : Nat} {f : Nat → Option Nat} {i : Int32} (d : decode cc pc = .ok (.aaload, 1)) (ho : o < n) (he : h o = .inl (4, len, .inr (.inr (.inr (.inr f))))) (hin : vp_in i len) (hr : f i.toNatClampNeg = some r) (k : AW l D tc own cc nL ret R n0 mc ms Q (pc + 1) L (.ref r :: rest) n h cells slots) : AW l D tc own cc nL ret R n0 mc ms Q pc L (.int i :: .ref o :: rest) n h cells slots := aw_aald4 d ho he hin (by rw [hr]; exact k)
end AAR
theorem ow_at {a : Nat} (ha : a < 6) : (fun k => if k < 6 then some (9 + k) else none) (nI a).toNatClampNeg = some (9 + a) := by
  rw [nI_clamp (by omega)]
  exact if_pos ha

set_option maxRecDepth 100000 in
set_option maxHeartbeats 4000000 in
theorem c_X0_areNumbers {l : Launch} {D : va_G} {tc : Nat → ClassId} (x y : Int32) (n : Nat) (h : aw_H) : AM l D tc yX0_areNumbers cX0_areNumbers 2 (some .boolean) 1 22 0 0 [.int x, .int y] n h (fun v n1 h1 => n1 = n ∧ (v = some (.int (b2i (sNum x y))) ∧ h1 = h)) := by
  refine am_of (L := [some (.int x), some (.int y)]) (by decide +kernel) (Nat.le_of_ble_eq_true rfl) rfl ?_
  refine aw_iload_n dX0_areNumbers_0 rfl rfl ?_
  refine aw_iconst (v := 0) dX0_areNumbers_1 (by decide) ?_
  refine aw_iconst (v := 5) dX0_areNumbers_2 (by decide) ?_
  refine aw_callSN (host := RX8) cw_X8_isWithin (by decide +kernel) sm_X8_isWithin (c_X8_isWithin _ _ _ _ _) ⟨Nat.le_of_ble_eq_true rfl, Nat.le_of_ble_eq_true rfl⟩ ⟨Nat.zero_le _, Nat.zero_le _⟩ rfl rfl (Nat.le_of_ble_eq_true rfl) dX0_areNumbers_3 ?_
  rintro _ _ ⟨rfl, rfl⟩
  refine aw_if_eq (tgt := 22) dX0_areNumbers_6 (by decide) (fun c_6 => ?_) (fun c_6 => ?_)
  · refine aw_iconst (v := 0) dX0_areNumbers_22 (by decide) ?_
    refine aw_zret dX0_areNumbers_23 (by first | rfl | exact aw_nb _) (Nat.zero_le _) (Nat.zero_le _) ?_
    refine ⟨rfl, ?_, rfl⟩
    simp only [b2i_eq0, b2i_ne0] at *
    simp [b2i, sNum, *]
  · refine aw_iload_n dX0_areNumbers_9 rfl rfl ?_
    refine aw_iconst (v := 0) dX0_areNumbers_10 (by decide) ?_
    refine aw_iconst (v := 5) dX0_areNumbers_11 (by decide) ?_
    refine aw_callSN (host := RX8) cw_X8_isWithin (by decide +kernel) sm_X8_isWithin (c_X8_isWithin _ _ _ _ _) ⟨Nat.le_of_ble_eq_true rfl, Nat.le_of_ble_eq_true rfl⟩ ⟨Nat.zero_le _, Nat.zero_le _⟩ rfl rfl (Nat.le_of_ble_eq_true rfl) dX0_areNumbers_12 ?_
    rintro _ _ ⟨rfl, rfl⟩
    refine aw_if_eq (tgt := 22) dX0_areNumbers_15 (by decide) (fun c_15 => ?_) (fun c_15 => ?_)
    · refine aw_iconst (v := 0) dX0_areNumbers_22 (by decide) ?_
      refine aw_zret dX0_areNumbers_23 (by first | rfl | exact aw_nb _) (Nat.zero_le _) (Nat.zero_le _) ?_
      refine ⟨rfl, ?_, rfl⟩
      simp only [b2i_eq0, b2i_ne0] at *
      simp [b2i, sNum, *]
    · refine aw_iconst (v := 1) dX0_areNumbers_18 (by decide) ?_
      refine aw_goto (tgt := 23) dX0_areNumbers_19 (by decide) ?_
      refine aw_zret dX0_areNumbers_23 (by first | rfl | exact aw_nb _) (Nat.zero_le _) (Nat.zero_le _) ?_
      refine ⟨rfl, ?_, rfl⟩
      simp only [b2i_eq0, b2i_ne0] at *
      simp [b2i, sNum, *]
set_option maxRecDepth 100000 in
set_option maxHeartbeats 4000000 in
theorem c_X0_between {l : Launch} {D : va_G} {tc : Nat → ClassId} (pk : Nat → Nat) (G : Nat → Option Nat) (I F : Nat → Nat → Int32) (n : Nat) (hn : 30 ≤ n) (x y : Int32) : AM l D tc yX0_between cX0_between 3 (some .int) 2 43 0 0 [.ref 7, .int x, .int y] n (hC pk G I F) (fun v n1 h1 => n1 = n ∧ (v = some (.int (sBtw F x y)) ∧ h1 = (hC pk G I F))) := by
  refine am_of (L := [some (.ref 7), some (.int x), some (.int y)]) (by decide +kernel) (Nat.le_of_ble_eq_true rfl) rfl ?_
  refine aw_iload_n dX0_between_0 rfl rfl ?_
  refine aw_iload_n dX0_between_1 rfl rfl ?_
  refine aw_callS cw_X0_areNumbers ml_X0_27 sm_X0_areNumbers (c_X0_areNumbers _ _ _ _) ⟨Nat.le_of_ble_eq_true rfl, Nat.le_of_ble_eq_true rfl⟩ ⟨Nat.zero_le _, Nat.zero_le _⟩ rfl rfl (Nat.le_of_ble_eq_true rfl) dX0_between_2 ?_
  rintro _ _ ⟨rfl, rfl⟩
  refine aw_if_eq (tgt := 19) dX0_between_5 (by decide) (fun c_5 => ?_) (fun c_5 => ?_)
  · refine aw_iconst (v := 0) dX0_between_19 (by decide) ?_
    refine aw_iret dX0_between_20 (Nat.zero_le _) (Nat.zero_le _) ?_
    refine ⟨rfl, ?_, rfl⟩
    first | rw [sBtw, if_neg (by rw [(b2i_eq0 _).mp c_5]; decide)] | (rw [sBtw, if_pos hN, nI_clamp (n := a) (by omega)])
  · have hN := (b2i_ne0 _).mp c_5
    obtain ⟨a, b, ha, hb, rfl, rfl⟩ := sNum_ex hN
    refine aw_aload_n dX0_between_8 rfl rfl ?_
    refine aw_get fd_X0_11_0 dX0_between_9 (by omega) rfl rfl ?_
    refine aw_iload_n dX0_between_12 rfl rfl ?_
    refine aw_aaldR4 dX0_between_13 (by omega) rfl (vp_in_nI ha (by decide)) (ow_at ha) ?_
    refine aw_iload_n dX0_between_14 rfl rfl ?_
    refine aw_iald dX0_between_15 (by omega) (entC_owed _ _ ha _ _) (vp_in_nI hb (by decide)) ?_
    refine aw_goto (tgt := 20) dX0_between_16 (by decide) ?_
    refine aw_iret dX0_between_20 (Nat.zero_le _) (Nat.zero_le _) ?_
    refine ⟨rfl, ?_, rfl⟩
    first | rw [sBtw, if_neg (by rw [(b2i_eq0 _).mp c_5]; decide)] | (rw [sBtw, if_pos hN, nI_clamp (n := a) (by omega)])
set_option maxRecDepth 100000 in
set_option maxHeartbeats 4000000 in
theorem c_X0_add {l : Launch} {D : va_G} {tc : Nat → ClassId} (pk : Nat → Nat) (G : Nat → Option Nat) (I F : Nat → Nat → Int32) (n : Nat) (hn : 30 ≤ n) (x y s : Int32) : AM l D tc yX0_add cX0_add 4 none 2 43 0 0 [.ref 7, .int x, .int y, .int s] n (hC pk G I F) (fun v n1 h1 => n1 = n ∧ (v = none ∧ h1 = hC pk G I (adF F x y s))) := by
  refine am_of (L := [some (.ref 7), some (.int x), some (.int y), some (.int s)]) (by decide +kernel) (Nat.le_of_ble_eq_true rfl) rfl ?_
  refine aw_iload_n dX0_add_0 rfl rfl ?_
  refine aw_iload_n dX0_add_1 rfl rfl ?_
  refine aw_callS cw_X0_areNumbers ml_X0_27 sm_X0_areNumbers (c_X0_areNumbers _ _ _ _) ⟨Nat.le_of_ble_eq_true rfl, Nat.le_of_ble_eq_true rfl⟩ ⟨Nat.zero_le _, Nat.zero_le _⟩ rfl rfl (Nat.le_of_ble_eq_true rfl) dX0_add_2 ?_
  rintro _ _ ⟨rfl, rfl⟩
  refine aw_if_eq (tgt := 20) dX0_add_5 (by decide) (fun c_5 => ?_) (fun c_5 => ?_)
  · refine aw_vret dX0_add_20 (Nat.zero_le _) (Nat.zero_le _) ?_
    refine ⟨rfl, rfl, ?_⟩
    first | rw [adF, if_neg (by rw [(b2i_eq0 _).mp c_5]; decide)] | (rw [adF, if_pos hN, nI_clamp (n := a) (by omega)])
  · have hN := (b2i_ne0 _).mp c_5
    obtain ⟨a, b, ha, hb, rfl, rfl⟩ := sNum_ex hN
    refine aw_aload_n dX0_add_8 rfl rfl ?_
    refine aw_get fd_X0_11_0 dX0_add_9 (by omega) rfl rfl ?_
    refine aw_iload_n dX0_add_12 rfl rfl ?_
    refine aw_aaldR4 dX0_add_13 (by omega) rfl (vp_in_nI ha (by decide)) (ow_at ha) ?_
    refine aw_iload_n dX0_add_14 rfl rfl ?_
    refine aw_dup2 dX0_add_15 rfl rfl ?_
    refine aw_iald dX0_add_16 (by omega) (entC_owed _ _ ha _ _) (vp_in_nI hb (by decide)) ?_
    refine aw_iload_n dX0_add_17 rfl rfl ?_
    refine aw_iadd dX0_add_18 ?_
    refine aw_iasti dX0_add_19 (by omega) (entC_owed _ _ ha _ _) (fun _ => entC_owed _ _ ha _ _) (vp_in_nI hb (by decide)) ?_
    refine aw_vret dX0_add_20 (Nat.zero_le _) (Nat.zero_le _) ?_
    refine ⟨rfl, rfl, ?_⟩
    first | rw [adF, if_neg (by rw [(b2i_eq0 _).mp c_5]; decide)] | (rw [adF, if_pos hN, nI_clamp (n := a) (by omega)])
set_option maxRecDepth 100000 in
set_option maxHeartbeats 4000000 in
theorem lp_X0_owedBy {l : Launch} {D : va_G} {tc : Nat → ClassId} (pk : Nat → Nat) (G : Nat → Option Nat) (I F : Nat → Nat → Int32) (n : Nat) (hn : 30 ≤ n) (x : Int32) : ∀ (m i : Nat), i + m = 6 → AW l D tc yX0_owedBy.cls cX0_owedBy 4 (some .int) { frames := 3, cells := 0, slots := 0, locals := 65 } n 0 0 (fun v n1 h1 => n1 = n ∧ (v = some (.int (sBy F x)) ∧ h1 = (hC pk G I F))) 4 [some (.ref 7), some (.int x), some (.int (sumN (fun q => sBtw F x (nI q)) i)), some (.int (nI i))] [] n (hC pk G I F) 0 0 := by
  intro m
  induction m using Nat.strongRecOn with
  | _ m ih =>
    intro i hi
    refine aw_iload_n dX0_owedBy_4 rfl rfl ?_
    refine aw_bipush (v := (6)) dX0_owedBy_5 (by decide) ?_
    refine aw_icmp_ge (tgt := 25) dX0_owedBy_7 (by decide) (fun c_7 => ?_) (fun c_7 => ?_)
    · have hi6 := lp_ge (N := 6) (by decide) (by omega) c_7
      subst hi6
      refine aw_iload_n dX0_owedBy_25 rfl rfl ?_
      refine aw_iret dX0_owedBy_26 (Nat.zero_le _) (Nat.zero_le _) ?_
      exact ⟨rfl, rfl, rfl⟩
    · have hi6 := lp_lt (N := 6) (by omega) c_7
      refine aw_iload_n dX0_owedBy_10 rfl rfl ?_
      refine aw_aload_n dX0_owedBy_11 rfl rfl ?_
      refine aw_iload_n dX0_owedBy_12 rfl rfl ?_
      refine aw_iload_n dX0_owedBy_13 rfl rfl ?_
      refine aw_callV cw_X0_between ml_X0_31 im_X0_between sl_X0_X0_between rfl (by omega) rfl (c_X0_between pk G _ _ n hn _ _) ⟨Nat.le_of_ble_eq_true rfl, Nat.le_of_ble_eq_true rfl⟩ ⟨Nat.zero_le _, Nat.zero_le _⟩ rfl rfl (Nat.le_of_ble_eq_true rfl) dX0_owedBy_14 ?_
      rintro _ _ ⟨rfl, rfl⟩
      refine aw_iadd dX0_owedBy_17 ?_
      refine aw_istore_n dX0_owedBy_18 rfl (by decide) rfl ?_
      refine aw_iinc (v := 1) dX0_owedBy_19 rfl (by decide) (by decide) rfl ?_
      refine aw_goto (tgt := 4) dX0_owedBy_22 (by decide) ?_
      rw [nI_1]
      exact ih (m - 1) (by omega) (i + 1) (by omega)
set_option maxRecDepth 100000 in
set_option maxHeartbeats 4000000 in
theorem c_X0_owedBy {l : Launch} {D : va_G} {tc : Nat → ClassId} (pk : Nat → Nat) (G : Nat → Option Nat) (I F : Nat → Nat → Int32) (n : Nat) (hn : 30 ≤ n) (x : Int32) : AM l D tc yX0_owedBy cX0_owedBy 4 (some .int) 3 65 0 0 [.ref 7, .int x] n (hC pk G I F) (fun v n1 h1 => n1 = n ∧ (v = some (.int (sBy F x)) ∧ h1 = (hC pk G I F))) := by
  refine am_of (L := [some (.ref 7), some (.int x), none, none]) (by decide +kernel) (Nat.le_of_ble_eq_true rfl) rfl ?_
  refine aw_iconst (v := 0) dX0_owedBy_0 (by decide) ?_
  refine aw_istore_n dX0_owedBy_1 rfl (by decide) rfl ?_
  refine aw_iconst (v := 0) dX0_owedBy_2 (by decide) ?_
  refine aw_istore_n dX0_owedBy_3 rfl (by decide) rfl ?_
  exact lp_X0_owedBy pk G I F n hn x 6 0 (by omega)
set_option maxRecDepth 100000 in
set_option maxHeartbeats 4000000 in
theorem lp_X0_owedTo {l : Launch} {D : va_G} {tc : Nat → ClassId} (pk : Nat → Nat) (G : Nat → Option Nat) (I F : Nat → Nat → Int32) (n : Nat) (hn : 30 ≤ n) (x : Int32) : ∀ (m i : Nat), i + m = 6 → AW l D tc yX0_owedTo.cls cX0_owedTo 4 (some .int) { frames := 3, cells := 0, slots := 0, locals := 65 } n 0 0 (fun v n1 h1 => n1 = n ∧ (v = some (.int (sTo F x)) ∧ h1 = (hC pk G I F))) 4 [some (.ref 7), some (.int x), some (.int (sumN (fun q => sBtw F (nI q) x) i)), some (.int (nI i))] [] n (hC pk G I F) 0 0 := by
  intro m
  induction m using Nat.strongRecOn with
  | _ m ih =>
    intro i hi
    refine aw_iload_n dX0_owedTo_4 rfl rfl ?_
    refine aw_bipush (v := (6)) dX0_owedTo_5 (by decide) ?_
    refine aw_icmp_ge (tgt := 25) dX0_owedTo_7 (by decide) (fun c_7 => ?_) (fun c_7 => ?_)
    · have hi6 := lp_ge (N := 6) (by decide) (by omega) c_7
      subst hi6
      refine aw_iload_n dX0_owedTo_25 rfl rfl ?_
      refine aw_iret dX0_owedTo_26 (Nat.zero_le _) (Nat.zero_le _) ?_
      exact ⟨rfl, rfl, rfl⟩
    · have hi6 := lp_lt (N := 6) (by omega) c_7
      refine aw_iload_n dX0_owedTo_10 rfl rfl ?_
      refine aw_aload_n dX0_owedTo_11 rfl rfl ?_
      refine aw_iload_n dX0_owedTo_12 rfl rfl ?_
      refine aw_iload_n dX0_owedTo_13 rfl rfl ?_
      refine aw_callV cw_X0_between ml_X0_31 im_X0_between sl_X0_X0_between rfl (by omega) rfl (c_X0_between pk G _ _ n hn _ _) ⟨Nat.le_of_ble_eq_true rfl, Nat.le_of_ble_eq_true rfl⟩ ⟨Nat.zero_le _, Nat.zero_le _⟩ rfl rfl (Nat.le_of_ble_eq_true rfl) dX0_owedTo_14 ?_
      rintro _ _ ⟨rfl, rfl⟩
      refine aw_iadd dX0_owedTo_17 ?_
      refine aw_istore_n dX0_owedTo_18 rfl (by decide) rfl ?_
      refine aw_iinc (v := 1) dX0_owedTo_19 rfl (by decide) (by decide) rfl ?_
      refine aw_goto (tgt := 4) dX0_owedTo_22 (by decide) ?_
      rw [nI_1]
      exact ih (m - 1) (by omega) (i + 1) (by omega)
set_option maxRecDepth 100000 in
set_option maxHeartbeats 4000000 in
theorem c_X0_owedTo {l : Launch} {D : va_G} {tc : Nat → ClassId} (pk : Nat → Nat) (G : Nat → Option Nat) (I F : Nat → Nat → Int32) (n : Nat) (hn : 30 ≤ n) (x : Int32) : AM l D tc yX0_owedTo cX0_owedTo 4 (some .int) 3 65 0 0 [.ref 7, .int x] n (hC pk G I F) (fun v n1 h1 => n1 = n ∧ (v = some (.int (sTo F x)) ∧ h1 = (hC pk G I F))) := by
  refine am_of (L := [some (.ref 7), some (.int x), none, none]) (by decide +kernel) (Nat.le_of_ble_eq_true rfl) rfl ?_
  refine aw_iconst (v := 0) dX0_owedTo_0 (by decide) ?_
  refine aw_istore_n dX0_owedTo_1 rfl (by decide) rfl ?_
  refine aw_iconst (v := 0) dX0_owedTo_2 (by decide) ?_
  refine aw_istore_n dX0_owedTo_3 rfl (by decide) rfl ?_
  exact lp_X0_owedTo pk G I F n hn x 6 0 (by omega)
set_option maxRecDepth 100000 in
set_option maxHeartbeats 4000000 in
theorem c_X0_balanceOf {l : Launch} {D : va_G} {tc : Nat → ClassId} (pk : Nat → Nat) (G : Nat → Option Nat) (I F : Nat → Nat → Int32) (n : Nat) (hn : 30 ≤ n) (x : Int32) : AM l D tc yX0_balanceOf cX0_balanceOf 2 (some .int) 4 88 0 0 [.ref 7, .int x] n (hC pk G I F) (fun v n1 h1 => n1 = n ∧ (v = some (.int (sBal F x)) ∧ h1 = (hC pk G I F))) := by
  refine am_of (L := [some (.ref 7), some (.int x)]) (by decide +kernel) (Nat.le_of_ble_eq_true rfl) rfl ?_
  refine aw_aload_n dX0_balanceOf_0 rfl rfl ?_
  refine aw_iload_n dX0_balanceOf_1 rfl rfl ?_
  refine aw_callV cw_X0_owedTo ml_X0_35 im_X0_owedTo sl_X0_X0_owedTo rfl (by omega) rfl (c_X0_owedTo pk G _ _ n hn _) ⟨Nat.le_of_ble_eq_true rfl, Nat.le_of_ble_eq_true rfl⟩ ⟨Nat.zero_le _, Nat.zero_le _⟩ rfl rfl (Nat.le_of_ble_eq_true rfl) dX0_balanceOf_2 ?_
  rintro _ _ ⟨rfl, rfl⟩
  refine aw_aload_n dX0_balanceOf_5 rfl rfl ?_
  refine aw_iload_n dX0_balanceOf_6 rfl rfl ?_
  refine aw_callV cw_X0_owedBy ml_X0_39 im_X0_owedBy sl_X0_X0_owedBy rfl (by omega) rfl (c_X0_owedBy pk G _ _ n hn _) ⟨Nat.le_of_ble_eq_true rfl, Nat.le_of_ble_eq_true rfl⟩ ⟨Nat.zero_le _, Nat.zero_le _⟩ rfl rfl (Nat.le_of_ble_eq_true rfl) dX0_balanceOf_7 ?_
  rintro _ _ ⟨rfl, rfl⟩
  refine aw_isub dX0_balanceOf_10 ?_
  refine aw_iret dX0_balanceOf_11 (Nat.zero_le _) (Nat.zero_le _) ?_
  exact ⟨rfl, rfl, rfl⟩
set_option maxRecDepth 100000 in
set_option maxHeartbeats 4000000 in
theorem lp_X0_leastSteps {l : Launch} {D : va_G} {tc : Nat → ClassId} (pk : Nat → Nat) (G : Nat → Option Nat) (I F : Nat → Nat → Int32) (n : Nat) (hn : 30 ≤ n) : ∀ (m i : Nat), i + m = 6 → AW l D tc yX0_leastSteps.cls cX0_leastSteps 3 (some .int) { frames := 5, cells := 0, slots := 0, locals := 109 } n 0 0 (fun v n1 h1 => n1 = n ∧ (v = some (.int (sSteps F)) ∧ h1 = (hC pk G I F))) 4 [some (.ref 7), some (.int (sumN (fun p => if 0 < sBal F (nI p) then sBal F (nI p) else 0) i)), some (.int (nI i))] [] n (hC pk G I F) 0 0 := by
  intro m
  induction m using Nat.strongRecOn with
  | _ m ih =>
    intro i hi
    refine aw_iload_n dX0_leastSteps_4 rfl rfl ?_
    refine aw_bipush (v := (6)) dX0_leastSteps_5 (by decide) ?_
    refine aw_icmp_ge (tgt := 28) dX0_leastSteps_7 (by decide) (fun c_7 => ?_) (fun c_7 => ?_)
    · have hi6 := lp_ge (N := 6) (by decide) (by omega) c_7
      subst hi6
      refine aw_iload_n dX0_leastSteps_28 rfl rfl ?_
      refine aw_iret dX0_leastSteps_29 (Nat.zero_le _) (Nat.zero_le _) ?_
      exact ⟨rfl, rfl, rfl⟩
    · have hi6 := lp_lt (N := 6) (by omega) c_7
      refine aw_iload_n dX0_leastSteps_10 rfl rfl ?_
      refine aw_iconst (v := 0) dX0_leastSteps_11 (by decide) ?_
      refine aw_aload_n dX0_leastSteps_12 rfl rfl ?_
      refine aw_iload_n dX0_leastSteps_13 rfl rfl ?_
      refine aw_callV cw_X0_balanceOf ml_X0_42 im_X0_balanceOf sl_X0_X0_balanceOf rfl (by omega) rfl (c_X0_balanceOf pk G _ _ n hn _) ⟨Nat.le_of_ble_eq_true rfl, Nat.le_of_ble_eq_true rfl⟩ ⟨Nat.zero_le _, Nat.zero_le _⟩ rfl rfl (Nat.le_of_ble_eq_true rfl) dX0_leastSteps_14 ?_
      rintro _ _ ⟨rfl, rfl⟩
      refine aw_max ml_X0_45 ⟨Nat.le_of_ble_eq_true rfl, Nat.le_of_ble_eq_true rfl⟩ ⟨Nat.zero_le _, Nat.zero_le _⟩ (Nat.le_of_ble_eq_true rfl) dX0_leastSteps_17 ?_
      refine aw_iadd dX0_leastSteps_20 ?_
      refine aw_istore_n dX0_leastSteps_21 rfl (by decide) rfl ?_
      refine aw_iinc (v := 1) dX0_leastSteps_22 rfl (by decide) (by decide) rfl ?_
      refine aw_goto (tgt := 4) dX0_leastSteps_25 (by decide) ?_
      rw [nI_1]
      exact ih (m - 1) (by omega) (i + 1) (by omega)
set_option maxRecDepth 100000 in
set_option maxHeartbeats 4000000 in
theorem c_X0_leastSteps {l : Launch} {D : va_G} {tc : Nat → ClassId} (pk : Nat → Nat) (G : Nat → Option Nat) (I F : Nat → Nat → Int32) (n : Nat) (hn : 30 ≤ n) : AM l D tc yX0_leastSteps cX0_leastSteps 3 (some .int) 5 109 0 0 [.ref 7] n (hC pk G I F) (fun v n1 h1 => n1 = n ∧ (v = some (.int (sSteps F)) ∧ h1 = (hC pk G I F))) := by
  refine am_of (L := [some (.ref 7), none, none]) (by decide +kernel) (Nat.le_of_ble_eq_true rfl) rfl ?_
  refine aw_iconst (v := 0) dX0_leastSteps_0 (by decide) ?_
  refine aw_istore_n dX0_leastSteps_1 rfl (by decide) rfl ?_
  refine aw_iconst (v := 0) dX0_leastSteps_2 (by decide) ?_
  refine aw_istore_n dX0_leastSteps_3 rfl (by decide) rfl ?_
  exact lp_X0_leastSteps pk G I F n hn 6 0 (by omega)
set_option maxRecDepth 100000 in
set_option maxHeartbeats 4000000 in
theorem lp_X0_forget2 {l : Launch} {D : va_G} {tc : Nat → ClassId} (pk : Nat → Nat) (G : Nat → Option Nat) (I F : Nat → Nat → Int32) (n : Nat) (hn : 30 ≤ n) (Q : Option Value → Nat → aw_H → Prop) (f0 : Nat → Int32) {a : Nat} (ha : a < 6) (hk9 : AW l D tc yX0_forget.cls cX0_forget 3 none { frames := 0, cells := 0, slots := 0, locals := 0 } n 0 0 Q 31 [some (.ref 7), some (.int (nI a)), some (.int (nI 6))] [] n (hC pk G I (st_F F (9 + a) (zr f0 6))) 0 0) : ∀ (m i : Nat), i + m = 6 → AW l D tc yX0_forget.cls cX0_forget 3 none { frames := 0, cells := 0, slots := 0, locals := 0 } n 0 0 Q 10 [some (.ref 7), some (.int (nI a)), some (.int (nI i))] [] n (hC pk G I (st_F F (9 + a) (zr f0 i))) 0 0 := by
  intro m
  induction m using Nat.strongRecOn with
  | _ m ih =>
    intro i hi
    refine aw_iload_n dX0_forget_10 rfl rfl ?_
    refine aw_bipush (v := (6)) dX0_forget_11 (by decide) ?_
    refine aw_icmp_ge (tgt := 31) dX0_forget_13 (by decide) (fun c_13 => ?_) (fun c_13 => ?_)
    · have hi6 := lp_ge (N := 6) (by decide) (by omega) c_13
      subst hi6
      exact hk9
    · have hi6 := lp_lt (N := 6) (by omega) c_13
      refine aw_aload_n dX0_forget_16 rfl rfl ?_
      refine aw_get fd_X0_11_0 dX0_forget_17 (by omega) rfl rfl ?_
      refine aw_iload_n dX0_forget_20 rfl rfl ?_
      refine aw_aaldR4 dX0_forget_21 (by omega) rfl (vp_in_nI ha (by decide)) (ow_at ha) ?_
      refine aw_iload_n dX0_forget_22 rfl rfl ?_
      refine aw_iconst (v := 0) dX0_forget_23 (by decide) ?_
      refine aw_iastI dX0_forget_24 (by omega) (entC_owed _ _ ha _ _) (fun _ => entC_owed _ _ ha _ _) (vp_in_nI hi6 (by decide)) (by show st_F (st_F F (9 + a) (zr f0 i)) (9 + a) (upd (st_F F (9 + a) (zr f0 i) (9 + a)) _ 0) = _; rw [st_Fs, st_FF, nI_clamp (by omega), zr_s]) ?_
      refine aw_iinc (v := 1) dX0_forget_25 rfl (by decide) (by decide) rfl ?_
      refine aw_goto (tgt := 10) dX0_forget_28 (by decide) ?_
      rw [nI_1]
      exact ih (m - 1) (by omega) (i + 1) (by omega)
set_option maxRecDepth 100000 in
set_option maxHeartbeats 4000000 in
theorem lp_X0_forget {l : Launch} {D : va_G} {tc : Nat → ClassId} (pk : Nat → Nat) (G : Nat → Option Nat) (I F : Nat → Nat → Int32) (n : Nat) (hn : 30 ≤ n) : ∀ (m i : Nat), i + m = 6 → ∀ w : Option Value,  AW l D tc yX0_forget.cls cX0_forget 3 none { frames := 0, cells := 0, slots := 0, locals := 0 } n 0 0 (fun v n1 h1 => n1 = n ∧ (v = none ∧ h1 = hC pk G I (fgF F 6))) 2 [some (.ref 7), some (.int (nI i)), w] [] n (hC pk G I (fgF F i)) 0 0 := by
  intro m
  induction m using Nat.strongRecOn with
  | _ m ih =>
    intro i hi w
    refine aw_iload_n dX0_forget_2 rfl rfl ?_
    refine aw_bipush (v := (6)) dX0_forget_3 (by decide) ?_
    refine aw_icmp_ge (tgt := 37) dX0_forget_5 (by decide) (fun c_5 => ?_) (fun c_5 => ?_)
    · have hi6 := lp_ge (N := 6) (by decide) (by omega) c_5
      subst hi6
      refine aw_vret dX0_forget_37 (Nat.zero_le _) (Nat.zero_le _) ?_
      exact ⟨rfl, rfl, rfl⟩
    · have hi6 := lp_lt (N := 6) (by omega) c_5
      refine aw_iconst (v := 0) dX0_forget_8 (by decide) ?_
      refine aw_istore_n dX0_forget_9 rfl (by decide) rfl ?_
      have e9 : fgF F i = st_F (fgF F i) (9 + i) (zr (F (9 + i)) 0) := by
        rw [zr_0]
        have : fgF F i (9 + i) = F (9 + i) := by unfold fgF; rw [if_neg (by omega)]
        rw [← this, st_F0]
      rw [e9]
      refine lp_X0_forget2 pk G I (fgF F i) n hn _ (F (9 + i)) hi6 ?_ 6 0 (by omega)
      rw [fgF_s]
      refine aw_iinc (v := 1) dX0_forget_31 rfl (by decide) (by decide) rfl ?_
      refine aw_goto (tgt := 2) dX0_forget_34 (by decide) ?_
      rw [nI_1]
      exact ih (m - 1) (by omega) (i + 1) (by omega) _
set_option maxRecDepth 100000 in
set_option maxHeartbeats 4000000 in
theorem c_X0_forget {l : Launch} {D : va_G} {tc : Nat → ClassId} (pk : Nat → Nat) (G : Nat → Option Nat) (I F : Nat → Nat → Int32) (n : Nat) (hn : 30 ≤ n) : AM l D tc yX0_forget cX0_forget 3 none 0 0 0 0 [.ref 7] n (hC pk G I F) (fun v n1 h1 => n1 = n ∧ (v = none ∧ h1 = hC pk G I (fgF F 6))) := by
  refine am_of (L := [some (.ref 7), none, none]) (by decide +kernel) (Nat.le_of_ble_eq_true rfl) rfl ?_
  refine aw_iconst (v := 0) dX0_forget_0 (by decide) ?_
  refine aw_istore_n dX0_forget_1 rfl (by decide) rfl ?_
  have hl := lp_X0_forget (l := l) (D := D) (tc := tc) pk G I F n hn 6 0 (by omega) none
  rw [fgF_0] at hl
  exact hl
set_option maxRecDepth 100000 in
set_option maxHeartbeats 4000000 in
theorem lp_X0_mostGroups {l : Launch} {D : va_G} {tc : Nat → ClassId} (pk : Nat → Nat) (G : Nat → Option Nat) (I F : Nat → Nat → Int32) (n : Nat) (hn : 30 ≤ n) {z : Nat} (hz : z < 64) : ∀ (m i : Nat) (x y : Int32), i + m = 6 → mgN (F 16) (F 15) (nI z) i = (x, y) → AW l D tc yX0_mostGroups.cls cX0_mostGroups 5 (some .int) { frames := 2, cells := 0, slots := 0, locals := 41 } n 0 0 (fun v n1 h1 => n1 = n ∧ (v = some (.int (sMg (F 16) (F 15) (nI z))) ∧ h1 = (hC pk G I F))) 7 [some (.ref 7), some (.int (nI z)), some (.int x), some (.int y), some (.int (nI i))] [] n (hC pk G I F) 0 0 := by
  intro m
  induction m using Nat.strongRecOn with
  | _ m ih =>
    intro i x y hi hq
    refine aw_iload dX0_mostGroups_7 rfl ?_
    refine aw_bipush (v := (6)) dX0_mostGroups_9 (by decide) ?_
    refine aw_icmp_ge (tgt := 58) dX0_mostGroups_11 (by decide) (fun c_11 => ?_) (fun c_11 => ?_)
    · have hi6 := lp_ge (N := 6) (by decide) (by omega) c_11
      subst hi6
      refine aw_iload_n dX0_mostGroups_58 rfl rfl ?_
      refine aw_if_ne (tgt := 68) dX0_mostGroups_59 (by decide) (fun c_59 => ?_) (fun c_59 => ?_)
      · refine aw_iload_n dX0_mostGroups_68 rfl rfl ?_
        refine aw_iret dX0_mostGroups_69 (Nat.zero_le _) (Nat.zero_le _) ?_
        refine ⟨rfl, ?_, rfl⟩
        rw [sMg, hq]
        simp [*]
      · refine aw_iload_n dX0_mostGroups_62 rfl rfl ?_
        refine aw_iconst (v := 1) dX0_mostGroups_63 (by decide) ?_
        refine aw_iadd dX0_mostGroups_64 ?_
        refine aw_goto (tgt := 69) dX0_mostGroups_65 (by decide) ?_
        refine aw_iret dX0_mostGroups_69 (Nat.zero_le _) (Nat.zero_le _) ?_
        refine ⟨rfl, ?_, rfl⟩
        rw [sMg, hq]
        simp [*]
    · have hi6 := lp_lt (N := 6) (by omega) c_11
      refine aw_iload_n dX0_mostGroups_14 rfl rfl ?_
      refine aw_iload dX0_mostGroups_15 rfl ?_
      refine aw_callSN (host := RX8) cw_X8_has (by decide +kernel) sm_X8_has (c_X8_has _ _ _ _) ⟨Nat.le_of_ble_eq_true rfl, Nat.le_of_ble_eq_true rfl⟩ ⟨Nat.zero_le _, Nat.zero_le _⟩ rfl rfl (Nat.le_of_ble_eq_true rfl) dX0_mostGroups_17 ?_
      rintro _ _ ⟨rfl, rfl⟩
      refine aw_if_eq (tgt := 52) dX0_mostGroups_20 (by decide) (fun c_20 => ?_) (fun c_20 => ?_)
      · refine aw_iinc (v := 1) dX0_mostGroups_52 rfl (by decide) (by decide) rfl ?_
        refine aw_goto (tgt := 7) dX0_mostGroups_55 (by decide) ?_
        rw [nI_1]
        exact ih (m - 1) (by omega) (i + 1) _ _ (by omega) (by rw [mgN, hq]; simp only [b2i_eq0, b2i_ne0] at *; simp [sClr, nI_clamp (show i < 2 ^ 31 by omega), *])
      · refine aw_iload_n dX0_mostGroups_23 rfl rfl ?_
        refine aw_aload_n dX0_mostGroups_24 rfl rfl ?_
        refine aw_get fd_X0_20_0 dX0_mostGroups_25 (by omega) rfl rfl ?_
        refine aw_iload_n dX0_mostGroups_28 rfl rfl ?_
        refine aw_iload dX0_mostGroups_29 rfl ?_
        refine aw_callSN (host := RX8) cw_X8_bit (by decide +kernel) sm_X8_bit (c_X8_bit _ _ _) ⟨Nat.le_of_ble_eq_true rfl, Nat.le_of_ble_eq_true rfl⟩ ⟨Nat.zero_le _, Nat.zero_le _⟩ rfl rfl (Nat.le_of_ble_eq_true rfl) dX0_mostGroups_31 ?_
        rintro _ _ ⟨rfl, rfl⟩
        refine aw_iconst (v := (-1)) dX0_mostGroups_34 (by decide) ?_
        refine aw_ixor dX0_mostGroups_35 ?_
        refine aw_iand dX0_mostGroups_36 ?_
        refine aw_iald dX0_mostGroups_37 (by omega) rfl (clr_in _ hz _ hi6) ?_
        refine aw_max ml_X0_45 ⟨Nat.le_of_ble_eq_true rfl, Nat.le_of_ble_eq_true rfl⟩ ⟨Nat.zero_le _, Nat.zero_le _⟩ (Nat.le_of_ble_eq_true rfl) dX0_mostGroups_38 ?_
        refine aw_istore_n dX0_mostGroups_41 rfl (by decide) rfl ?_
        refine aw_iload_n dX0_mostGroups_42 rfl rfl ?_
        refine aw_aload_n dX0_mostGroups_43 rfl rfl ?_
        refine aw_get fd_X0_16_0 dX0_mostGroups_44 (by omega) rfl rfl ?_
        refine aw_iload dX0_mostGroups_47 rfl ?_
        refine aw_iald dX0_mostGroups_49 (by omega) rfl (by first | assumption | exact vp_in_nI (by omega) (by decide) | decide) ?_
        refine aw_iadd dX0_mostGroups_50 ?_
        refine aw_istore_n dX0_mostGroups_51 rfl (by decide) rfl ?_
        refine aw_iinc (v := 1) dX0_mostGroups_52 rfl (by decide) (by decide) rfl ?_
        refine aw_goto (tgt := 7) dX0_mostGroups_55 (by decide) ?_
        rw [nI_1]
        exact ih (m - 1) (by omega) (i + 1) _ _ (by omega) (by rw [mgN, hq]; simp only [b2i_eq0, b2i_ne0] at *; simp [sClr, nI_clamp (show i < 2 ^ 31 by omega), *])
set_option maxRecDepth 100000 in
set_option maxHeartbeats 4000000 in
theorem c_X0_mostGroups {l : Launch} {D : va_G} {tc : Nat → ClassId} (pk : Nat → Nat) (G : Nat → Option Nat) (I F : Nat → Nat → Int32) (n : Nat) (hn : 30 ≤ n) {z : Nat} (hz : z < 64) : AM l D tc yX0_mostGroups cX0_mostGroups 5 (some .int) 2 41 0 0 [.ref 7, .int (nI z)] n (hC pk G I F) (fun v n1 h1 => n1 = n ∧ (v = some (.int (sMg (F 16) (F 15) (nI z))) ∧ h1 = (hC pk G I F))) := by
  refine am_of (L := [some (.ref 7), some (.int (nI z)), none, none, none]) (by decide +kernel) (Nat.le_of_ble_eq_true rfl) rfl ?_
  refine aw_iconst (v := 0) dX0_mostGroups_0 (by decide) ?_
  refine aw_istore_n dX0_mostGroups_1 rfl (by decide) rfl ?_
  refine aw_iconst (v := 0) dX0_mostGroups_2 (by decide) ?_
  refine aw_istore_n dX0_mostGroups_3 rfl (by decide) rfl ?_
  refine aw_iconst (v := 0) dX0_mostGroups_4 (by decide) ?_
  refine aw_istore dX0_mostGroups_5 (by decide) rfl ?_
  exact lp_X0_mostGroups pk G I F n hn hz 6 0 0 0 (by omega) rfl
def lpF (F : Nat → Nat → Int32) (k : Nat) : Nat → Nat → Int32 := st_F (st_F F 15 (blN F (F 15) 6)) 16 (gpN (F 16) (blN F (F 15) 6) k)
theorem sBal_F (F : Nat → Nat → Int32) (g : Nat → Int32) (x : Int32) : sBal (st_F F 15 g) x = sBal F x := by
  have h : ∀ p q, sBtw (st_F F 15 g) p q = sBtw F p q := by
    intro p q
    unfold sBtw
    by_cases hN : sNum p q = true
    · obtain ⟨a, b, ha, hb, rfl, rfl⟩ := sNum_ex hN
      rw [if_pos hN, if_pos hN, nI_clamp (by omega), st_Fn (by omega)]
    · rw [if_neg hN, if_neg hN]
  unfold sBal sTo sBy
  simp only [h]

set_option maxRecDepth 100000 in
set_option maxHeartbeats 4000000 in
theorem lp_X0_leastPayments1 {l : Launch} {D : va_G} {tc : Nat → ClassId} (pk : Nat → Nat) (G : Nat → Option Nat) (I F : Nat → Nat → Int32) (n : Nat) (hn : 30 ≤ n) (Q : Option Value → Nat → aw_H → Prop) (hk9 : AW l D tc yX0_leastPayments.cls cX0_leastPayments 2 (some .int) { frames := 5, cells := 0, slots := 0, locals := 109 } n 0 0 Q 25 [some (.ref 7), some (.int (nI 6))] [] n (hC pk G I (st_F F 15 (blN F (F 15) 6))) 0 0) : ∀ (m i : Nat), i + m = 6 → AW l D tc yX0_leastPayments.cls cX0_leastPayments 2 (some .int) { frames := 5, cells := 0, slots := 0, locals := 109 } n 0 0 Q 2 [some (.ref 7), some (.int (nI i))] [] n (hC pk G I (st_F F 15 (blN F (F 15) i))) 0 0 := by
  intro m
  induction m using Nat.strongRecOn with
  | _ m ih =>
    intro i hi
    refine aw_iload_n dX0_leastPayments_2 rfl rfl ?_
    refine aw_bipush (v := (6)) dX0_leastPayments_3 (by decide) ?_
    refine aw_icmp_ge (tgt := 25) dX0_leastPayments_5 (by decide) (fun c_5 => ?_) (fun c_5 => ?_)
    · have hi6 := lp_ge (N := 6) (by decide) (by omega) c_5
      subst hi6
      exact hk9
    · have hi6 := lp_lt (N := 6) (by omega) c_5
      refine aw_aload_n dX0_leastPayments_8 rfl rfl ?_
      refine aw_get fd_X0_16_0 dX0_leastPayments_9 (by omega) rfl rfl ?_
      refine aw_iload_n dX0_leastPayments_12 rfl rfl ?_
      refine aw_aload_n dX0_leastPayments_13 rfl rfl ?_
      refine aw_iload_n dX0_leastPayments_14 rfl rfl ?_
      refine aw_callV cw_X0_balanceOf ml_X0_42 im_X0_balanceOf sl_X0_X0_balanceOf rfl (by omega) rfl (c_X0_balanceOf pk G _ _ n hn _) ⟨Nat.le_of_ble_eq_true rfl, Nat.le_of_ble_eq_true rfl⟩ ⟨Nat.zero_le _, Nat.zero_le _⟩ rfl rfl (Nat.le_of_ble_eq_true rfl) dX0_leastPayments_15 ?_
      rintro _ _ ⟨rfl, rfl⟩
      refine aw_iastI dX0_leastPayments_18 (by omega) rfl (fun _ => rfl) (vp_in_nI hi6 (by decide)) (by show st_F (st_F F 15 (blN F (F 15) i)) 15 (upd (st_F F 15 (blN F (F 15) i) 15) _ (sBal (st_F F 15 (blN F (F 15) i)) (nI i))) = _; rw [st_Fs, st_FF, nI_clamp (by omega), sBal_F, blN_s]) ?_
      refine aw_iinc (v := 1) dX0_leastPayments_19 rfl (by decide) (by decide) rfl ?_
      refine aw_goto (tgt := 2) dX0_leastPayments_22 (by decide) ?_
      rw [nI_1]
      exact ih (m - 1) (by omega) (i + 1) (by omega)
set_option maxRecDepth 100000 in
set_option maxHeartbeats 4000000 in
theorem lp_X0_leastPayments2 {l : Launch} {D : va_G} {tc : Nat → ClassId} (pk : Nat → Nat) (G : Nat → Option Nat) (I F : Nat → Nat → Int32) (n : Nat) (hn : 30 ≤ n) : ∀ (m i : Nat), i + m = 63 → AW l D tc yX0_leastPayments.cls cX0_leastPayments 2 (some .int) { frames := 5, cells := 0, slots := 0, locals := 109 } n 0 0 (fun v n1 h1 => n1 = n ∧ (v = some (.int (6 - gpN (F 16) (blN F (F 15) 6) 63 63)) ∧ h1 = hC pk G I (lpF F 63))) 34 [some (.ref 7), some (.int (nI (i + 1)))] [] n (hC pk G I (lpF F i)) 0 0 := by
  intro m
  induction m using Nat.strongRecOn with
  | _ m ih =>
    intro i hi
    refine aw_iload_n dX0_leastPayments_34 rfl rfl ?_
    refine aw_aload_n dX0_leastPayments_35 rfl rfl ?_
    refine aw_get fd_X0_20_0 dX0_leastPayments_36 (by omega) rfl rfl ?_
    refine aw_alen (v := 64) dX0_leastPayments_39 (by omega) rfl (by decide) ?_
    refine aw_icmp_ge (tgt := 60) dX0_leastPayments_40 (by decide) (fun c_40 => ?_) (fun c_40 => ?_)
    · have hi6 := lp_ge (i := i + 1) (N := 64) (by decide) (by omega) c_40
      have hi7 : i = 63 := by omega
      subst hi7
      refine aw_bipush (v := (6)) dX0_leastPayments_60 (by decide) ?_
      refine aw_aload_n dX0_leastPayments_62 rfl rfl ?_
      refine aw_get fd_X0_20_0 dX0_leastPayments_63 (by omega) rfl rfl ?_
      refine aw_aload_n dX0_leastPayments_66 rfl rfl ?_
      refine aw_get fd_X0_20_0 dX0_leastPayments_67 (by omega) rfl rfl ?_
      refine aw_alen (v := 64) dX0_leastPayments_70 (by omega) rfl (by decide) ?_
      refine aw_iconst (v := 1) dX0_leastPayments_71 (by decide) ?_
      refine aw_isub dX0_leastPayments_72 ?_
      refine aw_iald dX0_leastPayments_73 (by omega) rfl vp_63 ?_
      refine aw_isub dX0_leastPayments_74 ?_
      refine aw_iret dX0_leastPayments_75 (Nat.zero_le _) (Nat.zero_le _) ?_
      have e1 : lpF F 63 16 = gpN (F 16) (blN F (F 15) 6) 63 := st_Fs _ _ _
      refine ⟨rfl, ?_, rfl⟩
      rw [e1, show ((64 : Int32) - 1).toNatClampNeg = 63 by decide]
    · have hi6 := lp_lt (i := i + 1) (N := 64) (by omega) c_40
      refine aw_aload_n dX0_leastPayments_43 rfl rfl ?_
      refine aw_get fd_X0_20_0 dX0_leastPayments_44 (by omega) rfl rfl ?_
      refine aw_iload_n dX0_leastPayments_47 rfl rfl ?_
      refine aw_aload_n dX0_leastPayments_48 rfl rfl ?_
      refine aw_iload_n dX0_leastPayments_49 rfl rfl ?_
      refine aw_callV cw_X0_mostGroups ml_X0_50 im_X0_mostGroups sl_X0_X0_mostGroups rfl (by omega) rfl (c_X0_mostGroups pk G _ _ n hn (z := i + 1) (by omega)) ⟨Nat.le_of_ble_eq_true rfl, Nat.le_of_ble_eq_true rfl⟩ ⟨Nat.zero_le _, Nat.zero_le _⟩ rfl rfl (Nat.le_of_ble_eq_true rfl) dX0_leastPayments_50 ?_
      rintro _ _ ⟨rfl, rfl⟩
      refine aw_iastI dX0_leastPayments_53 (by omega) rfl (fun _ => rfl) (vp_in_nI hi6 (by decide)) (show _ = lpF F (i + 1) from by show st_F (lpF F i) 16 (upd (lpF F i 16) (nI (i + 1)).toNatClampNeg (sMg (lpF F i 16) (lpF F i 15) (nI (i + 1)))) = _; rw [nI_clamp (by omega)]; unfold lpF; rw [st_FF]; rfl) ?_
      refine aw_iinc (v := 1) dX0_leastPayments_54 rfl (by decide) (by decide) rfl ?_
      refine aw_goto (tgt := 34) dX0_leastPayments_57 (by decide) ?_
      rw [nI_1]
      exact ih (m - 1) (by omega) (i + 1) (by omega)
set_option maxRecDepth 100000 in
set_option maxHeartbeats 4000000 in
theorem c_X0_leastPayments {l : Launch} {D : va_G} {tc : Nat → ClassId} (pk : Nat → Nat) (G : Nat → Option Nat) (I F : Nat → Nat → Int32) (n : Nat) (hn : 30 ≤ n) : AM l D tc yX0_leastPayments cX0_leastPayments 2 (some .int) 5 109 0 0 [.ref 7] n (hC pk G I F) (fun v n1 h1 => n1 = n ∧ (v = some (.int (6 - gpN (F 16) (blN F (F 15) 6) 63 63)) ∧ h1 = hC pk G I (lpF F 63))) := by
  refine am_of (L := [some (.ref 7), none]) (by decide +kernel) (Nat.le_of_ble_eq_true rfl) rfl ?_
  refine aw_iconst (v := 0) dX0_leastPayments_0 (by decide) ?_
  refine aw_istore_n dX0_leastPayments_1 rfl (by decide) rfl ?_
  have e9 : F = st_F F 15 (blN F (F 15) 0) := by rw [blN_0, st_F0]
  have hl := lp_X0_leastPayments1 (l := l) (D := D) (tc := tc) pk G I F n hn (fun v n1 h1 => n1 = n ∧ (v = some (.int (6 - gpN (F 16) (blN F (F 15) 6) 63 63)) ∧ h1 = hC pk G I (lpF F 63))) ?_ 6 0 (by omega)
  · rw [← e9] at hl
    exact hl
  · refine aw_aload_n dX0_leastPayments_25 rfl rfl ?_
    refine aw_get fd_X0_20_0 dX0_leastPayments_26 (by omega) rfl rfl ?_
    refine aw_iconst (v := 0) dX0_leastPayments_29 (by decide) ?_
    refine aw_iconst (v := 0) dX0_leastPayments_30 (by decide) ?_
    refine aw_iastI dX0_leastPayments_31 (by omega) rfl (fun _ => rfl) (vp_0 (by decide) (by decide)) (show _ = lpF F 0 from rfl) ?_
    refine aw_iconst (v := 1) dX0_leastPayments_32 (by decide) ?_
    refine aw_istore_n dX0_leastPayments_33 rfl (by decide) rfl ?_
    exact lp_X0_leastPayments2 pk G I F n hn 63 0 (by omega)
end
section
/-! readings, and the lift -/
def rdSo (my wh fa on : Nat → Int32) (k : Nat) : Bool := decide (b2i (decide (¬ my (wh k).toNatClampNeg ≤ fa k)) = on k)
def rdAll (my wh fa on : Nat → Int32) : Nat → Bool
  | 0 => true
  | n + 1 => rdAll my wh fa on n && rdSo my wh fa on n
theorem rdAll_no {my wh fa on : Nat → Int32} {k c : Nat} (hk : k < c) (h : rdSo my wh fa on k = false) : rdAll my wh fa on c = false := by
  induction c with
  | zero => omega
  | succ c ih =>
    rw [rdAll]
    by_cases e : k = c
    · subst e
      simp [h]
    · simp [ih (by omega)]
def L3 (I : Nat → Nat → Int32) (f h s : Int32) : Nat → Nat → Int32 := fun a k => if a = 4 then (if k = 2 then f else if k = 3 then h else if k = 4 then s else I a k) else I a k
theorem L3_f (I : Nat → Nat → Int32) (f h s x : Int32) : st_I (L3 I f h s) 4 2 x = L3 I x h s := by
  funext a k
  unfold st_I L3 upd
  by_cases e : a = 4
  · subst e
    by_cases e2 : k = 2 <;> simp [e2]
  · simp [e]
theorem L3_h (I : Nat → Nat → Int32) (f h s x : Int32) : st_I (L3 I f h s) 4 3 x = L3 I f x s := by
  funext a k
  unfold st_I L3 upd
  by_cases e : a = 4
  · subst e
    by_cases e2 : k = 3 <;> simp [e2]
  · simp [e]
theorem L3_s (I : Nat → Nat → Int32) (f h s x : Int32) : st_I (L3 I f h s) 4 4 x = L3 I f h x := by
  funext a k
  unfold st_I L3 upd
  by_cases e : a = 4
  · subst e
    by_cases e2 : k = 4 <;> simp [e2]
  · simp [e]
theorem L3_L3 (I : Nat → Nat → Int32) (f h s f' h' s' : Int32) : L3 (L3 I f h s) f' h' s' = L3 I f' h' s' := by
  funext a k
  unfold L3
  by_cases e : a = 4
  · subst e
    by_cases e2 : k = 2
    · simp [e2]
    · by_cases e3 : k = 3
      · simp [e3]
      · by_cases e4 : k = 4 <;> simp [e2, e3, e4]
  · simp [e]
theorem L3_I (I : Nat → Nat → Int32) : I = L3 I (I 4 2) (I 4 3) (I 4 4) := by
  funext a k
  unfold L3
  by_cases e : a = 4
  · subst e
    by_cases e2 : k = 2
    · simp [e2]
    · by_cases e3 : k = 3
      · simp [e3]
      · by_cases e4 : k = 4 <;> simp [e2, e3, e4]
  · simp [e]
theorem he_L3 {pk : Nat → Nat} {G : Nat → Option Nat} {I F : Nat → Nat → Int32} {f h s : Int32} : hC pk G (L3 I f h s) F 4 = .inr (2, [.ref 5, .ref 6, .int f, .int h, .int s]) := rfl
/-- one person's turn: far, head, second, whether anybody stepped -/
def stp (my : Nat → Int32) (set : Int32) (i : Nat) (q : Int32 × Int32 × Int32 × Int32) : Int32 × Int32 × Int32 × Int32 :=
  if nI i = q.2.1 then q else if sHas set (nI i) = false then q else if my i ≤ q.1 then q else (q.1 + 1, nI i, q.2.1, 1)
def rndN (my : Nat → Int32) (set : Int32) (q : Int32 × Int32 × Int32 × Int32) : Nat → Int32 × Int32 × Int32 × Int32
  | 0 => q
  | i + 1 => stp my set i (rndN my set q i)
/-- after some rounds; it stands once nobody stepped -/
def itN (my : Nat → Int32) (set : Int32) : Nat → Int32 × Int32 × Int32 × Int32
  | 0 => (0, -9, -9, 1)
  | r + 1 => if (itN my set r).2.2.2 = 0 then itN my set r else rndN my set ((itN my set r).1, (itN my set r).2.1, (itN my set r).2.2.1, 0) 6
theorem itN_stop {my : Nat → Int32} {set : Int32} {r : Nat} (h : (itN my set r).2.2.2 = 0) : ∀ k, itN my set (r + k) = itN my set r
  | 0 => rfl
  | k + 1 => by
    have ih := itN_stop h k
    show itN my set ((r + k) + 1) = _
    rw [itN, ih, if_pos h]
def sCall (my : Nat → Int32) (set : Int32) : Int32 × Int32 × Int32 × Int32 := itN my set 19
def lstN (set : Int32) : Nat → Nat → Int32
  | _, 0 => -9
  | i, m + 1 => if sHas set (nI i) then nI i else lstN set (i + 1) m
def sLst (set : Int32) : Int32 := lstN set 0 6
def sDown (my : Nat → Int32) (set : Int32) : Int32 := if (sCall my set).2.1 = -9 then sLst set else (sCall my set).2.1

set_option maxRecDepth 100000 in
set_option maxHeartbeats 4000000 in
theorem lp_X2_goesRound {l : Launch} {D : va_G} {tc : Nat → ClassId} (pk : Nat → Nat) (G : Nat → Option Nat) (I F : Nat → Nat → Int32) (n : Nat) (hn : 30 ≤ n) (x : Int32) (q0 : Int32 × Int32 × Int32 × Int32) (hnb0 : ∀ b : Int32, (rndN (F 3) x q0 6).2.2.2 = b → narrow .boolean (.int b) = .int b) : ∀ (m i : Nat) (f h s b : Int32), i + m = 6 → rndN (F 3) x q0 i = (f, h, s, b) → AW l D tc yX2_goesRound.cls cX2_goesRound 5 (some .boolean) { frames := 2, cells := 0, slots := 0, locals := 41 } n 0 0 (fun v n1 h1 => n1 = n ∧ (v = some (.int (rndN (F 3) x q0 6).2.2.2) ∧ h1 = hC pk G (L3 I (rndN (F 3) x q0 6).1 (rndN (F 3) x q0 6).2.1 (rndN (F 3) x q0 6).2.2.1) F)) 5 [some (.ref 4), some (.ref 3), some (.int x), some (.int b), some (.int (nI i))] [] n (hC pk G (L3 I f h s) F) 0 0 := by
  intro m
  induction m using Nat.strongRecOn with
  | _ m ih =>
    intro i f h s b hi hq
    refine aw_iload dX2_goesRound_5 rfl ?_
    refine aw_aload_n dX2_goesRound_7 rfl rfl ?_
    refine aw_alen (v := 6) dX2_goesRound_8 (by omega) rfl (by decide) ?_
    refine aw_icmp_ge (tgt := 73) dX2_goesRound_9 (by decide) (fun c_9 => ?_) (fun c_9 => ?_)
    · have hi6 := lp_ge (N := 6) (by decide) (by omega) c_9
      subst hi6
      refine aw_iload_n dX2_goesRound_73 rfl rfl ?_
      refine aw_zret dX2_goesRound_74 (hnb0 b (by rw [hq])) (Nat.zero_le _) (Nat.zero_le _) ?_
      rw [hq]
      exact ⟨rfl, rfl, rfl⟩
    · have hi6 := lp_lt (N := 6) (by omega) c_9
      refine aw_iload dX2_goesRound_12 rfl ?_
      refine aw_aload_n dX2_goesRound_14 rfl rfl ?_
      refine aw_get fd_X2_22_2 dX2_goesRound_15 (by omega) he_L3 rfl ?_
      refine aw_icmp_eq (tgt := 67) dX2_goesRound_18 (by decide) (fun c_18 => ?_) (fun c_18 => ?_)
      · refine aw_iinc (v := 1) dX2_goesRound_67 rfl (by decide) (by decide) rfl ?_
        refine aw_goto (tgt := 5) dX2_goesRound_70 (by decide) ?_
        rw [nI_1]
        exact ih (m - 1) (by omega) (i + 1) _ _ _ _ (by omega) (by rw [rndN, hq]; (try simp only [b2i_eq0, b2i_ne0] at *); simp [stp, *])
      · refine aw_iload_n dX2_goesRound_21 rfl rfl ?_
        refine aw_iload dX2_goesRound_22 rfl ?_
        refine aw_callSN (host := RX8) cw_X8_has (by decide +kernel) sm_X8_has (c_X8_has _ _ _ _) ⟨Nat.le_of_ble_eq_true rfl, Nat.le_of_ble_eq_true rfl⟩ ⟨Nat.zero_le _, Nat.zero_le _⟩ rfl rfl (Nat.le_of_ble_eq_true rfl) dX2_goesRound_24 ?_
        rintro _ _ ⟨rfl, rfl⟩
        refine aw_if_eq (tgt := 67) dX2_goesRound_27 (by decide) (fun c_27 => ?_) (fun c_27 => ?_)
        · refine aw_iinc (v := 1) dX2_goesRound_67 rfl (by decide) (by decide) rfl ?_
          refine aw_goto (tgt := 5) dX2_goesRound_70 (by decide) ?_
          rw [nI_1]
          exact ih (m - 1) (by omega) (i + 1) _ _ _ _ (by omega) (by rw [rndN, hq]; (try simp only [b2i_eq0, b2i_ne0] at *); simp [stp, *])
        · refine aw_aload_n dX2_goesRound_30 rfl rfl ?_
          refine aw_iload dX2_goesRound_31 rfl ?_
          refine aw_iald dX2_goesRound_33 (by omega) rfl (vp_in_nI hi6 (by decide)) ?_
          rw [nI_clamp (show i < 2 ^ 31 by omega)]
          refine aw_aload_n dX2_goesRound_34 rfl rfl ?_
          refine aw_get fd_X2_18_2 dX2_goesRound_35 (by omega) he_L3 rfl ?_
          refine aw_icmp_le (tgt := 67) dX2_goesRound_38 (by decide) (fun c_38 => ?_) (fun c_38 => ?_)
          · refine aw_iinc (v := 1) dX2_goesRound_67 rfl (by decide) (by decide) rfl ?_
            refine aw_goto (tgt := 5) dX2_goesRound_70 (by decide) ?_
            rw [nI_1]
            exact ih (m - 1) (by omega) (i + 1) _ _ _ _ (by omega) (by rw [rndN, hq]; (try simp only [b2i_eq0, b2i_ne0] at *); simp [stp, *])
          · refine aw_aload_n dX2_goesRound_41 rfl rfl ?_
            refine aw_dup dX2_goesRound_42 rfl ?_
            refine aw_get fd_X2_18_2 dX2_goesRound_43 (by omega) he_L3 rfl ?_
            refine aw_iconst (v := 1) dX2_goesRound_46 (by decide) ?_
            refine aw_iadd dX2_goesRound_47 ?_
            refine aw_putI fp_X2_18_2 dX2_goesRound_48 (by omega) he_L3 rfl rfl (Nat.le_of_ble_eq_true rfl) rfl (L3_f _ _ _ _ _) ?_
            refine aw_aload_n dX2_goesRound_51 rfl rfl ?_
            refine aw_aload_n dX2_goesRound_52 rfl rfl ?_
            refine aw_get fd_X2_22_2 dX2_goesRound_53 (by omega) he_L3 rfl ?_
            refine aw_putI fp_X2_25_2 dX2_goesRound_56 (by omega) he_L3 rfl rfl (Nat.le_of_ble_eq_true rfl) rfl (L3_s _ _ _ _ _) ?_
            refine aw_aload_n dX2_goesRound_59 rfl rfl ?_
            refine aw_iload dX2_goesRound_60 rfl ?_
            refine aw_putI fp_X2_22_2 dX2_goesRound_62 (by omega) he_L3 rfl rfl (Nat.le_of_ble_eq_true rfl) rfl (L3_h _ _ _ _ _) ?_
            refine aw_iconst (v := 1) dX2_goesRound_65 (by decide) ?_
            refine aw_istore_n dX2_goesRound_66 rfl (by decide) rfl ?_
            refine aw_iinc (v := 1) dX2_goesRound_67 rfl (by decide) (by decide) rfl ?_
            refine aw_goto (tgt := 5) dX2_goesRound_70 (by decide) ?_
            rw [nI_1]
            exact ih (m - 1) (by omega) (i + 1) _ _ _ _ (by omega) (by rw [rndN, hq]; (try simp only [b2i_eq0, b2i_ne0] at *); simp [stp, *])
theorem stp_b {my : Nat → Int32} {set : Int32} {i : Nat} {q : Int32 × Int32 × Int32 × Int32} (h : q.2.2.2 = 0 ∨ q.2.2.2 = 1) : (stp my set i q).2.2.2 = 0 ∨ (stp my set i q).2.2.2 = 1 := by
  unfold stp
  split
  · exact h
  · split
    · exact h
    · split
      · exact h
      · exact Or.inr rfl
theorem rndN_b {my : Nat → Int32} {set : Int32} {q : Int32 × Int32 × Int32 × Int32} (h : q.2.2.2 = 0 ∨ q.2.2.2 = 1) : ∀ i, (rndN my set q i).2.2.2 = 0 ∨ (rndN my set q i).2.2.2 = 1
  | 0 => h
  | i + 1 => stp_b (rndN_b h i)
theorem nb01 {b : Int32} (h : b = 0 ∨ b = 1) : narrow .boolean (.int b) = .int b := by rcases h with rfl | rfl <;> rfl
set_option maxRecDepth 100000 in
set_option maxHeartbeats 4000000 in
theorem c_X2_goesRound {l : Launch} {D : va_G} {tc : Nat → ClassId} (pk : Nat → Nat) (G : Nat → Option Nat) (I F : Nat → Nat → Int32) (n : Nat) (hn : 30 ≤ n) (x f h s : Int32) : AM l D tc yX2_goesRound cX2_goesRound 5 (some .boolean) 2 41 0 0 [.ref 4, .ref 3, .int x] n (hC pk G (L3 I f h s) F) (fun v n1 h1 => n1 = n ∧ (v = some (.int (rndN (F 3) x (f, h, s, 0) 6).2.2.2) ∧ h1 = hC pk G (L3 I (rndN (F 3) x (f, h, s, 0) 6).1 (rndN (F 3) x (f, h, s, 0) 6).2.1 (rndN (F 3) x (f, h, s, 0) 6).2.2.1) F)) := by
  refine am_of (L := [some (.ref 4), some (.ref 3), some (.int x), none, none]) (by decide +kernel) (Nat.le_of_ble_eq_true rfl) rfl ?_
  refine aw_iconst (v := 0) dX2_goesRound_0 (by decide) ?_
  refine aw_istore_n dX2_goesRound_1 rfl (by decide) rfl ?_
  refine aw_iconst (v := 0) dX2_goesRound_2 (by decide) ?_
  refine aw_istore dX2_goesRound_3 (by decide) rfl ?_
  exact lp_X2_goesRound pk G I F n hn x (f, h, s, 0) (fun b hb => nb01 (hb ▸ rndN_b (Or.inl rfl) 6)) 6 0 f h s 0 (by omega) rfl
set_option maxRecDepth 100000 in
set_option maxHeartbeats 4000000 in
theorem lp_X2_leastOf {l : Launch} {D : va_G} {tc : Nat → ClassId} (x r : Int32) (n : Nat) (h : aw_H) : ∀ (m i : Nat), i + m = 6 → lstN x i m = r → AW l D tc yX2_leastOf.cls cX2_leastOf 2 (some .int) { frames := 2, cells := 0, slots := 0, locals := 41 } n 0 0 (fun v n1 h1 => n1 = n ∧ (v = some (.int r) ∧ h1 = h)) 2 [some (.int x), some (.int (nI i))] [] n h 0 0 := by
  intro m
  induction m using Nat.strongRecOn with
  | _ m ih =>
    intro i hi hq
    refine aw_iload_n dX2_leastOf_2 rfl rfl ?_
    refine aw_bipush (v := (6)) dX2_leastOf_3 (by decide) ?_
    refine aw_icmp_ge (tgt := 24) dX2_leastOf_5 (by decide) (fun c_5 => ?_) (fun c_5 => ?_)
    · have hi6 := lp_ge (N := 6) (by decide) (by omega) c_5
      have hm : m = 0 := by omega
      subst hm
      refine aw_bipush (v := (-9)) dX2_leastOf_24 (by decide) ?_
      refine aw_iret dX2_leastOf_26 (Nat.zero_le _) (Nat.zero_le _) ?_
      refine ⟨rfl, ?_, rfl⟩
      rw [← hq]
      rfl
    · have hi6 := lp_lt (N := 6) (by omega) c_5
      refine aw_iload_n dX2_leastOf_8 rfl rfl ?_
      refine aw_iload_n dX2_leastOf_9 rfl rfl ?_
      refine aw_callSN (host := RX8) cw_X8_has (by decide +kernel) sm_X8_has (c_X8_has _ _ _ _) ⟨Nat.le_of_ble_eq_true rfl, Nat.le_of_ble_eq_true rfl⟩ ⟨Nat.zero_le _, Nat.zero_le _⟩ rfl rfl (Nat.le_of_ble_eq_true rfl) dX2_leastOf_10 ?_
      rintro _ _ ⟨rfl, rfl⟩
      refine aw_if_eq (tgt := 18) dX2_leastOf_13 (by decide) (fun c_13 => ?_) (fun c_13 => ?_)
      · refine aw_iinc (v := 1) dX2_leastOf_18 rfl (by decide) (by decide) rfl ?_
        refine aw_goto (tgt := 2) dX2_leastOf_21 (by decide) ?_
        rw [nI_1]
        exact ih (m - 1) (by omega) (i + 1) (by omega) (by
          obtain ⟨m2, rfl⟩ : ∃ m2, m = m2 + 1 := ⟨m - 1, by omega⟩
          rw [← hq, lstN, if_neg (by rw [(b2i_eq0 _).mp c_13]; decide)]
          rfl)
      · refine aw_iload_n dX2_leastOf_16 rfl rfl ?_
        refine aw_iret dX2_leastOf_17 (Nat.zero_le _) (Nat.zero_le _) ?_
        obtain ⟨m2, rfl⟩ : ∃ m2, m = m2 + 1 := ⟨m - 1, by omega⟩
        refine ⟨rfl, ?_, rfl⟩
        rw [← hq, lstN, if_pos ((b2i_ne0 _).mp c_13)]
set_option maxRecDepth 100000 in
set_option maxHeartbeats 4000000 in
theorem c_X2_leastOf {l : Launch} {D : va_G} {tc : Nat → ClassId} (x : Int32) (n : Nat) (h : aw_H) : AM l D tc yX2_leastOf cX2_leastOf 2 (some .int) 2 41 0 0 [.int x] n h (fun v n1 h1 => n1 = n ∧ (v = some (.int (sLst x)) ∧ h1 = h)) := by
  refine am_of (L := [some (.int x), none]) (by decide +kernel) (Nat.le_of_ble_eq_true rfl) rfl ?_
  refine aw_iconst (v := 0) dX2_leastOf_0 (by decide) ?_
  refine aw_istore_n dX2_leastOf_1 rfl (by decide) rfl ?_
  exact lp_X2_leastOf x (sLst x) n h 6 0 (by omega) rfl
set_option maxRecDepth 100000 in
set_option maxHeartbeats 4000000 in
theorem lp_X2_letDown {l : Launch} {D : va_G} {tc : Nat → ClassId} (pk : Nat → Nat) (G : Nat → Option Nat) (I F : Nat → Nat → Int32) (n : Nat) (hn : 30 ≤ n) (x : Int32) : ∀ (m i : Nat) (f h s b : Int32), i + m = 19 → itN (F 3) x i = (f, h, s, b) → AW l D tc yX2_letDown.cls cX2_letDown 5 (some .int) { frames := 3, cells := 0, slots := 0, locals := 65 } n 0 0 (fun v n1 h1 => n1 = n ∧ (v = some (.int (sDown (F 3) x)) ∧ h1 = hC pk G (L3 I (sCall (F 3) x).1 (sCall (F 3) x).2.1 (sCall (F 3) x).2.2.1) F)) 22 [some (.ref 4), some (.ref 3), some (.int x), some (.int b), some (.int (nI i))] [] n (hC pk G (L3 I f h s) F) 0 0 := by
  intro m
  induction m using Nat.strongRecOn with
  | _ m ih =>
    intro i f h s b hi hq
    refine aw_iload dX2_letDown_22 rfl ?_
    refine aw_bipush (v := (18)) dX2_letDown_24 (by decide) ?_
    refine aw_icmp_gt (tgt := 46) dX2_letDown_26 (by decide) (fun c_26 => ?_) (fun c_26 => ?_)
    · have hi6 : i = 19 := by
        rcases Nat.lt_or_ge 18 i with q | q
        · omega
        · exact absurd c_26 (nI_nlt (b := i) (a := 18) q (by omega))
      have hc : sCall (F 3) x = (f, h, s, b) := by rw [sCall, ← hq, hi6]
      refine aw_aload_n dX2_letDown_46 rfl rfl ?_
      refine aw_get fd_X2_22_2 dX2_letDown_47 (by omega) he_L3 rfl ?_
      refine aw_bipush (v := (-9)) dX2_letDown_50 (by decide) ?_
      refine aw_icmp_ne (tgt := 62) dX2_letDown_52 (by decide) (fun c_52 => ?_) (fun c_52 => ?_)
      · refine aw_aload_n dX2_letDown_62 rfl rfl ?_
        refine aw_get fd_X2_22_2 dX2_letDown_63 (by omega) he_L3 rfl ?_
        refine aw_iret dX2_letDown_66 (Nat.zero_le _) (Nat.zero_le _) ?_
        rw [sDown, hc]
        refine ⟨rfl, ?_, rfl⟩
        simp [*]
      · refine aw_iload_n dX2_letDown_55 rfl rfl ?_
        refine aw_callS cw_X2_leastOf ml_X2_32 sm_X2_leastOf (c_X2_leastOf _ _ _) ⟨Nat.le_of_ble_eq_true rfl, Nat.le_of_ble_eq_true rfl⟩ ⟨Nat.zero_le _, Nat.zero_le _⟩ rfl rfl (Nat.le_of_ble_eq_true rfl) dX2_letDown_56 ?_
        rintro _ _ ⟨rfl, rfl⟩
        refine aw_goto (tgt := 66) dX2_letDown_59 (by decide) ?_
        refine aw_iret dX2_letDown_66 (Nat.zero_le _) (Nat.zero_le _) ?_
        rw [sDown, hc]
        refine ⟨rfl, ?_, rfl⟩
        simp [*]
    · have hi6 : i < 19 := by
        rcases Nat.lt_or_ge i 19 with q | q
        · exact q
        · exact absurd (nI_lt (a := 18) (by omega) (by omega)) c_26
      refine aw_iload_n dX2_letDown_29 rfl rfl ?_
      refine aw_if_eq (tgt := 46) dX2_letDown_30 (by decide) (fun c_30 => ?_) (fun c_30 => ?_)
      · have hc : sCall (F 3) x = (f, h, s, b) := by
          rw [sCall, ← hq, show 19 = i + m by omega]
          exact itN_stop (by rw [hq]; exact c_30) m
        refine aw_aload_n dX2_letDown_46 rfl rfl ?_
        refine aw_get fd_X2_22_2 dX2_letDown_47 (by omega) he_L3 rfl ?_
        refine aw_bipush (v := (-9)) dX2_letDown_50 (by decide) ?_
        refine aw_icmp_ne (tgt := 62) dX2_letDown_52 (by decide) (fun c_52 => ?_) (fun c_52 => ?_)
        · refine aw_aload_n dX2_letDown_62 rfl rfl ?_
          refine aw_get fd_X2_22_2 dX2_letDown_63 (by omega) he_L3 rfl ?_
          refine aw_iret dX2_letDown_66 (Nat.zero_le _) (Nat.zero_le _) ?_
          rw [sDown, hc]
          refine ⟨rfl, ?_, rfl⟩
          simp [*]
        · refine aw_iload_n dX2_letDown_55 rfl rfl ?_
          refine aw_callS cw_X2_leastOf ml_X2_32 sm_X2_leastOf (c_X2_leastOf _ _ _) ⟨Nat.le_of_ble_eq_true rfl, Nat.le_of_ble_eq_true rfl⟩ ⟨Nat.zero_le _, Nat.zero_le _⟩ rfl rfl (Nat.le_of_ble_eq_true rfl) dX2_letDown_56 ?_
          rintro _ _ ⟨rfl, rfl⟩
          refine aw_goto (tgt := 66) dX2_letDown_59 (by decide) ?_
          refine aw_iret dX2_letDown_66 (Nat.zero_le _) (Nat.zero_le _) ?_
          rw [sDown, hc]
          refine ⟨rfl, ?_, rfl⟩
          simp [*]
      · refine aw_aload_n dX2_letDown_33 rfl rfl ?_
        refine aw_aload_n dX2_letDown_34 rfl rfl ?_
        refine aw_iload_n dX2_letDown_35 rfl rfl ?_
        refine aw_callV cw_X2_goesRound ml_X2_28 im_X2_goesRound sl_X2_X2_goesRound rfl (by omega) he_L3 (c_X2_goesRound pk G _ _ n hn _ _ _ _) ⟨Nat.le_of_ble_eq_true rfl, Nat.le_of_ble_eq_true rfl⟩ ⟨Nat.zero_le _, Nat.zero_le _⟩ rfl rfl (Nat.le_of_ble_eq_true rfl) dX2_letDown_36 ?_
        rintro _ _ ⟨rfl, rfl⟩
        refine aw_istore_n dX2_letDown_39 rfl (by decide) rfl ?_
        refine aw_iinc (v := 1) dX2_letDown_40 rfl (by decide) (by decide) rfl ?_
        refine aw_goto (tgt := 22) dX2_letDown_43 (by decide) ?_
        rw [nI_1]
        have e9 : itN (F 3) x (i + 1) = rndN (F 3) x (f, h, s, 0) 6 := by simp only [itN, hq, c_30, if_false]
        generalize rndN (F 3) x (f, h, s, 0) 6 = q at e9 ⊢
        obtain ⟨f2, h2, s2, b2⟩ := q
        exact ih (m - 1) (by omega) (i + 1) _ _ _ _ (by omega) e9
set_option maxRecDepth 100000 in
set_option maxHeartbeats 4000000 in
theorem c_X2_letDown3 {l : Launch} {D : va_G} {tc : Nat → ClassId} (pk : Nat → Nat) (G : Nat → Option Nat) (I F : Nat → Nat → Int32) (n : Nat) (hn : 30 ≤ n) (x f h s : Int32) : AM l D tc yX2_letDown cX2_letDown 5 (some .int) 3 65 0 0 [.ref 4, .ref 3, .int x] n (hC pk G (L3 I f h s) F) (fun v n1 h1 => n1 = n ∧ (v = some (.int (sDown (F 3) x)) ∧ h1 = hC pk G (L3 I (sCall (F 3) x).1 (sCall (F 3) x).2.1 (sCall (F 3) x).2.2.1) F)) := by
  refine am_of (L := [some (.ref 4), some (.ref 3), some (.int x), none, none]) (by decide +kernel) (Nat.le_of_ble_eq_true rfl) rfl ?_
  refine aw_aload_n dX2_letDown_0 rfl rfl ?_
  refine aw_iconst (v := 0) dX2_letDown_1 (by decide) ?_
  refine aw_putI fp_X2_18_2 dX2_letDown_2 (by omega) he_L3 rfl rfl (Nat.le_of_ble_eq_true rfl) rfl (L3_f _ _ _ _ _) ?_
  refine aw_aload_n dX2_letDown_5 rfl rfl ?_
  refine aw_bipush (v := (-9)) dX2_letDown_6 (by decide) ?_
  refine aw_putI fp_X2_22_2 dX2_letDown_8 (by omega) he_L3 rfl rfl (Nat.le_of_ble_eq_true rfl) rfl (L3_h _ _ _ _ _) ?_
  refine aw_aload_n dX2_letDown_11 rfl rfl ?_
  refine aw_bipush (v := (-9)) dX2_letDown_12 (by decide) ?_
  refine aw_putI fp_X2_25_2 dX2_letDown_14 (by omega) he_L3 rfl rfl (Nat.le_of_ble_eq_true rfl) rfl (L3_s _ _ _ _ _) ?_
  refine aw_iconst (v := 1) dX2_letDown_17 (by decide) ?_
  refine aw_istore_n dX2_letDown_18 rfl (by decide) rfl ?_
  refine aw_iconst (v := 0) dX2_letDown_19 (by decide) ?_
  refine aw_istore dX2_letDown_20 (by decide) rfl ?_
  exact lp_X2_letDown pk G I F n hn x 19 0 0 (-9) (-9) 1 (by omega) rfl
theorem c_X2_letDown {l : Launch} {D : va_G} {tc : Nat → ClassId} (pk : Nat → Nat) (G : Nat → Option Nat) (I F : Nat → Nat → Int32) (n : Nat) (hn : 30 ≤ n) (x : Int32) : AM l D tc yX2_letDown cX2_letDown 5 (some .int) 3 65 0 0 [.ref 4, .ref 3, .int x] n (hC pk G I F) (fun v n1 h1 => n1 = n ∧ (v = some (.int (sDown (F 3) x)) ∧ h1 = hC pk G (L3 I (sCall (F 3) x).1 (sCall (F 3) x).2.1 (sCall (F 3) x).2.2.1) F)) := by
  have h := c_X2_letDown3 (l := l) (D := D) (tc := tc) pk G I F n hn x (I 4 2) (I 4 3) (I 4 4)
  rw [← L3_I] at h
  exact h
end
section
/-! all go down, one behind another; readings -/
def pf (g f : Nat → Int32) (k : Nat) : Nat → Int32 := fun j => if j < k then g j else f j
theorem pf_0 (g f : Nat → Int32) : pf g f 0 = f := by funext j; simp [pf]
theorem pf_s (g f : Nat → Int32) (k : Nat) : upd (pf g f k) k (g k) = pf g f (k + 1) := by
  funext j
  unfold upd pf
  by_cases e : j = k
  · subst e; simp
  · by_cases q : j < k
    · simp [e, q, Nat.lt_succ_of_lt q]
    · simp [e, q, show ¬ j < k + 1 by omega]
def lfN (my : Nat → Int32) (set : Int32) : Nat → Int32
  | 0 => set
  | k + 1 => sClr (lfN my set k) (sDown my (lfN my set k))
def dnN (my : Nat → Int32) (set : Int32) (k : Nat) : Int32 := sDown my (lfN my set k)
def frN (my : Nat → Int32) (set : Int32) (k : Nat) : Int32 := (sCall my (lfN my set k)).1
def gtC (my : Nat → Int32) (set : Int32) : Nat → Nat → Nat
  | i, 0 => i
  | i, m + 1 => if lfN my set i = 0 then i else gtC my set (i + 1) m
def gtM (my : Nat → Int32) (set : Int32) : Nat := gtC my set 0 6
theorem gtC_le (my : Nat → Int32) (set : Int32) : ∀ m i, i ≤ gtC my set i m ∧ gtC my set i m ≤ i + m
  | 0, i => by simp [gtC]
  | m + 1, i => by
    have := gtC_le my set m (i + 1)
    rw [gtC]
    split <;> omega
theorem gtM_le (my : Nat → Int32) (set : Int32) : gtM my set ≤ 6 := by
  have := (gtC_le my set 6 0).2
  unfold gtM
  omega
def gtF (F : Nat → Nat → Int32) (set : Int32) (k : Nat) : Nat → Nat → Int32 := st_F (st_F F 5 (pf (dnN (F 3) set) (F 5) k)) 6 (pf (frN (F 3) set) (F 6) k)
theorem gtF_0 (F : Nat → Nat → Int32) (set : Int32) : gtF F set 0 = F := by
  unfold gtF
  rw [pf_0, pf_0, st_F0]
  have : st_F F 6 (F 6) = F := st_F0 F 6
  exact this
theorem gtF_s (F : Nat → Nat → Int32) (set : Int32) (k : Nat) : st_F (st_F (gtF F set k) 5 (upd (gtF F set k 5) k (dnN (F 3) set k))) 6 (upd (gtF F set k 6) k (frN (F 3) set k)) = gtF F set (k + 1) := by
  have e5 : gtF F set k 5 = pf (dnN (F 3) set) (F 5) k := rfl
  have e6 : gtF F set k 6 = pf (frN (F 3) set) (F 6) k := rfl
  rw [e5, e6, pf_s, pf_s]
  funext a
  unfold gtF st_F
  by_cases h6 : a = 6
  · subst h6; simp
  · by_cases h5 : a = 5
    · subst h5; simp
    · simp [h5, h6]
def fdN (g : Nat → Int32) (p : Int32) : Nat → Nat → Int32
  | _, 0 => 6
  | i, m + 1 => if g i = p then nI i else fdN g p (i + 1) m
def sPlace (my : Nat → Int32) (set p : Int32) : Int32 := fdN (dnN my set) p 0 (gtM my set)

set_option maxRecDepth 100000 in
set_option maxHeartbeats 4000000 in
theorem lp_X2_goThroughAll {l : Launch} {D : va_G} {tc : Nat → ClassId} (pk : Nat → Nat) (G : Nat → Option Nat) (I F : Nat → Nat → Int32) (n : Nat) (hn : 30 ≤ n) (x : Int32) : ∀ (m i : Nat) (f h s : Int32) (w : Option Value), i + m = 6 → gtC (F 3) x i m = gtM (F 3) x → AW l D tc yX2_goThroughAll.cls cX2_goThroughAll 7 (some .int) { frames := 4, cells := 0, slots := 0, locals := 89 } n 0 0 (fun v n1 h1 => n1 = n ∧ (v = some (.int (nI (gtM (F 3) x))) ∧ ∃ f h s : Int32, h1 = hC pk G (L3 I f h s) (gtF F x (gtM (F 3) x)))) 8 [some (.ref 4), some (.ref 3), some (.int x), some (.int (lfN (F 3) x i)), some (.int (nI i)), some (.int (nI i)), w] [] n (hC pk G (L3 I f h s) (gtF F x i)) 0 0 := by
  intro m
  induction m using Nat.strongRecOn with
  | _ m ih =>
    intro i f h s w hi hq
    refine aw_iload dX2_goThroughAll_8 rfl ?_
    refine aw_bipush (v := (6)) dX2_goThroughAll_10 (by decide) ?_
    refine aw_icmp_ge (tgt := 66) dX2_goThroughAll_12 (by decide) (fun c_12 => ?_) (fun c_12 => ?_)
    · have hi6 := lp_ge (N := 6) (by decide) (by omega) c_12
      have hm : m = 0 := by omega
      subst hm
      have hM : gtM (F 3) x = i := by rw [← hq]; rfl
      refine aw_iload dX2_goThroughAll_66 rfl ?_
      refine aw_iret dX2_goThroughAll_68 (Nat.zero_le _) (Nat.zero_le _) ?_
      rw [hM]
      exact ⟨rfl, rfl, f, h, s, rfl⟩
    · have hi6 := lp_lt (N := 6) (by omega) c_12
      refine aw_iload_n dX2_goThroughAll_15 rfl rfl ?_
      refine aw_if_eq (tgt := 66) dX2_goThroughAll_16 (by decide) (fun c_16 => ?_) (fun c_16 => ?_)
      · obtain ⟨m2, rfl⟩ : ∃ m2, m = m2 + 1 := ⟨m - 1, by omega⟩
        have hM : gtM (F 3) x = i := by rw [← hq, gtC, if_pos c_16]
        refine aw_iload dX2_goThroughAll_66 rfl ?_
        refine aw_iret dX2_goThroughAll_68 (Nat.zero_le _) (Nat.zero_le _) ?_
        rw [hM]
        exact ⟨rfl, rfl, f, h, s, rfl⟩
      · refine aw_aload_n dX2_goThroughAll_19 rfl rfl ?_
        refine aw_aload_n dX2_goThroughAll_20 rfl rfl ?_
        refine aw_iload_n dX2_goThroughAll_21 rfl rfl ?_
        refine aw_callV cw_X2_letDown ml_X2_40 im_X2_letDown sl_X2_X2_letDown rfl (by omega) he_L3 (c_X2_letDown3 pk G I (gtF F x i) n hn (lfN (F 3) x i) f h s) ⟨Nat.le_of_ble_eq_true rfl, Nat.le_of_ble_eq_true rfl⟩ ⟨Nat.zero_le _, Nat.zero_le _⟩ rfl rfl (Nat.le_of_ble_eq_true rfl) dX2_goThroughAll_22 ?_
        rintro _ _ ⟨rfl, rfl⟩
        refine aw_istore dX2_goThroughAll_25 (by decide) rfl ?_
        refine aw_aload_n dX2_goThroughAll_27 rfl rfl ?_
        refine aw_get fd_X2_9_2 dX2_goThroughAll_28 (by omega) he_L3 rfl ?_
        refine aw_iload dX2_goThroughAll_31 rfl ?_
        refine aw_iload dX2_goThroughAll_33 rfl ?_
        refine aw_iasti dX2_goThroughAll_35 (by omega) rfl (fun _ => rfl) (vp_in_nI hi6 (by decide)) ?_
        refine aw_aload_n dX2_goThroughAll_36 rfl rfl ?_
        refine aw_get fd_X2_15_2 dX2_goThroughAll_37 (by omega) he_L3 rfl ?_
        refine aw_iload dX2_goThroughAll_40 rfl ?_
        refine aw_aload_n dX2_goThroughAll_42 rfl rfl ?_
        refine aw_get fd_X2_18_2 dX2_goThroughAll_43 (by omega) he_L3 rfl ?_
        refine aw_iastI dX2_goThroughAll_46 (by omega) rfl (fun _ => rfl) (vp_in_nI hi6 (by decide)) (show _ = gtF F x (i + 1) from by rw [← gtF_s, nI_clamp (show i < 2 ^ 31 by omega)]; rfl) ?_
        refine aw_iload_n dX2_goThroughAll_47 rfl rfl ?_
        refine aw_iload dX2_goThroughAll_48 rfl ?_
        refine aw_callSN (host := RX8) cw_X8_bit (by decide +kernel) sm_X8_bit (c_X8_bit _ _ _) ⟨Nat.le_of_ble_eq_true rfl, Nat.le_of_ble_eq_true rfl⟩ ⟨Nat.zero_le _, Nat.zero_le _⟩ rfl rfl (Nat.le_of_ble_eq_true rfl) dX2_goThroughAll_50 ?_
        rintro _ _ ⟨rfl, rfl⟩
        refine aw_iconst (v := (-1)) dX2_goThroughAll_53 (by decide) ?_
        refine aw_ixor dX2_goThroughAll_54 ?_
        refine aw_iand dX2_goThroughAll_55 ?_
        refine aw_istore_n dX2_goThroughAll_56 rfl (by decide) rfl ?_
        refine aw_iinc (v := 1) dX2_goThroughAll_57 rfl (by decide) (by decide) rfl ?_
        refine aw_iinc (v := 1) dX2_goThroughAll_60 rfl (by decide) (by decide) rfl ?_
        refine aw_goto (tgt := 8) dX2_goThroughAll_63 (by decide) ?_
        rw [nI_1]
        exact ih (m - 1) (by omega) (i + 1) _ _ _ _ (by omega) (by
          obtain ⟨m2, rfl⟩ : ∃ m2, m = m2 + 1 := ⟨m - 1, by omega⟩
          rw [← hq, gtC, if_neg c_16]
          rfl)
set_option maxRecDepth 100000 in
set_option maxHeartbeats 4000000 in
theorem c_X2_goThroughAll {l : Launch} {D : va_G} {tc : Nat → ClassId} (pk : Nat → Nat) (G : Nat → Option Nat) (I F : Nat → Nat → Int32) (n : Nat) (hn : 30 ≤ n) (x : Int32) : AM l D tc yX2_goThroughAll cX2_goThroughAll 7 (some .int) 4 89 0 0 [.ref 4, .ref 3, .int x] n (hC pk G I F) (fun v n1 h1 => n1 = n ∧ (v = some (.int (nI (gtM (F 3) x))) ∧ ∃ f h s : Int32, h1 = hC pk G (L3 I f h s) (gtF F x (gtM (F 3) x)))) := by
  refine am_of (L := [some (.ref 4), some (.ref 3), some (.int x), none, none, none, none]) (by decide +kernel) (Nat.le_of_ble_eq_true rfl) rfl ?_
  refine aw_iload_n dX2_goThroughAll_0 rfl rfl ?_
  refine aw_istore_n dX2_goThroughAll_1 rfl (by decide) rfl ?_
  refine aw_iconst (v := 0) dX2_goThroughAll_2 (by decide) ?_
  refine aw_istore dX2_goThroughAll_3 (by decide) rfl ?_
  refine aw_iconst (v := 0) dX2_goThroughAll_5 (by decide) ?_
  refine aw_istore dX2_goThroughAll_6 (by decide) rfl ?_
  have hl := lp_X2_goThroughAll (l := l) (D := D) (tc := tc) pk G I F n hn x 6 0 (I 4 2) (I 4 3) (I 4 4) none (by omega) rfl
  rw [← L3_I, gtF_0] at hl
  exact hl
set_option maxRecDepth 100000 in
set_option maxHeartbeats 4000000 in
theorem lp_X2_placeOf {l : Launch} {D : va_G} {tc : Nat → ClassId} (pk : Nat → Nat) (G : Nat → Option Nat) (I F : Nat → Nat → Int32) (n : Nat) (hn : 30 ≤ n) (x y f9 h9 s9 : Int32) : ∀ (m i : Nat), i + m = gtM (F 3) x → fdN (dnN (F 3) x) y i m = sPlace (F 3) x y → AW l D tc yX2_placeOf.cls cX2_placeOf 6 (some .int) { frames := 5, cells := 0, slots := 0, locals := 115 } n 0 0 (fun v n1 h1 => n1 = n ∧ (v = some (.int (sPlace (F 3) x y)) ∧ ∃ f h s : Int32, h1 = hC pk G (L3 I f h s) (gtF F x (gtM (F 3) x)))) 11 [some (.ref 4), some (.int y), some (.ref 3), some (.int x), some (.int (nI (gtM (F 3) x))), some (.int (nI i))] [] n (hC pk G (L3 I f9 h9 s9) (gtF F x (gtM (F 3) x))) 0 0 := by
  have hM := gtM_le (F 3) x
  intro m
  induction m using Nat.strongRecOn with
  | _ m ih =>
    intro i hi hq
    refine aw_iload dX2_placeOf_11 rfl ?_
    refine aw_iload dX2_placeOf_13 rfl ?_
    refine aw_icmp_ge (tgt := 38) dX2_placeOf_15 (by decide) (fun c_15 => ?_) (fun c_15 => ?_)
    · have hi6 := lp_ge (N := gtM (F 3) x) (by omega) (by omega) c_15
      have hm : m = 0 := by omega
      subst hm
      refine aw_bipush (v := (6)) dX2_placeOf_38 (by decide) ?_
      refine aw_iret dX2_placeOf_40 (Nat.zero_le _) (Nat.zero_le _) ?_
      refine ⟨rfl, ?_, f9, h9, s9, rfl⟩
      rw [← hq]
      rfl
    · have hi6 := lp_lt (N := gtM (F 3) x) (by omega) c_15
      refine aw_aload_n dX2_placeOf_18 rfl rfl ?_
      refine aw_get fd_X2_9_2 dX2_placeOf_19 (by omega) he_L3 rfl ?_
      refine aw_iload dX2_placeOf_22 rfl ?_
      refine aw_iald dX2_placeOf_24 (by omega) rfl (vp_in_nI (by omega) (by decide)) ?_
      have hv : gtF F x (gtM (F 3) x) 5 (nI i).toNatClampNeg = dnN (F 3) x i := by
        rw [nI_clamp (by omega)]
        exact if_pos hi6
      refine aw_iload_n dX2_placeOf_25 rfl rfl ?_
      refine aw_icmp_ne (tgt := 32) dX2_placeOf_26 (by decide) (fun c_26 => ?_) (fun c_26 => ?_)
      · refine aw_iinc (v := 1) dX2_placeOf_32 rfl (by decide) (by decide) rfl ?_
        refine aw_goto (tgt := 11) dX2_placeOf_35 (by decide) ?_
        rw [nI_1]
        exact ih (m - 1) (by omega) (i + 1) (by omega) (by
          obtain ⟨m2, rfl⟩ : ∃ m2, m = m2 + 1 := ⟨m - 1, by omega⟩
          rw [← hq, fdN, if_neg (by rw [← hv]; exact c_26)]
          rfl)
      · refine aw_iload dX2_placeOf_29 rfl ?_
        refine aw_iret dX2_placeOf_31 (Nat.zero_le _) (Nat.zero_le _) ?_
        obtain ⟨m2, rfl⟩ : ∃ m2, m = m2 + 1 := ⟨m - 1, by omega⟩
        refine ⟨rfl, ?_, f9, h9, s9, rfl⟩
        rw [← hq, fdN, if_pos (by rw [← hv]; exact c_26)]
set_option maxRecDepth 100000 in
set_option maxHeartbeats 4000000 in
theorem c_X2_placeOf {l : Launch} {D : va_G} {tc : Nat → ClassId} (pk : Nat → Nat) (G : Nat → Option Nat) (I F : Nat → Nat → Int32) (n : Nat) (hn : 30 ≤ n) (x y : Int32) : AM l D tc yX2_placeOf cX2_placeOf 6 (some .int) 5 115 0 0 [.ref 4, .int y, .ref 3, .int x] n (hC pk G I F) (fun v n1 h1 => n1 = n ∧ (v = some (.int (sPlace (F 3) x y)) ∧ ∃ f h s : Int32, h1 = hC pk G (L3 I f h s) (gtF F x (gtM (F 3) x)))) := by
  refine am_of (L := [some (.ref 4), some (.int y), some (.ref 3), some (.int x), none, none]) (by decide +kernel) (Nat.le_of_ble_eq_true rfl) rfl ?_
  refine aw_aload_n dX2_placeOf_0 rfl rfl ?_
  refine aw_aload_n dX2_placeOf_1 rfl rfl ?_
  refine aw_iload_n dX2_placeOf_2 rfl rfl ?_
  refine aw_callV cw_X2_goThroughAll ml_X2_47 im_X2_goThroughAll sl_X2_X2_goThroughAll rfl (by omega) rfl (c_X2_goThroughAll pk G _ _ n hn _) ⟨Nat.le_of_ble_eq_true rfl, Nat.le_of_ble_eq_true rfl⟩ ⟨Nat.zero_le _, Nat.zero_le _⟩ rfl rfl (Nat.le_of_ble_eq_true rfl) dX2_placeOf_3 ?_
  rintro _ _ ⟨rfl, f9, h9, s9, rfl⟩
  refine aw_istore dX2_placeOf_6 (by decide) rfl ?_
  refine aw_iconst (v := 0) dX2_placeOf_8 (by decide) ?_
  refine aw_istore dX2_placeOf_9 (by decide) rfl ?_
  exact lp_X2_placeOf pk G I F n hn x y f9 h9 s9 _ 0 (by omega) rfl
def rdF (F : Nat → Nat → Int32) (c : Nat) (p s o : Int32) : Nat → Nat → Int32 := st_F (st_F (st_F F 18 (upd (F 18) c p)) 19 (upd (F 19) c s)) 20 (upd (F 20) c o)
theorem nar_b (b : Bool) : vp_nar .boolean (b2i b) = b2i b := by cases b <;> rfl
set_option maxRecDepth 100000 in
set_option maxHeartbeats 4000000 in
theorem c_X5_add {l : Launch} {D : va_G} {tc : Nat → ClassId} (pk : Nat → Nat) (G : Nat → Option Nat) (I F : Nat → Nat → Int32) (n : Nat) (hn : 30 ≤ n) {c : Nat} (hc : c < 8) (hI : I 17 3 = nI c) (p s : Int32) (b : Bool) : AM l D tc yX5_add cX5_add 4 (some .int) 1 22 0 0 [.ref 17, .int p, .int s, .int (b2i b)] n (hC pk G I F) (fun v n1 h1 => n1 = n ∧ (v = some (.int (nI c)) ∧ h1 = hC pk G (st_I I 17 3 (nI (c + 1))) (rdF F c p s (b2i b)))) := by
  refine am_of (L := [some (.ref 17), some (.int p), some (.int s), some (.int (b2i b))]) (by decide +kernel) (Nat.le_of_ble_eq_true rfl) rfl ?_
  refine aw_aload_n dX5_add_0 rfl rfl ?_
  refine aw_get fd_X5_22_5 dX5_add_1 (by omega) rfl rfl ?_
  refine aw_iconst (v := 0) dX5_add_4 (by decide) ?_
  refine aw_bipush (v := (7)) dX5_add_5 (by decide) ?_
  refine aw_callSN (host := RX8) cw_X8_isWithin (by decide +kernel) sm_X8_isWithin (c_X8_isWithin _ _ _ _ _) ⟨Nat.le_of_ble_eq_true rfl, Nat.le_of_ble_eq_true rfl⟩ ⟨Nat.zero_le _, Nat.zero_le _⟩ rfl rfl (Nat.le_of_ble_eq_true rfl) dX5_add_7 ?_
  rintro _ _ ⟨rfl, rfl⟩
  refine aw_if_ne (tgt := 16) dX5_add_10 (by decide) (fun c_10 => ?_) (fun c_10 => ?_)
  · refine aw_aload_n dX5_add_16 rfl rfl ?_
    refine aw_get fd_X5_9_5 dX5_add_17 (by omega) rfl rfl ?_
    refine aw_aload_n dX5_add_20 rfl rfl ?_
    refine aw_get fd_X5_22_5 dX5_add_21 (by omega) rfl rfl ?_
    refine aw_iload_n dX5_add_24 rfl rfl ?_
    refine aw_iasti dX5_add_25 (by omega) rfl (fun _ => rfl) (by first | (rw [hI]; exact vp_in_nI hc (by decide))) ?_
    refine aw_aload_n dX5_add_26 rfl rfl ?_
    refine aw_get fd_X5_15_5 dX5_add_27 (by omega) rfl rfl ?_
    refine aw_aload_n dX5_add_30 rfl rfl ?_
    refine aw_get fd_X5_22_5 dX5_add_31 (by omega) rfl rfl ?_
    refine aw_iload_n dX5_add_34 rfl rfl ?_
    refine aw_iasti dX5_add_35 (by omega) rfl (fun _ => rfl) (by first | (rw [hI]; exact vp_in_nI hc (by decide))) ?_
    refine aw_aload_n dX5_add_36 rfl rfl ?_
    refine aw_get fd_X5_18_5 dX5_add_37 (by omega) rfl rfl ?_
    refine aw_aload_n dX5_add_40 rfl rfl ?_
    refine aw_get fd_X5_22_5 dX5_add_41 (by omega) rfl rfl ?_
    refine aw_iload_n dX5_add_44 rfl rfl ?_
    refine aw_zasti dX5_add_45 (by omega) rfl (fun _ => rfl) (by first | (rw [hI]; exact vp_in_nI hc (by decide))) ?_
    refine aw_aload_n dX5_add_46 rfl rfl ?_
    refine aw_dup dX5_add_47 rfl ?_
    refine aw_get fd_X5_22_5 dX5_add_48 (by omega) rfl rfl ?_
    refine aw_iconst (v := 1) dX5_add_51 (by decide) ?_
    refine aw_iadd dX5_add_52 ?_
    refine aw_puti fp_X5_22_5 dX5_add_53 (by omega) rfl rfl rfl (Nat.le_of_ble_eq_true rfl) rfl ?_
    refine aw_aload_n dX5_add_56 rfl rfl ?_
    refine aw_get fd_X5_22_5 dX5_add_57 (by omega) rfl rfl ?_
    refine aw_iconst (v := 1) dX5_add_60 (by decide) ?_
    refine aw_isub dX5_add_61 ?_
    refine aw_iret dX5_add_62 (Nat.zero_le _) (Nat.zero_le _) ?_
    refine ⟨rfl, ?_, ?_⟩
    · show some (Value.int (I 17 3 + 1 - 1)) = _
      rw [hI, nI_1, nI_pred]
    · show hC pk G (st_I I 17 3 (I 17 3 + 1)) (st_F (st_F (st_F F 18 (upd (F 18) (I 17 3).toNatClampNeg p)) 19 (upd (F 19) (I 17 3).toNatClampNeg s)) 20 (upd (F 20) (I 17 3).toNatClampNeg (vp_nar .boolean (b2i b)))) = _
      rw [hI, nI_1, nI_clamp (by omega), nar_b]
      rfl
  · have hs : sW (nI c) 0 7 = true := sW_nI (m := 7) (by decide) (by omega)
    exact absurd c_10 (by rw [hI, hs]; decide)
set_option maxRecDepth 100000 in
set_option maxHeartbeats 4000000 in
theorem lp_X5_areSo {l : Launch} {D : va_G} {tc : Nat → ClassId} (pk : Nat → Nat) (G : Nat → Option Nat) (I F : Nat → Nat → Int32) (n : Nat) (hn : 30 ≤ n) {c : Nat} (hc : c ≤ 8) (hI : I 17 3 = nI c) (hw : ∀ k, k < c → vp_in (F 18 k) 6) : ∀ (m i : Nat), i + m = c → rdAll (F 3) (F 18) (F 19) (F 20) i = true → AW l D tc yX5_areSo.cls cX5_areSo 3 (some .boolean) { frames := 0, cells := 0, slots := 0, locals := 0 } n 0 0 (fun v n1 h1 => n1 = n ∧ (v = some (.int (b2i (rdAll (F 3) (F 18) (F 19) (F 20) c))) ∧ h1 = (hC pk G I F))) 2 [some (.ref 17), some (.ref 3), some (.int (nI i))] [] n (hC pk G I F) 0 0 := by
  intro m
  induction m using Nat.strongRecOn with
  | _ m ih =>
    intro i hi hq
    refine aw_iload_n dX5_areSo_2 rfl rfl ?_
    refine aw_aload_n dX5_areSo_3 rfl rfl ?_
    refine aw_get fd_X5_22_5 dX5_areSo_4 (by omega) rfl rfl ?_
    refine aw_icmp_ge (tgt := 49) dX5_areSo_7 (by decide) (fun c_7 => ?_) (fun c_7 => ?_)
    · refine aw_iconst (v := 1) dX5_areSo_49 (by decide) ?_
      refine aw_zret dX5_areSo_50 (by first | rfl | exact aw_nb _) (Nat.zero_le _) (Nat.zero_le _) ?_
      have hi6 := lp_ge (i := i) (N := c) (by omega) (by omega) (by rw [← hI]; exact c_7)
      subst hi6
      refine ⟨rfl, ?_, rfl⟩
      rw [hq]
      rfl
    · have hi6 : i < c := lp_lt (N := c) (by omega) (by rw [← hI]; exact c_7)
      refine aw_aload_n dX5_areSo_10 rfl rfl ?_
      refine aw_aload_n dX5_areSo_11 rfl rfl ?_
      refine aw_get fd_X5_9_5 dX5_areSo_12 (by omega) rfl rfl ?_
      refine aw_iload_n dX5_areSo_15 rfl rfl ?_
      refine aw_iald dX5_areSo_16 (by omega) rfl (vp_in_nI (by omega) (by decide)) ?_
      refine aw_iald dX5_areSo_17 (by omega) rfl (by rw [nI_clamp (show i < 2 ^ 31 by omega)]; exact hw i hi6) ?_
      refine aw_aload_n dX5_areSo_18 rfl rfl ?_
      refine aw_get fd_X5_15_5 dX5_areSo_19 (by omega) rfl rfl ?_
      refine aw_iload_n dX5_areSo_22 rfl rfl ?_
      refine aw_iald dX5_areSo_23 (by omega) rfl (vp_in_nI (by omega) (by decide)) ?_
      refine aw_icmp_le (tgt := 31) dX5_areSo_24 (by decide) (fun c_24 => ?_) (fun c_24 => ?_)
      · refine aw_iconst (v := 0) dX5_areSo_31 (by decide) ?_
        refine aw_aload_n dX5_areSo_32 rfl rfl ?_
        refine aw_get fd_X5_18_5 dX5_areSo_33 (by omega) rfl rfl ?_
        refine aw_iload_n dX5_areSo_36 rfl rfl ?_
        refine aw_zald dX5_areSo_37 (by omega) rfl (vp_in_nI (by omega) (by decide)) ?_
        refine aw_icmp_eq (tgt := 43) dX5_areSo_38 (by decide) (fun c_38 => ?_) (fun c_38 => ?_)
        · refine aw_iinc (v := 1) dX5_areSo_43 rfl (by decide) (by decide) rfl ?_
          refine aw_goto (tgt := 2) dX5_areSo_46 (by decide) ?_
          rw [nI_1]
          exact ih (m - 1) (by omega) (i + 1) (by omega) (by
            rw [rdAll, hq, Bool.true_and]
            rw [nI_clamp (show i < 2 ^ 31 by omega)] at *
            simp only [rdSo, decide_eq_true_eq]
            rw [← c_38]
            simp [b2i, c_24])
        · refine aw_iconst (v := 0) dX5_areSo_41 (by decide) ?_
          refine aw_zret dX5_areSo_42 (by first | rfl | exact aw_nb _) (Nat.zero_le _) (Nat.zero_le _) ?_
          refine ⟨rfl, ?_, rfl⟩
          have hso : rdSo (F 3) (F 18) (F 19) (F 20) i = false := by
            rw [nI_clamp (show i < 2 ^ 31 by omega)] at *
            simp only [rdSo, decide_eq_false_iff_not]
            intro q9
            apply c_38
            rw [← q9]
            simp [b2i, c_24]
          rw [rdAll_no hi6 hso]
          rfl
      · refine aw_iconst (v := 1) dX5_areSo_27 (by decide) ?_
        refine aw_goto (tgt := 32) dX5_areSo_28 (by decide) ?_
        refine aw_aload_n dX5_areSo_32 rfl rfl ?_
        refine aw_get fd_X5_18_5 dX5_areSo_33 (by omega) rfl rfl ?_
        refine aw_iload_n dX5_areSo_36 rfl rfl ?_
        refine aw_zald dX5_areSo_37 (by omega) rfl (vp_in_nI (by omega) (by decide)) ?_
        refine aw_icmp_eq (tgt := 43) dX5_areSo_38 (by decide) (fun c_38 => ?_) (fun c_38 => ?_)
        · refine aw_iinc (v := 1) dX5_areSo_43 rfl (by decide) (by decide) rfl ?_
          refine aw_goto (tgt := 2) dX5_areSo_46 (by decide) ?_
          rw [nI_1]
          exact ih (m - 1) (by omega) (i + 1) (by omega) (by
            rw [rdAll, hq, Bool.true_and]
            rw [nI_clamp (show i < 2 ^ 31 by omega)] at *
            simp only [rdSo, decide_eq_true_eq]
            rw [← c_38]
            simp [b2i, c_24])
        · refine aw_iconst (v := 0) dX5_areSo_41 (by decide) ?_
          refine aw_zret dX5_areSo_42 (by first | rfl | exact aw_nb _) (Nat.zero_le _) (Nat.zero_le _) ?_
          refine ⟨rfl, ?_, rfl⟩
          have hso : rdSo (F 3) (F 18) (F 19) (F 20) i = false := by
            rw [nI_clamp (show i < 2 ^ 31 by omega)] at *
            simp only [rdSo, decide_eq_false_iff_not]
            intro q9
            apply c_38
            rw [← q9]
            simp [b2i, c_24]
          rw [rdAll_no hi6 hso]
          rfl
set_option maxRecDepth 100000 in
set_option maxHeartbeats 4000000 in
theorem c_X5_areSo {l : Launch} {D : va_G} {tc : Nat → ClassId} (pk : Nat → Nat) (G : Nat → Option Nat) (I F : Nat → Nat → Int32) (n : Nat) (hn : 30 ≤ n) {c : Nat} (hc : c ≤ 8) (hI : I 17 3 = nI c) (hw : ∀ k, k < c → vp_in (F 18 k) 6) : AM l D tc yX5_areSo cX5_areSo 3 (some .boolean) 0 0 0 0 [.ref 17, .ref 3] n (hC pk G I F) (fun v n1 h1 => n1 = n ∧ (v = some (.int (b2i (rdAll (F 3) (F 18) (F 19) (F 20) c))) ∧ h1 = (hC pk G I F))) := by
  refine am_of (L := [some (.ref 17), some (.ref 3), none]) (by decide +kernel) (Nat.le_of_ble_eq_true rfl) rfl ?_
  refine aw_iconst (v := 0) dX5_areSo_0 (by decide) ?_
  refine aw_istore_n dX5_areSo_1 rfl (by decide) rfl ?_
  exact lp_X5_areSo pk G I F n hn hc hI hw c 0 (by omega) rfl
end
section
/-! the class's own helpers -/
/-- c people stand in the row, p at place g p + 30 -/
def WP (pk : Nat → Nat) (G : Nat → Option Nat) (n c : Nat) (g : Nat → Nat) : Prop := c ≤ 6 ∧ ∀ p, p < c → G p = some (g p + 30) ∧ g p + 30 < n ∧ pKind (pk (g p))
def sP (c : Nat) (x : Int32) : Bool := !decide (x < 0) && !decide (nI c ≤ x)
theorem perC {c : Nat} (hc : c ≤ 6) (x : Int32) : sP c x = false ∨ ∃ p : Nat, p < c ∧ x = nI p := by
  cases h : sP c x
  · exact Or.inl rfl
  · right
    unfold sP at h
    simp only [Bool.and_eq_true, Bool.not_eq_true', decide_eq_false_iff_not] at h
    obtain ⟨a, ha, rfl⟩ := nI_of h.1
    exact ⟨a, lp_lt ha h.2, rfl⟩
theorem sP_nI {c p : Nat} (hc : c ≤ 6) (hp : p < c) : sP c (nI p) = true := by
  unfold sP
  simp only [Bool.and_eq_true, Bool.not_eq_true', decide_eq_false_iff_not]
  exact ⟨nI_pos (by omega), nI_ge hp (by omega)⟩
theorem shtC (x : Int32) : sP 4 x = false ∨ ∃ k : Nat, k < 4 ∧ x = nI k := perC (by omega) x
def sMay (k h r gr : Int32) : Int32 := if r + gr < sWould k h then r + gr else sWould k h
def myC (pk : Nat → Nat) (g : Nat → Nat) (I : Nat → Nat → Int32) (c : Nat) : Nat → Int32 := fun p => if p < c then sMay (kd (pk (g p))) (I (g p + 30) 1) (I (g p + 30) 2) (I 0 8) else 0
def mnF (F : Nat → Nat → Int32) (my : Nat → Int32) : Nat → Nat → Int32 := st_F F 3 (pf my (F 3) 6)
def sFt (t ln z lane i m : Int32) : Int32 := if t = 0 then 1 else if ln = lane then (if 0 ≤ m then (if sHasC z i m then 0 else 3) else 4) else 2
def sOne (c : Nat) (kind : Int32) : Int32 := if kind = 0 then 1 else if kind = 1 then (if c = 3 then 0 else 1) else (if c = 1 then 1 else 0)
def sFit (c x : Int32) : Bool := if x < 26 then (if 2 ≤ x then (if (x - 2) - (x - 2) / 4 * 4 = 0 then decide (c = 59) else if (x - 2) - (x - 2) / 4 * 4 = 1 then decide (c = 112) || decide (c = 117) || decide (c = 108) else sDig c) else (if x = 0 then decide (c = 109) else sDig c)) else false
def ffE (m : Int32) : Int32 := if m < 10 then m else if (m - 2) - (m - 2) / 4 * 4 = 0 then -9 else m
def ffN (rd : Nat → Int32) (e : Int32) : Nat → Nat → Int32
  | _, 0 => e
  | j, m + 1 => if sFit (rd j) (nI j) then ffN rd e (j + 1) m else nI j
def sHst (g : Nat → Nat) (I : Nat → Nat → Int32) (c p : Nat) : Int32 := if p < c then I (g p + 30) 1 else 0
theorem tw_no1 {c : Nat} {x y : Int32} (h : sP c x = false) : some (Value.int 0) = some (.int (b2i (sP c x && sP c y && !decide (x = y)))) := by rw [h]; rfl
theorem tw_no2 {c : Nat} {x y : Int32} (h : sP c y = false) : some (Value.int 0) = some (.int (b2i (sP c x && sP c y && !decide (x = y)))) := by rw [h]; simp [b2i]
theorem tw_eq {c : Nat} {x y : Int32} (h : x = y) : some (Value.int 0) = some (.int (b2i (sP c x && sP c y && !decide (x = y)))) := by simp [b2i, h]
theorem tw_ok {c : Nat} {x y : Int32} (h1 : sP c x = true) (h2 : sP c y = true) (h : ¬ x = y) : some (Value.int 1) = some (.int (b2i (sP c x && sP c y && !decide (x = y)))) := by simp [b2i, h1, h2, h]
theorem hs_no {c p : Nat} {g : Nat → Nat} {I : Nat → Nat → Int32} (hc : c ≤ 6) (h : sP c (nI p) = false) : some (Value.int 0) = some (.int (sHst g I c p)) := by
  rw [sHst, if_neg (fun q => by rw [sP_nI hc q] at h; cases h)]
theorem hs_yes {c p q : Nat} {g : Nat → Nat} {I : Nat → Nat → Int32} (hp : p < 2 ^ 31) (hc : c ≤ 6) (h : q < c) (e : nI p = nI q) : some (Value.int (I (g q + 30) 1)) = some (.int (sHst g I c p)) := by
  have e9 : p = q := (nI_eq hp (by omega)).mp e
  subst e9
  rw [sHst, if_pos h]

set_option maxRecDepth 100000 in
set_option maxHeartbeats 4000000 in
theorem c_X8_everybody {l : Launch} {D : va_G} {tc : Nat → ClassId} (pk : Nat → Nat) (G : Nat → Option Nat) (I F : Nat → Nat → Int32) (n : Nat) (hn : 30 ≤ n) : AM l D tc yX8_everybody cX8_everybody 1 (some .int) 1 20 0 0 [.ref 0] n (hC pk G I F) (fun v n1 h1 => n1 = n ∧ (v = some (.int (sBit (I 0 7) - 1)) ∧ h1 = (hC pk G I F))) := by
  refine am_of (L := [some (.ref 0)]) (by decide +kernel) (Nat.le_of_ble_eq_true rfl) rfl ?_
  refine aw_aload_n dX8_everybody_0 rfl rfl ?_
  refine aw_get fd_X8_84_8 dX8_everybody_1 (by omega) rfl rfl ?_
  refine aw_callS cw_X8_bit ml_X8_137 sm_X8_bit (c_X8_bit _ _ _) ⟨Nat.le_of_ble_eq_true rfl, Nat.le_of_ble_eq_true rfl⟩ ⟨Nat.zero_le _, Nat.zero_le _⟩ rfl rfl (Nat.le_of_ble_eq_true rfl) dX8_everybody_4 ?_
  rintro _ _ ⟨rfl, rfl⟩
  refine aw_iconst (v := 1) dX8_everybody_7 (by decide) ?_
  refine aw_isub dX8_everybody_8 ?_
  refine aw_iret dX8_everybody_9 (Nat.zero_le _) (Nat.zero_le _) ?_
  exact ⟨rfl, rfl, rfl⟩
set_option maxRecDepth 100000 in
set_option maxHeartbeats 4000000 in
theorem c_X8_sheetAt_no {l : Launch} {D : va_G} {tc : Nat → ClassId} (pk : Nat → Nat) (G : Nat → Option Nat) (I F : Nat → Nat → Int32) (n : Nat) (hn : 30 ≤ n) {x : Int32} (hx : sP 4 x = false) : AM l D tc yX8_sheetAt cX8_sheetAt 2 (some (.object "StepBack$Row")) 0 0 0 0 [.ref 0, .int x] n (hC pk G I F) (fun v n1 h1 => n1 = n ∧ (v = some .null ∧ h1 = (hC pk G I F))) := by
  refine am_of (L := [some (.ref 0), some (.int x)]) (by decide +kernel) (Nat.le_of_ble_eq_true rfl) rfl ?_
  refine aw_iload_n dX8_sheetAt_0 rfl rfl ?_
  refine aw_if_lt (tgt := 18) dX8_sheetAt_1 (by decide) (fun c_1 => ?_) (fun c_1 => ?_)
  · refine aw_null dX8_sheetAt_18 ?_
    refine aw_aret dX8_sheetAt_19 (Or.inl ⟨_, rfl⟩) (Or.inl rfl) (Nat.zero_le _) (Nat.zero_le _) ?_
    exact ⟨rfl, rfl, rfl⟩
  · refine aw_iload_n dX8_sheetAt_4 rfl rfl ?_
    refine aw_iconst (v := 4) dX8_sheetAt_5 (by decide) ?_
    refine aw_icmp_ge (tgt := 18) dX8_sheetAt_6 (by decide) (fun c_6 => ?_) (fun c_6 => ?_)
    · refine aw_null dX8_sheetAt_18 ?_
      refine aw_aret dX8_sheetAt_19 (Or.inl ⟨_, rfl⟩) (Or.inl rfl) (Nat.zero_le _) (Nat.zero_le _) ?_
      exact ⟨rfl, rfl, rfl⟩
    · exfalso
      simp only [sP, Bool.and_eq_false_iff, Bool.not_eq_false', decide_eq_true_eq] at hx
      rcases hx with q | q
      · exact c_1 q
      · exact c_6 q
set_option maxRecDepth 100000 in
set_option maxHeartbeats 4000000 in
theorem c_X8_sheetAt {l : Launch} {D : va_G} {tc : Nat → ClassId} (pk : Nat → Nat) (G : Nat → Option Nat) (I F : Nat → Nat → Int32) (n : Nat) (hn : 30 ≤ n) {k : Nat} (hk : k < 4) : AM l D tc yX8_sheetAt cX8_sheetAt 2 (some (.object "StepBack$Row")) 0 0 0 0 [.ref 0, .int (nI k)] n (hC pk G I F) (fun v n1 h1 => n1 = n ∧ (v = some (.ref (22 + k)) ∧ h1 = (hC pk G I F))) := by
  refine am_of (L := [some (.ref 0), some (.int (nI k))]) (by decide +kernel) (Nat.le_of_ble_eq_true rfl) rfl ?_
  refine aw_iload_n dX8_sheetAt_0 rfl rfl ?_
  refine aw_if_lt (tgt := 18) dX8_sheetAt_1 (by decide) (fun c_1 => ?_) (fun c_1 => ?_)
  · exfalso
    first | exact nI_pos (by omega) c_1 | exact nI_ge hk (by omega) c_6
  · refine aw_iload_n dX8_sheetAt_4 rfl rfl ?_
    refine aw_iconst (v := 4) dX8_sheetAt_5 (by decide) ?_
    refine aw_icmp_ge (tgt := 18) dX8_sheetAt_6 (by decide) (fun c_6 => ?_) (fun c_6 => ?_)
    · exfalso
      first | exact nI_pos (by omega) c_1 | exact nI_ge hk (by omega) c_6
    · refine aw_aload_n dX8_sheetAt_9 rfl rfl ?_
      refine aw_get fd_X8_13_8 dX8_sheetAt_10 (by omega) rfl rfl ?_
      refine aw_iload_n dX8_sheetAt_13 rfl rfl ?_
      refine aw_aaldR2 dX8_sheetAt_14 (by omega) rfl (vp_in_nI hk (by decide)) (by show (if (nI k).toNatClampNeg < 4 then some (22 + (nI k).toNatClampNeg) else none) = _; rw [nI_clamp (by omega)]; exact if_pos hk) ?_
      refine aw_goto (tgt := 19) dX8_sheetAt_15 (by decide) ?_
      refine aw_aret dX8_sheetAt_19 (Or.inl ⟨_, rfl⟩) (Or.inr ⟨_, rfl⟩) (Nat.zero_le _) (Nat.zero_le _) ?_
      exact ⟨rfl, rfl, rfl⟩
set_option maxRecDepth 100000 in
set_option maxHeartbeats 4000000 in
theorem c_X8_personAt_no {l : Launch} {D : va_G} {tc : Nat → ClassId} (pk : Nat → Nat) (G : Nat → Option Nat) (I F : Nat → Nat → Int32) (n : Nat) (hn : 30 ≤ n) {c : Nat} (hI0 : I 0 7 = nI c) {x : Int32} (hx : sP c x = false) : AM l D tc yX8_personAt cX8_personAt 2 (some (.object "StepBack$Plain")) 0 0 0 0 [.ref 0, .int x] n (hC pk G I F) (fun v n1 h1 => n1 = n ∧ (v = some .null ∧ h1 = (hC pk G I F))) := by
  refine am_of (L := [some (.ref 0), some (.int x)]) (by decide +kernel) (Nat.le_of_ble_eq_true rfl) rfl ?_
  refine aw_iload_n dX8_personAt_0 rfl rfl ?_
  refine aw_if_lt (tgt := 21) dX8_personAt_1 (by decide) (fun c_1 => ?_) (fun c_1 => ?_)
  · refine aw_null dX8_personAt_21 ?_
    refine aw_aret dX8_personAt_22 (Or.inl ⟨_, rfl⟩) (Or.inl rfl) (Nat.zero_le _) (Nat.zero_le _) ?_
    exact ⟨rfl, rfl, rfl⟩
  · refine aw_iload_n dX8_personAt_4 rfl rfl ?_
    refine aw_aload_n dX8_personAt_5 rfl rfl ?_
    refine aw_get fd_X8_84_8 dX8_personAt_6 (by omega) rfl rfl ?_
    refine aw_icmp_ge (tgt := 21) dX8_personAt_9 (by decide) (fun c_9 => ?_) (fun c_9 => ?_)
    · refine aw_null dX8_personAt_21 ?_
      refine aw_aret dX8_personAt_22 (Or.inl ⟨_, rfl⟩) (Or.inl rfl) (Nat.zero_le _) (Nat.zero_le _) ?_
      exact ⟨rfl, rfl, rfl⟩
    · exfalso
      simp only [sP, Bool.and_eq_false_iff, Bool.not_eq_false', decide_eq_true_eq] at hx
      rcases hx with q | q
      · exact c_1 q
      · exact c_9 (by rw [hI0]; exact q)
set_option maxRecDepth 100000 in
set_option maxHeartbeats 4000000 in
theorem c_X8_personAt {l : Launch} {D : va_G} {tc : Nat → ClassId} (pk : Nat → Nat) (G : Nat → Option Nat) (I F : Nat → Nat → Int32) (n : Nat) (hn : 30 ≤ n) {c : Nat} {g : Nat → Nat} (hW : WP pk G n c g) (hI0 : I 0 7 = nI c) {x : Int32} {p : Nat} (hp : p < c) (ex : x = nI p) : AM l D tc yX8_personAt cX8_personAt 2 (some (.object "StepBack$Plain")) 0 0 0 0 [.ref 0, .int x] n (hC pk G I F) (fun v n1 h1 => n1 = n ∧ (v = some (.ref (g p + 30)) ∧ h1 = (hC pk G I F))) := by
  refine am_of (L := [some (.ref 0), some (.int x)]) (by decide +kernel) (Nat.le_of_ble_eq_true rfl) rfl ?_
  refine aw_iload_n dX8_personAt_0 rfl rfl ?_
  refine aw_if_lt (tgt := 21) dX8_personAt_1 (by decide) (fun c_1 => ?_) (fun c_1 => ?_)
  · exfalso
    have := hW.1
    first | exact nI_pos (n := p) (by omega) (ex ▸ c_1) | exact nI_ge hp (by omega) (by rw [← ex, ← hI0]; exact c_9)
  · refine aw_iload_n dX8_personAt_4 rfl rfl ?_
    refine aw_aload_n dX8_personAt_5 rfl rfl ?_
    refine aw_get fd_X8_84_8 dX8_personAt_6 (by omega) rfl rfl ?_
    refine aw_icmp_ge (tgt := 21) dX8_personAt_9 (by decide) (fun c_9 => ?_) (fun c_9 => ?_)
    · exfalso
      have := hW.1
      first | exact nI_pos (n := p) (by omega) (ex ▸ c_1) | exact nI_ge hp (by omega) (by rw [← ex, ← hI0]; exact c_9)
    · refine aw_aload_n dX8_personAt_12 rfl rfl ?_
      refine aw_get fd_X8_19_8 dX8_personAt_13 (by omega) rfl rfl ?_
      refine aw_iload_n dX8_personAt_16 rfl rfl ?_
      refine aw_aaldR3 dX8_personAt_17 (by omega) rfl (by rw [ex]; exact vp_in_nI (by have := hW.1; omega) (by decide)) (by rw [ex, nI_clamp (by have := hW.1; omega)]; exact (hW.2 p hp).1) ?_
      refine aw_goto (tgt := 22) dX8_personAt_18 (by decide) ?_
      refine aw_aret dX8_personAt_22 (Or.inl ⟨_, rfl⟩) (Or.inr ⟨_, rfl⟩) (Nat.zero_le _) (Nat.zero_le _) ?_
      exact ⟨rfl, rfl, rfl⟩
set_option maxRecDepth 100000 in
set_option maxHeartbeats 4000000 in
theorem c_X8_areTwo {l : Launch} {D : va_G} {tc : Nat → ClassId} (pk : Nat → Nat) (G : Nat → Option Nat) (I F : Nat → Nat → Int32) (n : Nat) (hn : 30 ≤ n) {c : Nat} {g : Nat → Nat} (hW : WP pk G n c g) (hI0 : I 0 7 = nI c) (x y : Int32) : AM l D tc yX8_areTwo cX8_areTwo 3 (some .boolean) 1 21 0 0 [.ref 0, .int x, .int y] n (hC pk G I F) (fun v n1 h1 => n1 = n ∧ (v = some (.int (b2i (sP c x && sP c y && !decide (x = y)))) ∧ h1 = (hC pk G I F))) := by
  refine am_of (L := [some (.ref 0), some (.int x), some (.int y)]) (by decide +kernel) (Nat.le_of_ble_eq_true rfl) rfl ?_
  refine aw_aload_n dX8_areTwo_0 rfl rfl ?_
  refine aw_iload_n dX8_areTwo_1 rfl rfl ?_
  rcases perC hW.1 (x) with hx_2 | ⟨p_2, hp_2, ex_2⟩
  · refine aw_callV cw_X8_personAt ml_X8_87 im_X8_personAt sl_X8_X8_personAt rfl (by omega) rfl (c_X8_personAt_no pk G _ _ n hn hI0 hx_2) ⟨Nat.le_of_ble_eq_true rfl, Nat.le_of_ble_eq_true rfl⟩ ⟨Nat.zero_le _, Nat.zero_le _⟩ rfl rfl (Nat.le_of_ble_eq_true rfl) dX8_areTwo_2 ?_
    rintro _ _ ⟨rfl, rfl⟩
    refine aw_ifnullN (tgt := 25) dX8_areTwo_5 (by decide) ?_
    refine aw_iconst (v := 0) dX8_areTwo_25 (by decide) ?_
    refine aw_zret dX8_areTwo_26 (by first | rfl | exact aw_nb _) (Nat.zero_le _) (Nat.zero_le _) ?_
    refine ⟨rfl, ?_, rfl⟩
    first | exact tw_no1 hx_2 | exact tw_no2 hx_10 | exact tw_eq c_18 | exact tw_ok (ex_2 ▸ sP_nI hW.1 hp_2) (ex_10 ▸ sP_nI hW.1 hp_10) c_18
  · refine aw_callV cw_X8_personAt ml_X8_87 im_X8_personAt sl_X8_X8_personAt rfl (by omega) rfl (c_X8_personAt pk G _ _ n hn hW hI0 hp_2 ex_2) ⟨Nat.le_of_ble_eq_true rfl, Nat.le_of_ble_eq_true rfl⟩ ⟨Nat.zero_le _, Nat.zero_le _⟩ rfl rfl (Nat.le_of_ble_eq_true rfl) dX8_areTwo_2 ?_
    rintro _ _ ⟨rfl, rfl⟩
    refine aw_ifnull dX8_areTwo_5 ?_
    refine aw_aload_n dX8_areTwo_8 rfl rfl ?_
    refine aw_iload_n dX8_areTwo_9 rfl rfl ?_
    rcases perC hW.1 (y) with hx_10 | ⟨p_10, hp_10, ex_10⟩
    · refine aw_callV cw_X8_personAt ml_X8_87 im_X8_personAt sl_X8_X8_personAt rfl (by omega) rfl (c_X8_personAt_no pk G _ _ n hn hI0 hx_10) ⟨Nat.le_of_ble_eq_true rfl, Nat.le_of_ble_eq_true rfl⟩ ⟨Nat.zero_le _, Nat.zero_le _⟩ rfl rfl (Nat.le_of_ble_eq_true rfl) dX8_areTwo_10 ?_
      rintro _ _ ⟨rfl, rfl⟩
      refine aw_ifnullN (tgt := 25) dX8_areTwo_13 (by decide) ?_
      refine aw_iconst (v := 0) dX8_areTwo_25 (by decide) ?_
      refine aw_zret dX8_areTwo_26 (by first | rfl | exact aw_nb _) (Nat.zero_le _) (Nat.zero_le _) ?_
      refine ⟨rfl, ?_, rfl⟩
      first | exact tw_no1 hx_2 | exact tw_no2 hx_10 | exact tw_eq c_18 | exact tw_ok (ex_2 ▸ sP_nI hW.1 hp_2) (ex_10 ▸ sP_nI hW.1 hp_10) c_18
    · refine aw_callV cw_X8_personAt ml_X8_87 im_X8_personAt sl_X8_X8_personAt rfl (by omega) rfl (c_X8_personAt pk G _ _ n hn hW hI0 hp_10 ex_10) ⟨Nat.le_of_ble_eq_true rfl, Nat.le_of_ble_eq_true rfl⟩ ⟨Nat.zero_le _, Nat.zero_le _⟩ rfl rfl (Nat.le_of_ble_eq_true rfl) dX8_areTwo_10 ?_
      rintro _ _ ⟨rfl, rfl⟩
      refine aw_ifnull dX8_areTwo_13 ?_
      refine aw_iload_n dX8_areTwo_16 rfl rfl ?_
      refine aw_iload_n dX8_areTwo_17 rfl rfl ?_
      refine aw_icmp_eq (tgt := 25) dX8_areTwo_18 (by decide) (fun c_18 => ?_) (fun c_18 => ?_)
      · refine aw_iconst (v := 0) dX8_areTwo_25 (by decide) ?_
        refine aw_zret dX8_areTwo_26 (by first | rfl | exact aw_nb _) (Nat.zero_le _) (Nat.zero_le _) ?_
        refine ⟨rfl, ?_, rfl⟩
        first | exact tw_no1 hx_2 | exact tw_no2 hx_10 | exact tw_eq c_18 | exact tw_ok (ex_2 ▸ sP_nI hW.1 hp_2) (ex_10 ▸ sP_nI hW.1 hp_10) c_18
      · refine aw_iconst (v := 1) dX8_areTwo_21 (by decide) ?_
        refine aw_goto (tgt := 26) dX8_areTwo_22 (by decide) ?_
        refine aw_zret dX8_areTwo_26 (by first | rfl | exact aw_nb _) (Nat.zero_le _) (Nat.zero_le _) ?_
        refine ⟨rfl, ?_, rfl⟩
        first | exact tw_no1 hx_2 | exact tw_no2 hx_10 | exact tw_eq c_18 | exact tw_ok (ex_2 ▸ sP_nI hW.1 hp_2) (ex_10 ▸ sP_nI hW.1 hp_10) c_18
set_option maxRecDepth 100000 in
set_option maxHeartbeats 4000000 in
theorem c_X8_faulted {l : Launch} {D : va_G} {tc : Nat → ClassId} (pk : Nat → Nat) (G : Nat → Option Nat) (I F : Nat → Nat → Int32) (n : Nat) (hn : 30 ≤ n) (x : Int32) : AM l D tc yX8_faulted cX8_faulted 2 (some .int) 0 0 0 0 [.ref 0, .int x] n (hC pk G I F) (fun v n1 h1 => n1 = n ∧ (v = some (.int ((-10) - x)) ∧ h1 = hC pk G (st_I I 0 11 x) F)) := by
  refine am_of (L := [some (.ref 0), some (.int x)]) (by decide +kernel) (Nat.le_of_ble_eq_true rfl) rfl ?_
  refine aw_aload_n dX8_faulted_0 rfl rfl ?_
  refine aw_iload_n dX8_faulted_1 rfl rfl ?_
  refine aw_puti fp_X8_56_8 dX8_faulted_2 (by omega) rfl rfl rfl (Nat.le_of_ble_eq_true rfl) rfl ?_
  refine aw_bipush (v := (-10)) dX8_faulted_5 (by decide) ?_
  refine aw_iload_n dX8_faulted_7 rfl rfl ?_
  refine aw_isub dX8_faulted_8 ?_
  refine aw_iret dX8_faulted_9 (Nat.zero_le _) (Nat.zero_le _) ?_
  exact ⟨rfl, rfl, rfl⟩
set_option maxRecDepth 100000 in
set_option maxHeartbeats 4000000 in
theorem c_X8_faultOfTaking {l : Launch} {D : va_G} {tc : Nat → ClassId} (pk : Nat → Nat) (G : Nat → Option Nat) (I F : Nat → Nat → Int32) (n : Nat) (hn : 30 ≤ n) {k : Nat} (hk : k < 4) (a i m : Int32) : AM l D tc yX8_faultOfTaking cX8_faultOfTaking 4 (some .int) 1 22 0 0 [.ref (22 + k), .int a, .int i, .int m] n (hC pk G I F) (fun v n1 h1 => n1 = n ∧ (v = some (.int (sFt (I (22 + k) 1) (I (22 + k) 2) (I (22 + k) 3) a i m)) ∧ h1 = (hC pk G I F))) := by
  refine am_of (L := [some (.ref (22 + k)), some (.int a), some (.int i), some (.int m)]) (by decide +kernel) (Nat.le_of_ble_eq_true rfl) rfl ?_
  refine aw_aload_n dX8_faultOfTaking_0 rfl rfl ?_
  refine aw_get fd_X8_216_6 dX8_faultOfTaking_1 (by omega) (entC_row _ _ hk _ _) rfl ?_
  refine aw_if_ne (tgt := 9) dX8_faultOfTaking_4 (by decide) (fun c_4 => ?_) (fun c_4 => ?_)
  · refine aw_aload_n dX8_faultOfTaking_9 rfl rfl ?_
    refine aw_get fd_X8_220_6 dX8_faultOfTaking_10 (by omega) (entC_row _ _ hk _ _) rfl ?_
    refine aw_iload_n dX8_faultOfTaking_13 rfl rfl ?_
    refine aw_icmp_eq (tgt := 19) dX8_faultOfTaking_14 (by decide) (fun c_14 => ?_) (fun c_14 => ?_)
    · refine aw_iload_n dX8_faultOfTaking_19 rfl rfl ?_
      refine aw_if_ge (tgt := 25) dX8_faultOfTaking_20 (by decide) (fun c_20 => ?_) (fun c_20 => ?_)
      · refine aw_aload_n dX8_faultOfTaking_25 rfl rfl ?_
        refine aw_iload_n dX8_faultOfTaking_26 rfl rfl ?_
        refine aw_iload_n dX8_faultOfTaking_27 rfl rfl ?_
        refine aw_callV cw_X6_hasCells ml_X8_229 im_X6_hasCells sl_X6_X6_hasCells rfl (by omega) (entC_row _ _ hk _ _) (c_X6_hasCells pk G _ _ n hn _ hk _ _) ⟨Nat.le_of_ble_eq_true rfl, Nat.le_of_ble_eq_true rfl⟩ ⟨Nat.zero_le _, Nat.zero_le _⟩ rfl rfl (Nat.le_of_ble_eq_true rfl) dX8_faultOfTaking_28 ?_
        rintro _ _ ⟨rfl, rfl⟩
        refine aw_if_eq (tgt := 38) dX8_faultOfTaking_31 (by decide) (fun c_31 => ?_) (fun c_31 => ?_)
        · refine aw_iconst (v := 3) dX8_faultOfTaking_38 (by decide) ?_
          refine aw_iret dX8_faultOfTaking_39 (Nat.zero_le _) (Nat.zero_le _) ?_
          refine ⟨rfl, ?_, rfl⟩
          (try simp only [b2i_eq0, b2i_ne0] at *)
          simp [sFt, *]
        · refine aw_iconst (v := 0) dX8_faultOfTaking_34 (by decide) ?_
          refine aw_goto (tgt := 39) dX8_faultOfTaking_35 (by decide) ?_
          refine aw_iret dX8_faultOfTaking_39 (Nat.zero_le _) (Nat.zero_le _) ?_
          refine ⟨rfl, ?_, rfl⟩
          (try simp only [b2i_eq0, b2i_ne0] at *)
          simp [sFt, *]
      · refine aw_iconst (v := 4) dX8_faultOfTaking_23 (by decide) ?_
        refine aw_iret dX8_faultOfTaking_24 (Nat.zero_le _) (Nat.zero_le _) ?_
        refine ⟨rfl, ?_, rfl⟩
        (try simp only [b2i_eq0, b2i_ne0] at *)
        simp [sFt, *]
    · refine aw_iconst (v := 2) dX8_faultOfTaking_17 (by decide) ?_
      refine aw_iret dX8_faultOfTaking_18 (Nat.zero_le _) (Nat.zero_le _) ?_
      refine ⟨rfl, ?_, rfl⟩
      (try simp only [b2i_eq0, b2i_ne0] at *)
      simp [sFt, *]
  · refine aw_iconst (v := 1) dX8_faultOfTaking_7 (by decide) ?_
    refine aw_iret dX8_faultOfTaking_8 (Nat.zero_le _) (Nat.zero_le _) ?_
    refine ⟨rfl, ?_, rfl⟩
    (try simp only [b2i_eq0, b2i_ne0] at *)
    simp [sFt, *]
set_option maxRecDepth 100000 in
set_option maxHeartbeats 4000000 in
theorem c_X8_isOneOf {l : Launch} {D : va_G} {tc : Nat → ClassId} (pk : Nat → Nat) (G : Nat → Option Nat) (I F : Nat → Nat → Int32) (n : Nat) (hn : 30 ≤ n) {j : Nat} (hp : pKind (pk j)) (hj : j + 30 < n) (x : Int32) : AM l D tc yX8_isOneOf cX8_isOneOf 2 (some .boolean) 0 0 0 0 [.ref (j + 30), .int x] n (hC pk G I F) (fun v n1 h1 => n1 = n ∧ (v = some (.int (sOne (pk j) x)) ∧ h1 = (hC pk G I F))) := by
  refine am_of (L := [some (.ref (j + 30)), some (.int x)]) (by decide +kernel) (Nat.le_of_ble_eq_true rfl) rfl ?_
  refine aw_iload_n dX8_isOneOf_0 rfl rfl ?_
  by_cases e_1_0 : x = 0
  · refine aw_lookupC (off := 27) (tgt := 28) e_1_0 dX8_isOneOf_1 (by decide) (by decide) (by decide) ?_
    refine aw_iconst (v := 1) dX8_isOneOf_28 (by decide) ?_
    refine aw_zret dX8_isOneOf_29 (by first | rfl | exact aw_nb _) (Nat.zero_le _) (Nat.zero_le _) ?_
    refine ⟨rfl, ?_, rfl⟩
    simp [sOne, *]
  by_cases e_1_1 : x = 1
  · refine aw_lookupC (off := 29) (tgt := 30) e_1_1 dX8_isOneOf_1 (by decide) (by decide) (by decide) ?_
    refine aw_aload_n dX8_isOneOf_30 rfl rfl ?_
    rcases hp with q | q | q
    · refine aw_instY cl_X8_255 (by decide +kernel) rfl dX8_isOneOf_31 hj (he_perc q) ?_
      refine aw_zret dX8_isOneOf_34 (by first | rfl | exact aw_nb _) (Nat.zero_le _) (Nat.zero_le _) ?_
      refine ⟨rfl, ?_, rfl⟩
      simp [sOne, *]
    · refine aw_instN cl_X8_255 (by decide +kernel) rfl dX8_isOneOf_31 hj (he_perc q) ?_
      refine aw_zret dX8_isOneOf_34 (by first | rfl | exact aw_nb _) (Nat.zero_le _) (Nat.zero_le _) ?_
      refine ⟨rfl, ?_, rfl⟩
      simp [sOne, *]
    · refine aw_instS cl_X8_255 rfl dX8_isOneOf_31 hj (he_perc q) ?_
      refine aw_zret dX8_isOneOf_34 (by first | rfl | exact aw_nb _) (Nat.zero_le _) (Nat.zero_le _) ?_
      refine ⟨rfl, ?_, rfl⟩
      simp [sOne, *]
  refine aw_lookup (off := 34) (tgt := 35) dX8_isOneOf_1 (by decide) (aw_lk2 (by decide) (by decide) e_1_0 e_1_1) (by decide) ?_
  refine aw_aload_n dX8_isOneOf_35 rfl rfl ?_
  rcases hp with q | q | q
  · refine aw_instS cl_X8_257 rfl dX8_isOneOf_36 hj (he_perc q) ?_
    refine aw_zret dX8_isOneOf_39 (by first | rfl | exact aw_nb _) (Nat.zero_le _) (Nat.zero_le _) ?_
    refine ⟨rfl, ?_, rfl⟩
    simp [sOne, *]
  · refine aw_instN cl_X8_257 (by decide +kernel) rfl dX8_isOneOf_36 hj (he_perc q) ?_
    refine aw_zret dX8_isOneOf_39 (by first | rfl | exact aw_nb _) (Nat.zero_le _) (Nat.zero_le _) ?_
    refine ⟨rfl, ?_, rfl⟩
    simp [sOne, *]
  · refine aw_instN cl_X8_257 (by decide +kernel) rfl dX8_isOneOf_36 hj (he_perc q) ?_
    refine aw_zret dX8_isOneOf_39 (by first | rfl | exact aw_nb _) (Nat.zero_le _) (Nat.zero_le _) ?_
    refine ⟨rfl, ?_, rfl⟩
    simp [sOne, *]
set_option maxRecDepth 100000 in
set_option maxHeartbeats 4000000 in
theorem c_X8_mayGo {l : Launch} {D : va_G} {tc : Nat → ClassId} (pk : Nat → Nat) (G : Nat → Option Nat) (I F : Nat → Nat → Int32) (n : Nat) (hn : 30 ≤ n) (x y z : Int32) : AM l D tc yX8_mayGo cX8_mayGo 4 (some .int) 1 21 0 0 [.ref 0, .int x, .int y, .int z] n (hC pk G I F) (fun v n1 h1 => n1 = n ∧ (v = some (.int (sMay x y z (I 0 8))) ∧ h1 = (hC pk G I F))) := by
  refine am_of (L := [some (.ref 0), some (.int x), some (.int y), some (.int z)]) (by decide +kernel) (Nat.le_of_ble_eq_true rfl) rfl ?_
  refine aw_iload_n dX8_mayGo_0 rfl rfl ?_
  refine aw_iload_n dX8_mayGo_1 rfl rfl ?_
  refine aw_callS cw_X8_wouldGo ml_X8_101 sm_X8_wouldGo (c_X8_wouldGo _ _ _ _) ⟨Nat.le_of_ble_eq_true rfl, Nat.le_of_ble_eq_true rfl⟩ ⟨Nat.zero_le _, Nat.zero_le _⟩ rfl rfl (Nat.le_of_ble_eq_true rfl) dX8_mayGo_2 ?_
  rintro _ _ ⟨rfl, rfl⟩
  refine aw_iload_n dX8_mayGo_5 rfl rfl ?_
  refine aw_aload_n dX8_mayGo_6 rfl rfl ?_
  refine aw_get fd_X8_126_8 dX8_mayGo_7 (by omega) rfl rfl ?_
  refine aw_iadd dX8_mayGo_10 ?_
  refine aw_min ml_X8_259 ⟨Nat.le_of_ble_eq_true rfl, Nat.le_of_ble_eq_true rfl⟩ ⟨Nat.zero_le _, Nat.zero_le _⟩ (Nat.le_of_ble_eq_true rfl) dX8_mayGo_11 ?_
  refine aw_iret dX8_mayGo_14 (Nat.zero_le _) (Nat.zero_le _) ?_
  exact ⟨rfl, rfl, rfl⟩
set_option maxRecDepth 100000 in
set_option maxHeartbeats 4000000 in
theorem c_X8_hasteOf {l : Launch} {D : va_G} {tc : Nat → ClassId} (pk : Nat → Nat) (G : Nat → Option Nat) (I F : Nat → Nat → Int32) (n : Nat) (hn : 30 ≤ n) {c : Nat} {g : Nat → Nat} (hW : WP pk G n c g) (hI0 : I 0 7 = nI c) {p : Nat} (hp6 : p < 2 ^ 31) : AM l D tc yX8_hasteOf cX8_hasteOf 3 (some .int) 1 21 0 0 [.ref 0, .int (nI p)] n (hC pk G I F) (fun v n1 h1 => n1 = n ∧ (v = some (.int (sHst g I c p)) ∧ h1 = (hC pk G I F))) := by
  refine am_of (L := [some (.ref 0), some (.int (nI p)), none]) (by decide +kernel) (Nat.le_of_ble_eq_true rfl) rfl ?_
  refine aw_aload_n dX8_hasteOf_0 rfl rfl ?_
  refine aw_iload_n dX8_hasteOf_1 rfl rfl ?_
  rcases perC hW.1 (nI p) with hx_2 | ⟨p_2, hp_2, ex_2⟩
  · refine aw_callV cw_X8_personAt ml_X8_87 im_X8_personAt sl_X8_X8_personAt rfl (by omega) rfl (c_X8_personAt_no pk G _ _ n hn hI0 hx_2) ⟨Nat.le_of_ble_eq_true rfl, Nat.le_of_ble_eq_true rfl⟩ ⟨Nat.zero_le _, Nat.zero_le _⟩ rfl rfl (Nat.le_of_ble_eq_true rfl) dX8_hasteOf_2 ?_
    rintro _ _ ⟨rfl, rfl⟩
    refine aw_astore_nN dX8_hasteOf_5 rfl (by decide) rfl ?_
    refine aw_aload_nN dX8_hasteOf_6 rfl rfl ?_
    refine aw_ifnonnullN dX8_hasteOf_7 ?_
    refine aw_iconst (v := 0) dX8_hasteOf_10 (by decide) ?_
    refine aw_goto (tgt := 18) dX8_hasteOf_11 (by decide) ?_
    refine aw_iret dX8_hasteOf_18 (Nat.zero_le _) (Nat.zero_le _) ?_
    refine ⟨rfl, ?_, rfl⟩
    first | exact hs_no hW.1 hx_2 | exact hs_yes hp6 hW.1 hp_2 ex_2
  · refine aw_callV cw_X8_personAt ml_X8_87 im_X8_personAt sl_X8_X8_personAt rfl (by omega) rfl (c_X8_personAt pk G _ _ n hn hW hI0 hp_2 ex_2) ⟨Nat.le_of_ble_eq_true rfl, Nat.le_of_ble_eq_true rfl⟩ ⟨Nat.zero_le _, Nat.zero_le _⟩ rfl rfl (Nat.le_of_ble_eq_true rfl) dX8_hasteOf_2 ?_
    rintro _ _ ⟨rfl, rfl⟩
    refine aw_astore_n dX8_hasteOf_5 rfl (by decide) rfl ?_
    refine aw_aload_n dX8_hasteOf_6 rfl rfl ?_
    refine aw_ifnonnull (tgt := 14) dX8_hasteOf_7 (by decide) ?_
    refine aw_aload_n dX8_hasteOf_14 rfl rfl ?_
    refine aw_getP fd_X8_95_1 fd_X8_95_3 fd_X8_95_4 (hW.2 _ hp_2).2.2 dX8_hasteOf_15 (hW.2 _ hp_2).2.1 (he_per _) rfl ?_
    refine aw_iret dX8_hasteOf_18 (Nat.zero_le _) (Nat.zero_le _) ?_
    refine ⟨rfl, ?_, rfl⟩
    first | exact hs_no hW.1 hx_2 | exact hs_yes hp6 hW.1 hp_2 ex_2
set_option maxRecDepth 100000 in
set_option maxHeartbeats 4000000 in
theorem lp_X8_maysNow {l : Launch} {D : va_G} {tc : Nat → ClassId} (pk : Nat → Nat) (G : Nat → Option Nat) (I F : Nat → Nat → Int32) (n : Nat) (hn : 30 ≤ n) {c : Nat} {g : Nat → Nat} (hW : WP pk G n c g) (hI0 : I 0 7 = nI c) : ∀ (m i : Nat) (w : Option Value), i + m = 6 → AW l D tc yX8_maysNow.cls cX8_maysNow 3 (some (.array .int)) { frames := 2, cells := 0, slots := 0, locals := 44 } n 0 0 (fun v n1 h1 => n1 = n ∧ (v = some (.ref 3) ∧ h1 = hC pk G I (mnF F (myC pk g I c)))) 2 [some (.ref 0), some (.int (nI i)), w] [] n (hC pk G I (st_F F 3 (pf (myC pk g I c) (F 3) i))) 0 0 := by
  intro m
  induction m using Nat.strongRecOn with
  | _ m ih =>
    intro i w hi
    refine aw_iload_n dX8_maysNow_2 rfl rfl ?_
    refine aw_bipush (v := (6)) dX8_maysNow_3 (by decide) ?_
    refine aw_icmp_ge (tgt := 50) dX8_maysNow_5 (by decide) (fun c_5 => ?_) (fun c_5 => ?_)
    · have hi6 := lp_ge (N := 6) (by decide) (by omega) c_5
      subst hi6
      refine aw_aload_n dX8_maysNow_50 rfl rfl ?_
      refine aw_get fd_X8_23_8 dX8_maysNow_51 (by omega) rfl rfl ?_
      refine aw_aret dX8_maysNow_54 (Or.inr ⟨_, rfl⟩) (Or.inr ⟨_, rfl⟩) (Nat.zero_le _) (Nat.zero_le _) ?_
      exact ⟨rfl, rfl, rfl⟩
    · have hi6 := lp_lt (N := 6) (by omega) c_5
      refine aw_aload_n dX8_maysNow_8 rfl rfl ?_
      refine aw_iload_n dX8_maysNow_9 rfl rfl ?_
      rcases perC hW.1 (nI i) with hx_10 | ⟨p_10, hp_10, ex_10⟩
      · refine aw_callV cw_X8_personAt ml_X8_87 im_X8_personAt sl_X8_X8_personAt rfl (by omega) rfl (c_X8_personAt_no pk G _ _ n hn hI0 hx_10) ⟨Nat.le_of_ble_eq_true rfl, Nat.le_of_ble_eq_true rfl⟩ ⟨Nat.zero_le _, Nat.zero_le _⟩ rfl rfl (Nat.le_of_ble_eq_true rfl) dX8_maysNow_10 ?_
        rintro _ _ ⟨rfl, rfl⟩
        refine aw_astore_nN dX8_maysNow_13 rfl (by decide) rfl ?_
        refine aw_aload_n dX8_maysNow_14 rfl rfl ?_
        refine aw_get fd_X8_23_8 dX8_maysNow_15 (by omega) rfl rfl ?_
        refine aw_iload_n dX8_maysNow_18 rfl rfl ?_
        refine aw_aload_nN dX8_maysNow_19 rfl rfl ?_
        refine aw_ifnonnullN dX8_maysNow_20 ?_
        have e8 : myC pk g I c i = 0 := by
          unfold myC
          rw [if_neg (fun q => by rw [sP_nI hW.1 q] at hx_10; cases hx_10)]
        refine aw_iconst (v := 0) dX8_maysNow_23 (by decide) ?_
        refine aw_goto (tgt := 43) dX8_maysNow_24 (by decide) ?_
        refine aw_iastI dX8_maysNow_43 (by omega) rfl (fun _ => rfl) (vp_in_nI hi6 (by decide)) (show _ = st_F F 3 (pf (myC pk g I c) (F 3) (i + 1)) from by rw [← pf_s, e8, nI_clamp (show i < 2 ^ 31 by omega)]; exact st_FF _ _ _ _) ?_
        refine aw_iinc (v := 1) dX8_maysNow_44 rfl (by decide) (by decide) rfl ?_
        refine aw_goto (tgt := 2) dX8_maysNow_47 (by decide) ?_
        rw [nI_1]
        exact ih (m - 1) (by omega) (i + 1) _ (by omega)
      · refine aw_callV cw_X8_personAt ml_X8_87 im_X8_personAt sl_X8_X8_personAt rfl (by omega) rfl (c_X8_personAt pk G _ _ n hn hW hI0 hp_10 ex_10) ⟨Nat.le_of_ble_eq_true rfl, Nat.le_of_ble_eq_true rfl⟩ ⟨Nat.zero_le _, Nat.zero_le _⟩ rfl rfl (Nat.le_of_ble_eq_true rfl) dX8_maysNow_10 ?_
        rintro _ _ ⟨rfl, rfl⟩
        refine aw_astore_n dX8_maysNow_13 rfl (by decide) rfl ?_
        refine aw_aload_n dX8_maysNow_14 rfl rfl ?_
        refine aw_get fd_X8_23_8 dX8_maysNow_15 (by omega) rfl rfl ?_
        refine aw_iload_n dX8_maysNow_18 rfl rfl ?_
        refine aw_aload_n dX8_maysNow_19 rfl rfl ?_
        refine aw_ifnonnull (tgt := 27) dX8_maysNow_20 (by decide) ?_
        have e7 : i = p_10 := (nI_eq (by omega) (by have := hW.1; omega)).mp ex_10
        subst e7
        have e8 : myC pk g I c i = sMay (kd (pk (g i))) (I (g i + 30) 1) (I (g i + 30) 2) (I 0 8) := by
          unfold myC
          rw [if_pos hp_10]
        refine aw_aload_n dX8_maysNow_27 rfl rfl ?_
        refine aw_aload_n dX8_maysNow_28 rfl rfl ?_
        refine aw_kindP (hW.2 _ hp_10).2.2 (hW.2 _ hp_10).2.1 ⟨Nat.le_of_ble_eq_true rfl, Nat.le_of_ble_eq_true rfl⟩ ⟨Nat.zero_le _, Nat.zero_le _⟩ (Nat.le_of_ble_eq_true rfl) dX8_maysNow_29 ?_
        refine aw_aload_n dX8_maysNow_32 rfl rfl ?_
        refine aw_getP fd_X8_95_1 fd_X8_95_3 fd_X8_95_4 (hW.2 _ hp_10).2.2 dX8_maysNow_33 (hW.2 _ hp_10).2.1 (he_per _) rfl ?_
        refine aw_aload_n dX8_maysNow_36 rfl rfl ?_
        refine aw_getP fd_X8_98_1 fd_X8_98_3 fd_X8_98_4 (hW.2 _ hp_10).2.2 dX8_maysNow_37 (hW.2 _ hp_10).2.1 (he_per _) rfl ?_
        refine aw_callV cw_X8_mayGo ml_X8_105 im_X8_mayGo sl_X8_X8_mayGo rfl (by omega) rfl (c_X8_mayGo pk G _ _ n hn _ _ _) ⟨Nat.le_of_ble_eq_true rfl, Nat.le_of_ble_eq_true rfl⟩ ⟨Nat.zero_le _, Nat.zero_le _⟩ rfl rfl (Nat.le_of_ble_eq_true rfl) dX8_maysNow_40 ?_
        rintro _ _ ⟨rfl, rfl⟩
        refine aw_iastI dX8_maysNow_43 (by omega) rfl (fun _ => rfl) (vp_in_nI hi6 (by decide)) (show _ = st_F F 3 (pf (myC pk g I c) (F 3) (i + 1)) from by rw [← pf_s, e8, nI_clamp (show i < 2 ^ 31 by omega)]; exact st_FF _ _ _ _) ?_
        refine aw_iinc (v := 1) dX8_maysNow_44 rfl (by decide) (by decide) rfl ?_
        refine aw_goto (tgt := 2) dX8_maysNow_47 (by decide) ?_
        rw [nI_1]
        exact ih (m - 1) (by omega) (i + 1) _ (by omega)
set_option maxRecDepth 100000 in
set_option maxHeartbeats 4000000 in
theorem c_X8_maysNow {l : Launch} {D : va_G} {tc : Nat → ClassId} (pk : Nat → Nat) (G : Nat → Option Nat) (I F : Nat → Nat → Int32) (n : Nat) (hn : 30 ≤ n) {c : Nat} {g : Nat → Nat} (hW : WP pk G n c g) (hI0 : I 0 7 = nI c) : AM l D tc yX8_maysNow cX8_maysNow 3 (some (.array .int)) 2 44 0 0 [.ref 0] n (hC pk G I F) (fun v n1 h1 => n1 = n ∧ (v = some (.ref 3) ∧ h1 = hC pk G I (mnF F (myC pk g I c)))) := by
  refine am_of (L := [some (.ref 0), none, none]) (by decide +kernel) (Nat.le_of_ble_eq_true rfl) rfl ?_
  refine aw_iconst (v := 0) dX8_maysNow_0 (by decide) ?_
  refine aw_istore_n dX8_maysNow_1 rfl (by decide) rfl ?_
  have hl := lp_X8_maysNow (l := l) (D := D) (tc := tc) pk G I F n hn hW hI0 6 0 none (by omega)
  rw [pf_0, st_F0] at hl
  exact hl
set_option maxRecDepth 100000 in
set_option maxHeartbeats 4000000 in
theorem c_X8_isFit {l : Launch} {D : va_G} {tc : Nat → ClassId} (a x : Int32) (n : Nat) (h : aw_H) : AM l D tc yX8_isFit cX8_isFit 2 (some .boolean) 2 42 0 0 [.int a, .int x] n h (fun v n1 h1 => n1 = n ∧ (v = some (.int (b2i (sFit a x))) ∧ h1 = h)) := by
  refine am_of (L := [some (.int a), some (.int x)]) (by decide +kernel) (Nat.le_of_ble_eq_true rfl) rfl ?_
  refine aw_iload_n dX8_isFit_0 rfl rfl ?_
  refine aw_bipush (v := (26)) dX8_isFit_1 (by decide) ?_
  refine aw_icmp_lt (tgt := 8) dX8_isFit_3 (by decide) (fun c_3 => ?_) (fun c_3 => ?_)
  · refine aw_iload_n dX8_isFit_8 rfl rfl ?_
    refine aw_iconst (v := 2) dX8_isFit_9 (by decide) ?_
    refine aw_icmp_ge (tgt := 36) dX8_isFit_10 (by decide) (fun c_10 => ?_) (fun c_10 => ?_)
    · refine aw_iload_n dX8_isFit_36 rfl rfl ?_
      refine aw_iconst (v := 2) dX8_isFit_37 (by decide) ?_
      refine aw_isub dX8_isFit_38 ?_
      refine aw_iconst (v := 4) dX8_isFit_39 (by decide) ?_
      refine aw_irem dX8_isFit_40 (by decide) ?_
      by_cases e_41_0 : (x - 2) - (x - 2) / 4 * 4 = 0
      · refine aw_lookupC (off := 27) (tgt := 68) e_41_0 dX8_isFit_41 (by decide) (by decide) (by decide) ?_
        refine aw_iload_n dX8_isFit_68 rfl rfl ?_
        refine aw_bipush (v := (59)) dX8_isFit_69 (by decide) ?_
        refine aw_icmp_ne (tgt := 78) dX8_isFit_71 (by decide) (fun c_71 => ?_) (fun c_71 => ?_)
        · refine aw_iconst (v := 0) dX8_isFit_78 (by decide) ?_
          refine aw_zret dX8_isFit_79 (by first | rfl | exact aw_nb _) (Nat.zero_le _) (Nat.zero_le _) ?_
          refine ⟨rfl, ?_, rfl⟩
          (try simp only [b2i_eq0, b2i_ne0] at *)
          simp [sFit, b2i, *]
        · refine aw_iconst (v := 1) dX8_isFit_74 (by decide) ?_
          refine aw_goto (tgt := 79) dX8_isFit_75 (by decide) ?_
          refine aw_zret dX8_isFit_79 (by first | rfl | exact aw_nb _) (Nat.zero_le _) (Nat.zero_le _) ?_
          refine ⟨rfl, ?_, rfl⟩
          (try simp only [b2i_eq0, b2i_ne0] at *)
          simp [sFit, b2i, *]
      by_cases e_41_1 : (x - 2) - (x - 2) / 4 * 4 = 1
      · refine aw_lookupC (off := 39) (tgt := 80) e_41_1 dX8_isFit_41 (by decide) (by decide) (by decide) ?_
        refine aw_iload_n dX8_isFit_80 rfl rfl ?_
        refine aw_bipush (v := (112)) dX8_isFit_81 (by decide) ?_
        refine aw_icmp_eq (tgt := 98) dX8_isFit_83 (by decide) (fun c_83 => ?_) (fun c_83 => ?_)
        · refine aw_iconst (v := 1) dX8_isFit_98 (by decide) ?_
          refine aw_goto (tgt := 103) dX8_isFit_99 (by decide) ?_
          refine aw_zret dX8_isFit_103 (by first | rfl | exact aw_nb _) (Nat.zero_le _) (Nat.zero_le _) ?_
          refine ⟨rfl, ?_, rfl⟩
          (try simp only [b2i_eq0, b2i_ne0] at *)
          simp [sFit, b2i, *]
        · refine aw_iload_n dX8_isFit_86 rfl rfl ?_
          refine aw_bipush (v := (117)) dX8_isFit_87 (by decide) ?_
          refine aw_icmp_eq (tgt := 98) dX8_isFit_89 (by decide) (fun c_89 => ?_) (fun c_89 => ?_)
          · refine aw_iconst (v := 1) dX8_isFit_98 (by decide) ?_
            refine aw_goto (tgt := 103) dX8_isFit_99 (by decide) ?_
            refine aw_zret dX8_isFit_103 (by first | rfl | exact aw_nb _) (Nat.zero_le _) (Nat.zero_le _) ?_
            refine ⟨rfl, ?_, rfl⟩
            (try simp only [b2i_eq0, b2i_ne0] at *)
            simp [sFit, b2i, *]
          · refine aw_iload_n dX8_isFit_92 rfl rfl ?_
            refine aw_bipush (v := (108)) dX8_isFit_93 (by decide) ?_
            refine aw_icmp_ne (tgt := 102) dX8_isFit_95 (by decide) (fun c_95 => ?_) (fun c_95 => ?_)
            · refine aw_iconst (v := 0) dX8_isFit_102 (by decide) ?_
              refine aw_zret dX8_isFit_103 (by first | rfl | exact aw_nb _) (Nat.zero_le _) (Nat.zero_le _) ?_
              refine ⟨rfl, ?_, rfl⟩
              (try simp only [b2i_eq0, b2i_ne0] at *)
              simp [sFit, b2i, *]
            · refine aw_iconst (v := 1) dX8_isFit_98 (by decide) ?_
              refine aw_goto (tgt := 103) dX8_isFit_99 (by decide) ?_
              refine aw_zret dX8_isFit_103 (by first | rfl | exact aw_nb _) (Nat.zero_le _) (Nat.zero_le _) ?_
              refine ⟨rfl, ?_, rfl⟩
              (try simp only [b2i_eq0, b2i_ne0] at *)
              simp [sFit, b2i, *]
      refine aw_lookup (off := 63) (tgt := 104) dX8_isFit_41 (by decide) (aw_lk2 (by decide) (by decide) e_41_0 e_41_1) (by decide) ?_
      refine aw_iload_n dX8_isFit_104 rfl rfl ?_
      refine aw_callS cw_X8_isDigit ml_X8_267 sm_X8_isDigit (c_X8_isDigit _ _ _) ⟨Nat.le_of_ble_eq_true rfl, Nat.le_of_ble_eq_true rfl⟩ ⟨Nat.zero_le _, Nat.zero_le _⟩ rfl rfl (Nat.le_of_ble_eq_true rfl) dX8_isFit_105 ?_
      rintro _ _ ⟨rfl, rfl⟩
      refine aw_zret dX8_isFit_108 (by first | rfl | exact aw_nb _) (Nat.zero_le _) (Nat.zero_le _) ?_
      refine ⟨rfl, ?_, rfl⟩
      (try simp only [b2i_eq0, b2i_ne0] at *)
      simp [sFit, b2i, *]
    · refine aw_iload_n dX8_isFit_13 rfl rfl ?_
      refine aw_if_ne (tgt := 31) dX8_isFit_14 (by decide) (fun c_14 => ?_) (fun c_14 => ?_)
      · refine aw_iload_n dX8_isFit_31 rfl rfl ?_
        refine aw_callS cw_X8_isDigit ml_X8_267 sm_X8_isDigit (c_X8_isDigit _ _ _) ⟨Nat.le_of_ble_eq_true rfl, Nat.le_of_ble_eq_true rfl⟩ ⟨Nat.zero_le _, Nat.zero_le _⟩ rfl rfl (Nat.le_of_ble_eq_true rfl) dX8_isFit_32 ?_
        rintro _ _ ⟨rfl, rfl⟩
        refine aw_zret dX8_isFit_35 (by first | rfl | exact aw_nb _) (Nat.zero_le _) (Nat.zero_le _) ?_
        refine ⟨rfl, ?_, rfl⟩
        (try simp only [b2i_eq0, b2i_ne0] at *)
        simp [sFit, b2i, *]
      · refine aw_iload_n dX8_isFit_17 rfl rfl ?_
        refine aw_bipush (v := (109)) dX8_isFit_18 (by decide) ?_
        refine aw_icmp_ne (tgt := 27) dX8_isFit_20 (by decide) (fun c_20 => ?_) (fun c_20 => ?_)
        · refine aw_iconst (v := 0) dX8_isFit_27 (by decide) ?_
          refine aw_goto (tgt := 35) dX8_isFit_28 (by decide) ?_
          refine aw_zret dX8_isFit_35 (by first | rfl | exact aw_nb _) (Nat.zero_le _) (Nat.zero_le _) ?_
          refine ⟨rfl, ?_, rfl⟩
          (try simp only [b2i_eq0, b2i_ne0] at *)
          simp [sFit, b2i, *]
        · refine aw_iconst (v := 1) dX8_isFit_23 (by decide) ?_
          refine aw_goto (tgt := 35) dX8_isFit_24 (by decide) ?_
          refine aw_zret dX8_isFit_35 (by first | rfl | exact aw_nb _) (Nat.zero_le _) (Nat.zero_le _) ?_
          refine ⟨rfl, ?_, rfl⟩
          (try simp only [b2i_eq0, b2i_ne0] at *)
          simp [sFit, b2i, *]
  · refine aw_iconst (v := 0) dX8_isFit_6 (by decide) ?_
    refine aw_zret dX8_isFit_7 (by first | rfl | exact aw_nb _) (Nat.zero_le _) (Nat.zero_le _) ?_
    refine ⟨rfl, ?_, rfl⟩
    (try simp only [b2i_eq0, b2i_ne0] at *)
    simp [sFit, b2i, *]
end
section
section IFB
variable {l : Launch} {D : va_G} {tc : Nat → ClassId} {own : String} {cc : ByteArray} {nL : Nat} {ret : Option FieldType} {R : Room} {n0 mc ms : Nat} {Q : Option Value → Nat → aw_H → Prop} {pc : Nat} {L : List (Option Value)} {st rest : List Value} {n : Nat} {h : aw_H} {cells slots : Nat}
theorem aw_ifB_eq {b : Bool} {off : Int} {tgt : Nat} (d : decode cc pc = .ok (.ifCond .eq off, 3)) (ht : (pc : Int) + off = (tgt : Int)) (kt : b = false → AW l D tc own cc nL ret R n0 mc ms Q tgt L rest n h cells slots) (kf : b = true → AW l D tc own cc nL ret R n0 mc ms Q (pc + 3) L rest n h cells slots) : AW l D tc own cc nL ret R n0 mc ms Q pc L (.int (b2i b) :: rest) n h cells slots := aw_if_eq d ht (fun q => kt ((b2i_eq0 _).mp q)) (fun q => kf ((b2i_ne0 _).mp q))
theorem aw_ifB_ne {b : Bool} {off : Int} {tgt : Nat} (d : decode cc pc = .ok (.ifCond .ne off, 3)) (ht : (pc : Int) + off = (tgt : Int)) (kt : b = true → AW l D tc own cc nL ret R n0 mc ms Q tgt L rest n h cells slots) (kf : b = false → AW l D tc own cc nL ret R n0 mc ms Q (pc + 3) L rest n h cells slots) : AW l D tc own cc nL ret R n0 mc ms Q pc L (.int (b2i b) :: rest) n h cells slots := aw_if_ne d ht (fun q => kt ((b2i_ne0 _).mp q)) (fun q => kf ((b2i_eq0 _).mp q))
end IFB
/-! what stays apart from the class's scratch; who is asked only of six -/
def SC (I F I1 F1 : Nat → Nat → Int32) : Prop := (∀ a, a ≠ 4 → I1 a = I a) ∧ ∀ a, a ≠ 3 → a ≠ 5 → a ≠ 6 → a ≠ 15 → a ≠ 16 → F1 a = F a
theorem SC.rf (I F : Nat → Nat → Int32) : SC I F I F := ⟨fun _ _ => rfl, fun _ _ _ _ _ _ => rfl⟩
theorem SC.tr {I F I1 F1 I2 F2 : Nat → Nat → Int32} (h : SC I F I1 F1) (h2 : SC I1 F1 I2 F2) : SC I F I2 F2 := ⟨fun a q => (h2.1 a q).trans (h.1 a q), fun a q1 q2 q3 q4 q5 => (h2.2 a q1 q2 q3 q4 q5).trans (h.2 a q1 q2 q3 q4 q5)⟩
theorem L3_ne (I : Nat → Nat → Int32) (f h s : Int32) {a : Nat} (ha : a ≠ 4) : L3 I f h s a = I a := by funext k; simp [L3, ha]
theorem SC.l3 (I F : Nat → Nat → Int32) (f h s : Int32) : SC I F (L3 I f h s) F := ⟨fun a q => L3_ne I f h s q, fun _ _ _ _ _ _ => rfl⟩
theorem SC.F {I F : Nat → Nat → Int32} (a : Nat) (ha : a = 3 ∨ a = 5 ∨ a = 6 ∨ a = 15 ∨ a = 16) (g : Nat → Int32) : SC I F I (st_F F a g) := ⟨fun _ _ => rfl, fun b q1 q2 q3 q4 q5 => st_Fn (by omega)⟩
theorem SC.mn (I F : Nat → Nat → Int32) (my : Nat → Int32) : SC I F I (mnF F my) := SC.F 3 (by decide) _
theorem SC.gt (I F : Nat → Nat → Int32) (x : Int32) (k : Nat) : SC I F I (gtF F x k) := (SC.F 5 (by decide) _).tr (SC.F 6 (by decide) _)
theorem SC.lp (I F : Nat → Nat → Int32) (k : Nat) : SC I F I (lpF F k) := (SC.F 15 (by decide) _).tr (SC.F 16 (by decide) _)
theorem stp_c {my my' : Nat → Int32} {set : Int32} {i : Nat} {q : Int32 × Int32 × Int32 × Int32} (h : my i = my' i) : stp my set i q = stp my' set i q := by unfold stp; rw [h]
theorem rndN_c {my my' : Nat → Int32} {set : Int32} {q : Int32 × Int32 × Int32 × Int32} : ∀ k, (∀ i, i < k → my i = my' i) → rndN my set q k = rndN my' set q k
  | 0, _ => rfl
  | k + 1, h => by rw [rndN, rndN, rndN_c k (fun i hi => h i (by omega)), stp_c (h k (by omega))]
theorem itN_c {my my' : Nat → Int32} {set : Int32} (h : ∀ i, i < 6 → my i = my' i) : ∀ r, itN my set r = itN my' set r
  | 0 => rfl
  | r + 1 => by rw [itN, itN, itN_c h r, rndN_c 6 h]
theorem sCall_c {my my' : Nat → Int32} {set : Int32} (h : ∀ i, i < 6 → my i = my' i) : sCall my set = sCall my' set := itN_c h 19
theorem sDown_c {my my' : Nat → Int32} {set : Int32} (h : ∀ i, i < 6 → my i = my' i) : sDown my set = sDown my' set := by unfold sDown; rw [sCall_c h]
theorem lfN_c {my my' : Nat → Int32} {set : Int32} (h : ∀ i, i < 6 → my i = my' i) : ∀ k, lfN my set k = lfN my' set k
  | 0 => rfl
  | k + 1 => by rw [lfN, lfN, lfN_c h k, sDown_c h]
theorem dnN_c {my my' : Nat → Int32} {set : Int32} (h : ∀ i, i < 6 → my i = my' i) : dnN my set = dnN my' set := by funext k; unfold dnN; rw [lfN_c h, sDown_c h]
theorem frN_c {my my' : Nat → Int32} {set : Int32} (h : ∀ i, i < 6 → my i = my' i) : frN my set = frN my' set := by funext k; unfold frN; rw [lfN_c h, sCall_c h]
theorem gtC_c {my my' : Nat → Int32} {set : Int32} (h : ∀ i, i < 6 → my i = my' i) : ∀ m i, gtC my set i m = gtC my' set i m
  | 0, _ => rfl
  | m + 1, i => by rw [gtC, gtC, lfN_c h, gtC_c h m]
theorem gtM_c {my my' : Nat → Int32} {set : Int32} (h : ∀ i, i < 6 → my i = my' i) : gtM my set = gtM my' set := gtC_c h 6 0
theorem sPlace_c {my my' : Nat → Int32} {set p : Int32} (h : ∀ i, i < 6 → my i = my' i) : sPlace my set p = sPlace my' set p := by unfold sPlace; rw [dnN_c h, gtM_c h]
theorem pf6 (g f : Nat → Int32) : ∀ i, i < 6 → pf g f 6 i = g i := fun i hi => by unfold pf; rw [if_pos hi]
theorem rdAll_c {my my' wh fa on : Nat → Int32} (h : ∀ i, i < 6 → my i = my' i) : ∀ {c : Nat}, (∀ k, k < c → vp_in (wh k) 6) → rdAll my wh fa on c = rdAll my' wh fa on c
  | 0, _ => rfl
  | c + 1, hw => by
    obtain ⟨j, hj, e⟩ := vp_in_of (hw c (by omega)) (by decide)
    rw [rdAll, rdAll, rdAll_c h (fun k hk => hw k (by omega))]
    unfold rdSo
    rw [e, nI_clamp (by omega), h j hj]
theorem mn3 (F : Nat → Nat → Int32) (my : Nat → Int32) : mnF F my 3 = pf my (F 3) 6 := rfl
def sel8 (w a0 a1 a2 a3 a4 a5 a6 a7 : Int32) : Int32 := if w = 0 then a0 else if w = 1 then a1 else if w = 2 then a2 else if w = 3 then a3 else if w = 4 then a4 else if w = 5 then a5 else if w = 6 then a6 else if w = 7 then a7 else -2
def sPop (x : Int32) : Int32 :=
  let a := x - ((x.toUInt32 >>> (Int32.toUInt32 1 &&& Int32.toUInt32 31)).toInt32 &&& 1431655765)
  let b := (a &&& 858993459) + ((a.toUInt32 >>> (Int32.toUInt32 2 &&& Int32.toUInt32 31)).toInt32 &&& 858993459)
  let c := (b + (b.toUInt32 >>> (Int32.toUInt32 4 &&& Int32.toUInt32 31)).toInt32) &&& 252645135
  let d := c + (c.toUInt32 >>> (Int32.toUInt32 8 &&& Int32.toUInt32 31)).toInt32
  let e := d + (d.toUInt32 >>> (Int32.toUInt32 16 &&& Int32.toUInt32 31)).toInt32
  e &&& 63

set_option maxRecDepth 100000 in
set_option maxHeartbeats 4000000 in
theorem c_J6_bitCount_0f7a4 {l : Launch} {D : va_G} {tc : Nat → ClassId} (x : Int32) (n : Nat) (h : aw_H) : AM l D tc yJ6_bitCount_0f7a4 cJ6_bitCount_0f7a4 1 (some .int) 0 0 0 0 [.int x] n h (fun v n1 h1 => n1 = n ∧ (v = some (.int (sPop x)) ∧ h1 = h)) := by
  refine am_of (L := [some (.int x)]) (by decide +kernel) (Nat.le_of_ble_eq_true rfl) rfl ?_
  refine aw_iload_n dJ6_bitCount_0f7a4_0 rfl rfl ?_
  refine aw_iload_n dJ6_bitCount_0f7a4_1 rfl rfl ?_
  refine aw_iconst (v := 1) dJ6_bitCount_0f7a4_2 (by decide) ?_
  refine aw_iushr dJ6_bitCount_0f7a4_3 ?_
  refine aw_ldcw dJ6_bitCount_0f7a4_4 ct_J6_265 ?_
  refine aw_iand dJ6_bitCount_0f7a4_7 ?_
  refine aw_isub dJ6_bitCount_0f7a4_8 ?_
  refine aw_istore_n dJ6_bitCount_0f7a4_9 rfl (by decide) rfl ?_
  refine aw_iload_n dJ6_bitCount_0f7a4_10 rfl rfl ?_
  refine aw_ldcw dJ6_bitCount_0f7a4_11 ct_J6_266 ?_
  refine aw_iand dJ6_bitCount_0f7a4_14 ?_
  refine aw_iload_n dJ6_bitCount_0f7a4_15 rfl rfl ?_
  refine aw_iconst (v := 2) dJ6_bitCount_0f7a4_16 (by decide) ?_
  refine aw_iushr dJ6_bitCount_0f7a4_17 ?_
  refine aw_ldcw dJ6_bitCount_0f7a4_18 ct_J6_266 ?_
  refine aw_iand dJ6_bitCount_0f7a4_21 ?_
  refine aw_iadd dJ6_bitCount_0f7a4_22 ?_
  refine aw_istore_n dJ6_bitCount_0f7a4_23 rfl (by decide) rfl ?_
  refine aw_iload_n dJ6_bitCount_0f7a4_24 rfl rfl ?_
  refine aw_iload_n dJ6_bitCount_0f7a4_25 rfl rfl ?_
  refine aw_iconst (v := 4) dJ6_bitCount_0f7a4_26 (by decide) ?_
  refine aw_iushr dJ6_bitCount_0f7a4_27 ?_
  refine aw_iadd dJ6_bitCount_0f7a4_28 ?_
  refine aw_ldcw dJ6_bitCount_0f7a4_29 ct_J6_267 ?_
  refine aw_iand dJ6_bitCount_0f7a4_32 ?_
  refine aw_istore_n dJ6_bitCount_0f7a4_33 rfl (by decide) rfl ?_
  refine aw_iload_n dJ6_bitCount_0f7a4_34 rfl rfl ?_
  refine aw_iload_n dJ6_bitCount_0f7a4_35 rfl rfl ?_
  refine aw_bipush (v := (8)) dJ6_bitCount_0f7a4_36 (by decide) ?_
  refine aw_iushr dJ6_bitCount_0f7a4_38 ?_
  refine aw_iadd dJ6_bitCount_0f7a4_39 ?_
  refine aw_istore_n dJ6_bitCount_0f7a4_40 rfl (by decide) rfl ?_
  refine aw_iload_n dJ6_bitCount_0f7a4_41 rfl rfl ?_
  refine aw_iload_n dJ6_bitCount_0f7a4_42 rfl rfl ?_
  refine aw_bipush (v := (16)) dJ6_bitCount_0f7a4_43 (by decide) ?_
  refine aw_iushr dJ6_bitCount_0f7a4_45 ?_
  refine aw_iadd dJ6_bitCount_0f7a4_46 ?_
  refine aw_istore_n dJ6_bitCount_0f7a4_47 rfl (by decide) rfl ?_
  refine aw_iload_n dJ6_bitCount_0f7a4_48 rfl rfl ?_
  refine aw_bipush (v := (63)) dJ6_bitCount_0f7a4_49 (by decide) ?_
  refine aw_iand dJ6_bitCount_0f7a4_51 ?_
  refine aw_iret dJ6_bitCount_0f7a4_52 (Nat.zero_le _) (Nat.zero_le _) ?_
  exact ⟨rfl, rfl, rfl⟩
set_option maxRecDepth 100000 in
set_option maxHeartbeats 4000000 in
theorem c_X8_ofPerson_no {l : Launch} {D : va_G} {tc : Nat → ClassId} (pk : Nat → Nat) (G : Nat → Option Nat) (I F : Nat → Nat → Int32) (n : Nat) (hn : 30 ≤ n) {c : Nat} (hI0 : I 0 7 = nI c) {x : Int32} (hx : sP c x = false) (w : Int32) : AM l D tc yX8_ofPerson cX8_ofPerson 4 (some .int) 4 88 0 0 [.ref 0, .int x, .int w] n (hC pk G I F) (fun v n1 h1 => n1 = n ∧ (v = some (.int (-1)) ∧ h1 = hC pk G I F)) := by
  refine am_of (L := [some (.ref 0), some (.int x), some (.int w), none]) (by decide +kernel) (Nat.le_of_ble_eq_true rfl) rfl ?_
  refine aw_aload_n dX8_ofPerson_0 rfl rfl ?_
  refine aw_iload_n dX8_ofPerson_1 rfl rfl ?_
  refine aw_callV cw_X8_personAt ml_X8_87 im_X8_personAt sl_X8_X8_personAt rfl (by omega) rfl (c_X8_personAt_no pk G _ _ n hn hI0 hx) ⟨Nat.le_of_ble_eq_true rfl, Nat.le_of_ble_eq_true rfl⟩ ⟨Nat.zero_le _, Nat.zero_le _⟩ rfl rfl (Nat.le_of_ble_eq_true rfl) dX8_ofPerson_2 ?_
  rintro _ _ ⟨rfl, rfl⟩
  refine aw_astore_nN dX8_ofPerson_5 rfl (by decide) rfl ?_
  refine aw_aload_nN dX8_ofPerson_6 rfl rfl ?_
  refine aw_ifnonnullN dX8_ofPerson_7 ?_
  refine aw_iconst (v := (-1)) dX8_ofPerson_10 (by decide) ?_
  refine aw_iret dX8_ofPerson_11 (Nat.zero_le _) (Nat.zero_le _) ?_
  exact ⟨rfl, rfl, rfl⟩
set_option maxRecDepth 100000 in
set_option maxHeartbeats 4000000 in
theorem c_X8_ofPerson {l : Launch} {D : va_G} {tc : Nat → ClassId} (pk : Nat → Nat) (G : Nat → Option Nat) (I F : Nat → Nat → Int32) (n : Nat) (hn : 30 ≤ n) {c : Nat} {g : Nat → Nat} (hW : WP pk G n c g) (hI0 : I 0 7 = nI c) {p : Nat} (hp : p < c) (w : Int32) : AM l D tc yX8_ofPerson cX8_ofPerson 4 (some .int) 4 88 0 0 [.ref 0, .int (nI p), .int w] n (hC pk G I F) (fun v n1 h1 => n1 = n ∧ (v = some (.int (sel8 w (kd (pk (g p))) (I (g p + 30) 1) (I (g p + 30) 2) (sWould (kd (pk (g p))) (I (g p + 30) 1)) (sMay (kd (pk (g p))) (I (g p + 30) 1) (I (g p + 30) 2) (I 0 8)) (b2i (sHas (I 0 9) (nI p))) (sBy F (nI p)) (sTo F (nI p)))) ∧ h1 = (hC pk G I F))) := by
  refine am_of (L := [some (.ref 0), some (.int (nI p)), some (.int w), none]) (by decide +kernel) (Nat.le_of_ble_eq_true rfl) rfl ?_
  refine aw_aload_n dX8_ofPerson_0 rfl rfl ?_
  refine aw_iload_n dX8_ofPerson_1 rfl rfl ?_
  refine aw_callV cw_X8_personAt ml_X8_87 im_X8_personAt sl_X8_X8_personAt rfl (by omega) rfl (c_X8_personAt pk G _ _ n hn hW hI0 hp rfl) ⟨Nat.le_of_ble_eq_true rfl, Nat.le_of_ble_eq_true rfl⟩ ⟨Nat.zero_le _, Nat.zero_le _⟩ rfl rfl (Nat.le_of_ble_eq_true rfl) dX8_ofPerson_2 ?_
  rintro _ _ ⟨rfl, rfl⟩
  refine aw_astore_n dX8_ofPerson_5 rfl (by decide) rfl ?_
  refine aw_aload_n dX8_ofPerson_6 rfl rfl ?_
  refine aw_ifnonnull (tgt := 12) dX8_ofPerson_7 (by decide) ?_
  refine aw_iload_n dX8_ofPerson_12 rfl rfl ?_
  by_cases e_13_0 : w = 0
  · refine aw_tableC (off := 47) (tgt := 60) e_13_0 dX8_ofPerson_13 (by decide) (by decide) (by decide) (by decide) ?_
    refine aw_aload_n dX8_ofPerson_60 rfl rfl ?_
    refine aw_kindP (hW.2 _ hp).2.2 (hW.2 _ hp).2.1 ⟨Nat.le_of_ble_eq_true rfl, Nat.le_of_ble_eq_true rfl⟩ ⟨Nat.zero_le _, Nat.zero_le _⟩ (Nat.le_of_ble_eq_true rfl) dX8_ofPerson_61 ?_
    refine aw_iret dX8_ofPerson_64 (Nat.zero_le _) (Nat.zero_le _) ?_
    refine ⟨rfl, ?_, rfl⟩
    first | (simp [sel8, b2i, *]; done) | (simp_all [sel8, b2i]; done)
  by_cases e_13_1 : w = 1
  · refine aw_tableC (off := 52) (tgt := 65) e_13_1 dX8_ofPerson_13 (by decide) (by decide) (by decide) (by decide) ?_
    refine aw_aload_n dX8_ofPerson_65 rfl rfl ?_
    refine aw_getP fd_X8_95_1 fd_X8_95_3 fd_X8_95_4 (hW.2 _ hp).2.2 dX8_ofPerson_66 (hW.2 _ hp).2.1 (he_per _) rfl ?_
    refine aw_iret dX8_ofPerson_69 (Nat.zero_le _) (Nat.zero_le _) ?_
    refine ⟨rfl, ?_, rfl⟩
    first | (simp [sel8, b2i, *]; done) | (simp_all [sel8, b2i]; done)
  by_cases e_13_2 : w = 2
  · refine aw_tableC (off := 57) (tgt := 70) e_13_2 dX8_ofPerson_13 (by decide) (by decide) (by decide) (by decide) ?_
    refine aw_aload_n dX8_ofPerson_70 rfl rfl ?_
    refine aw_getP fd_X8_98_1 fd_X8_98_3 fd_X8_98_4 (hW.2 _ hp).2.2 dX8_ofPerson_71 (hW.2 _ hp).2.1 (he_per _) rfl ?_
    refine aw_iret dX8_ofPerson_74 (Nat.zero_le _) (Nat.zero_le _) ?_
    refine ⟨rfl, ?_, rfl⟩
    first | (simp [sel8, b2i, *]; done) | (simp_all [sel8, b2i]; done)
  by_cases e_13_3 : w = 3
  · refine aw_tableC (off := 62) (tgt := 75) e_13_3 dX8_ofPerson_13 (by decide) (by decide) (by decide) (by decide) ?_
    refine aw_aload_n dX8_ofPerson_75 rfl rfl ?_
    refine aw_kindP (hW.2 _ hp).2.2 (hW.2 _ hp).2.1 ⟨Nat.le_of_ble_eq_true rfl, Nat.le_of_ble_eq_true rfl⟩ ⟨Nat.zero_le _, Nat.zero_le _⟩ (Nat.le_of_ble_eq_true rfl) dX8_ofPerson_76 ?_
    refine aw_aload_n dX8_ofPerson_79 rfl rfl ?_
    refine aw_getP fd_X8_95_1 fd_X8_95_3 fd_X8_95_4 (hW.2 _ hp).2.2 dX8_ofPerson_80 (hW.2 _ hp).2.1 (he_per _) rfl ?_
    refine aw_callS cw_X8_wouldGo ml_X8_101 sm_X8_wouldGo (c_X8_wouldGo _ _ _ _) ⟨Nat.le_of_ble_eq_true rfl, Nat.le_of_ble_eq_true rfl⟩ ⟨Nat.zero_le _, Nat.zero_le _⟩ rfl rfl (Nat.le_of_ble_eq_true rfl) dX8_ofPerson_83 ?_
    rintro _ _ ⟨rfl, rfl⟩
    refine aw_iret dX8_ofPerson_86 (Nat.zero_le _) (Nat.zero_le _) ?_
    refine ⟨rfl, ?_, rfl⟩
    first | (simp [sel8, b2i, *]; done) | (simp_all [sel8, b2i]; done)
  by_cases e_13_4 : w = 4
  · refine aw_tableC (off := 74) (tgt := 87) e_13_4 dX8_ofPerson_13 (by decide) (by decide) (by decide) (by decide) ?_
    refine aw_aload_n dX8_ofPerson_87 rfl rfl ?_
    refine aw_aload_n dX8_ofPerson_88 rfl rfl ?_
    refine aw_kindP (hW.2 _ hp).2.2 (hW.2 _ hp).2.1 ⟨Nat.le_of_ble_eq_true rfl, Nat.le_of_ble_eq_true rfl⟩ ⟨Nat.zero_le _, Nat.zero_le _⟩ (Nat.le_of_ble_eq_true rfl) dX8_ofPerson_89 ?_
    refine aw_aload_n dX8_ofPerson_92 rfl rfl ?_
    refine aw_getP fd_X8_95_1 fd_X8_95_3 fd_X8_95_4 (hW.2 _ hp).2.2 dX8_ofPerson_93 (hW.2 _ hp).2.1 (he_per _) rfl ?_
    refine aw_aload_n dX8_ofPerson_96 rfl rfl ?_
    refine aw_getP fd_X8_98_1 fd_X8_98_3 fd_X8_98_4 (hW.2 _ hp).2.2 dX8_ofPerson_97 (hW.2 _ hp).2.1 (he_per _) rfl ?_
    refine aw_callV cw_X8_mayGo ml_X8_105 im_X8_mayGo sl_X8_X8_mayGo rfl (by omega) rfl (c_X8_mayGo pk G _ _ n hn _ _ _) ⟨Nat.le_of_ble_eq_true rfl, Nat.le_of_ble_eq_true rfl⟩ ⟨Nat.zero_le _, Nat.zero_le _⟩ rfl rfl (Nat.le_of_ble_eq_true rfl) dX8_ofPerson_100 ?_
    rintro _ _ ⟨rfl, rfl⟩
    refine aw_iret dX8_ofPerson_103 (Nat.zero_le _) (Nat.zero_le _) ?_
    refine ⟨rfl, ?_, rfl⟩
    first | (simp [sel8, b2i, *]; done) | (simp_all [sel8, b2i]; done)
  by_cases e_13_5 : w = 5
  · refine aw_tableC (off := 91) (tgt := 104) e_13_5 dX8_ofPerson_13 (by decide) (by decide) (by decide) (by decide) ?_
    refine aw_aload_n dX8_ofPerson_104 rfl rfl ?_
    refine aw_get fd_X8_109_8 dX8_ofPerson_105 (by omega) rfl rfl ?_
    refine aw_iload_n dX8_ofPerson_108 rfl rfl ?_
    refine aw_callS cw_X8_has ml_X8_112 sm_X8_has (c_X8_has _ _ _ _) ⟨Nat.le_of_ble_eq_true rfl, Nat.le_of_ble_eq_true rfl⟩ ⟨Nat.zero_le _, Nat.zero_le _⟩ rfl rfl (Nat.le_of_ble_eq_true rfl) dX8_ofPerson_109 ?_
    rintro _ _ ⟨rfl, rfl⟩
    refine aw_ifB_eq (tgt := 119) dX8_ofPerson_112 (by decide) (fun c_112 => ?_) (fun c_112 => ?_)
    · refine aw_iconst (v := 0) dX8_ofPerson_119 (by decide) ?_
      refine aw_iret dX8_ofPerson_120 (Nat.zero_le _) (Nat.zero_le _) ?_
      refine ⟨rfl, ?_, rfl⟩
      first | (simp [sel8, b2i, *]; done) | (simp_all [sel8, b2i]; done)
    · refine aw_iconst (v := 1) dX8_ofPerson_115 (by decide) ?_
      refine aw_goto (tgt := 120) dX8_ofPerson_116 (by decide) ?_
      refine aw_iret dX8_ofPerson_120 (Nat.zero_le _) (Nat.zero_le _) ?_
      refine ⟨rfl, ?_, rfl⟩
      first | (simp [sel8, b2i, *]; done) | (simp_all [sel8, b2i]; done)
  by_cases e_13_6 : w = 6
  · refine aw_tableC (off := 108) (tgt := 121) e_13_6 dX8_ofPerson_13 (by decide) (by decide) (by decide) (by decide) ?_
    refine aw_aload_n dX8_ofPerson_121 rfl rfl ?_
    refine aw_get fd_X8_37_8 dX8_ofPerson_122 (by omega) rfl rfl ?_
    refine aw_iload_n dX8_ofPerson_125 rfl rfl ?_
    refine aw_callV cw_X0_owedBy ml_X8_116 im_X0_owedBy sl_X0_X0_owedBy rfl (by omega) rfl (c_X0_owedBy pk G _ _ n hn _) ⟨Nat.le_of_ble_eq_true rfl, Nat.le_of_ble_eq_true rfl⟩ ⟨Nat.zero_le _, Nat.zero_le _⟩ rfl rfl (Nat.le_of_ble_eq_true rfl) dX8_ofPerson_126 ?_
    rintro _ _ ⟨rfl, rfl⟩
    refine aw_iret dX8_ofPerson_129 (Nat.zero_le _) (Nat.zero_le _) ?_
    refine ⟨rfl, ?_, rfl⟩
    first | (simp [sel8, b2i, *]; done) | (simp_all [sel8, b2i]; done)
  by_cases e_13_7 : w = 7
  · refine aw_tableC (off := 117) (tgt := 130) e_13_7 dX8_ofPerson_13 (by decide) (by decide) (by decide) (by decide) ?_
    refine aw_aload_n dX8_ofPerson_130 rfl rfl ?_
    refine aw_get fd_X8_37_8 dX8_ofPerson_131 (by omega) rfl rfl ?_
    refine aw_iload_n dX8_ofPerson_134 rfl rfl ?_
    refine aw_callV cw_X0_owedTo ml_X8_119 im_X0_owedTo sl_X0_X0_owedTo rfl (by omega) rfl (c_X0_owedTo pk G _ _ n hn _) ⟨Nat.le_of_ble_eq_true rfl, Nat.le_of_ble_eq_true rfl⟩ ⟨Nat.zero_le _, Nat.zero_le _⟩ rfl rfl (Nat.le_of_ble_eq_true rfl) dX8_ofPerson_135 ?_
    rintro _ _ ⟨rfl, rfl⟩
    refine aw_iret dX8_ofPerson_138 (Nat.zero_le _) (Nat.zero_le _) ?_
    refine ⟨rfl, ?_, rfl⟩
    first | (simp [sel8, b2i, *]; done) | (simp_all [sel8, b2i]; done)
  refine aw_tableOut (tgt := 139) dX8_ofPerson_13 (aw_out8 e_13_0 e_13_1 e_13_2 e_13_3 e_13_4 e_13_5 e_13_6 e_13_7) (by decide) ?_
  refine aw_bipush (v := (-2)) dX8_ofPerson_139 (by decide) ?_
  refine aw_iret dX8_ofPerson_141 (Nat.zero_le _) (Nat.zero_le _) ?_
  refine ⟨rfl, ?_, rfl⟩
  first | (simp [sel8, b2i, *]; done) | (simp_all [sel8, b2i]; done)
set_option maxRecDepth 100000 in
set_option maxHeartbeats 4000000 in
theorem c_X8_hurry_no {l : Launch} {D : va_G} {tc : Nat → ClassId} (pk : Nat → Nat) (G : Nat → Option Nat) (I F : Nat → Nat → Int32) (n : Nat) (hn : 30 ≤ n) {c : Nat} (hI0 : I 0 7 = nI c) {x : Int32} (hx : sP c x = false) (w : Int32) : AM l D tc yX8_hurry cX8_hurry 5 (some .int) 1 22 0 0 [.ref 0, .int x, .int w] n (hC pk G I F) (fun v n1 h1 => n1 = n ∧ (v = some (.int (-1)) ∧ h1 = hC pk G I F)) := by
  refine am_of (L := [some (.ref 0), some (.int x), some (.int w), none, none]) (by decide +kernel) (Nat.le_of_ble_eq_true rfl) rfl ?_
  refine aw_aload_n dX8_hurry_0 rfl rfl ?_
  refine aw_iload_n dX8_hurry_1 rfl rfl ?_
  refine aw_callV cw_X8_personAt ml_X8_87 im_X8_personAt sl_X8_X8_personAt rfl (by omega) rfl (c_X8_personAt_no pk G _ _ n hn hI0 hx) ⟨Nat.le_of_ble_eq_true rfl, Nat.le_of_ble_eq_true rfl⟩ ⟨Nat.zero_le _, Nat.zero_le _⟩ rfl rfl (Nat.le_of_ble_eq_true rfl) dX8_hurry_2 ?_
  rintro _ _ ⟨rfl, rfl⟩
  refine aw_astore_nN dX8_hurry_5 rfl (by decide) rfl ?_
  refine aw_aload_nN dX8_hurry_6 rfl rfl ?_
  refine aw_ifnonnullN dX8_hurry_7 ?_
  refine aw_iconst (v := (-1)) dX8_hurry_10 (by decide) ?_
  refine aw_iret dX8_hurry_11 (Nat.zero_le _) (Nat.zero_le _) ?_
  exact ⟨rfl, rfl, rfl⟩
set_option maxRecDepth 100000 in
set_option maxHeartbeats 4000000 in
theorem c_X8_hurry {l : Launch} {D : va_G} {tc : Nat → ClassId} (pk : Nat → Nat) (G : Nat → Option Nat) (I F : Nat → Nat → Int32) (n : Nat) (hn : 30 ≤ n) {c : Nat} {g : Nat → Nat} (hW : WP pk G n c g) (hI0 : I 0 7 = nI c) {p : Nat} (hp : p < c) (w : Int32) : AM l D tc yX8_hurry cX8_hurry 5 (some .int) 1 22 0 0 [.ref 0, .int (nI p), .int w] n (hC pk G I F) (fun v n1 h1 => n1 = n ∧ (v = some (.int (if sW w 0 9 then (I (g p + 30) 1) else -2)) ∧ h1 = hC pk G (if sW w 0 9 then st_I I (g p + 30) 1 w else I) F)) := by
  refine am_of (L := [some (.ref 0), some (.int (nI p)), some (.int w), none, none]) (by decide +kernel) (Nat.le_of_ble_eq_true rfl) rfl ?_
  refine aw_aload_n dX8_hurry_0 rfl rfl ?_
  refine aw_iload_n dX8_hurry_1 rfl rfl ?_
  refine aw_callV cw_X8_personAt ml_X8_87 im_X8_personAt sl_X8_X8_personAt rfl (by omega) rfl (c_X8_personAt pk G _ _ n hn hW hI0 hp rfl) ⟨Nat.le_of_ble_eq_true rfl, Nat.le_of_ble_eq_true rfl⟩ ⟨Nat.zero_le _, Nat.zero_le _⟩ rfl rfl (Nat.le_of_ble_eq_true rfl) dX8_hurry_2 ?_
  rintro _ _ ⟨rfl, rfl⟩
  refine aw_astore_n dX8_hurry_5 rfl (by decide) rfl ?_
  refine aw_aload_n dX8_hurry_6 rfl rfl ?_
  refine aw_ifnonnull (tgt := 12) dX8_hurry_7 (by decide) ?_
  refine aw_iload_n dX8_hurry_12 rfl rfl ?_
  refine aw_iconst (v := 0) dX8_hurry_13 (by decide) ?_
  refine aw_bipush (v := (9)) dX8_hurry_14 (by decide) ?_
  refine aw_callS cw_X8_isWithin ml_X8_122 sm_X8_isWithin (c_X8_isWithin _ _ _ _ _) ⟨Nat.le_of_ble_eq_true rfl, Nat.le_of_ble_eq_true rfl⟩ ⟨Nat.zero_le _, Nat.zero_le _⟩ rfl rfl (Nat.le_of_ble_eq_true rfl) dX8_hurry_16 ?_
  rintro _ _ ⟨rfl, rfl⟩
  refine aw_ifB_ne (tgt := 25) dX8_hurry_19 (by decide) (fun c_19 => ?_) (fun c_19 => ?_)
  · refine aw_aload_n dX8_hurry_25 rfl rfl ?_
    refine aw_getP fd_X8_95_1 fd_X8_95_3 fd_X8_95_4 (hW.2 _ hp).2.2 dX8_hurry_26 (hW.2 _ hp).2.1 (he_per _) rfl ?_
    refine aw_istore dX8_hurry_29 (by decide) rfl ?_
    refine aw_aload_n dX8_hurry_31 rfl rfl ?_
    refine aw_iload_n dX8_hurry_32 rfl rfl ?_
    refine aw_putP fp_X8_95_1 fp_X8_95_3 fp_X8_95_4 (hW.2 _ hp).2.2 dX8_hurry_33 (hW.2 _ hp).2.1 ?_
    refine aw_iload dX8_hurry_36 rfl ?_
    refine aw_iret dX8_hurry_38 (Nat.zero_le _) (Nat.zero_le _) ?_
    refine ⟨rfl, ?_, ?_⟩ <;> first | (simp [*]; done) | (simp_all; done)
  · refine aw_bipush (v := (-2)) dX8_hurry_22 (by decide) ?_
    refine aw_iret dX8_hurry_24 (Nat.zero_le _) (Nat.zero_le _) ?_
    refine ⟨rfl, ?_, ?_⟩ <;> first | (simp [*]; done) | (simp_all; done)
set_option maxRecDepth 100000 in
set_option maxHeartbeats 4000000 in
theorem c_X8_wall_no {l : Launch} {D : va_G} {tc : Nat → ClassId} (pk : Nat → Nat) (G : Nat → Option Nat) (I F : Nat → Nat → Int32) (n : Nat) (hn : 30 ≤ n) {c : Nat} (hI0 : I 0 7 = nI c) {x : Int32} (hx : sP c x = false) (w : Int32) : AM l D tc yX8_wall cX8_wall 5 (some .int) 1 22 0 0 [.ref 0, .int x, .int w] n (hC pk G I F) (fun v n1 h1 => n1 = n ∧ (v = some (.int (-1)) ∧ h1 = hC pk G I F)) := by
  refine am_of (L := [some (.ref 0), some (.int x), some (.int w), none, none]) (by decide +kernel) (Nat.le_of_ble_eq_true rfl) rfl ?_
  refine aw_aload_n dX8_wall_0 rfl rfl ?_
  refine aw_iload_n dX8_wall_1 rfl rfl ?_
  refine aw_callV cw_X8_personAt ml_X8_87 im_X8_personAt sl_X8_X8_personAt rfl (by omega) rfl (c_X8_personAt_no pk G _ _ n hn hI0 hx) ⟨Nat.le_of_ble_eq_true rfl, Nat.le_of_ble_eq_true rfl⟩ ⟨Nat.zero_le _, Nat.zero_le _⟩ rfl rfl (Nat.le_of_ble_eq_true rfl) dX8_wall_2 ?_
  rintro _ _ ⟨rfl, rfl⟩
  refine aw_astore_nN dX8_wall_5 rfl (by decide) rfl ?_
  refine aw_aload_nN dX8_wall_6 rfl rfl ?_
  refine aw_ifnonnullN dX8_wall_7 ?_
  refine aw_iconst (v := (-1)) dX8_wall_10 (by decide) ?_
  refine aw_iret dX8_wall_11 (Nat.zero_le _) (Nat.zero_le _) ?_
  exact ⟨rfl, rfl, rfl⟩
set_option maxRecDepth 100000 in
set_option maxHeartbeats 4000000 in
theorem c_X8_wall {l : Launch} {D : va_G} {tc : Nat → ClassId} (pk : Nat → Nat) (G : Nat → Option Nat) (I F : Nat → Nat → Int32) (n : Nat) (hn : 30 ≤ n) {c : Nat} {g : Nat → Nat} (hW : WP pk G n c g) (hI0 : I 0 7 = nI c) {p : Nat} (hp : p < c) (w : Int32) : AM l D tc yX8_wall cX8_wall 5 (some .int) 1 22 0 0 [.ref 0, .int (nI p), .int w] n (hC pk G I F) (fun v n1 h1 => n1 = n ∧ (v = some (.int (if sW w 0 9 then (I (g p + 30) 2) else -2)) ∧ h1 = hC pk G (if sW w 0 9 then st_I I (g p + 30) 2 w else I) F)) := by
  refine am_of (L := [some (.ref 0), some (.int (nI p)), some (.int w), none, none]) (by decide +kernel) (Nat.le_of_ble_eq_true rfl) rfl ?_
  refine aw_aload_n dX8_wall_0 rfl rfl ?_
  refine aw_iload_n dX8_wall_1 rfl rfl ?_
  refine aw_callV cw_X8_personAt ml_X8_87 im_X8_personAt sl_X8_X8_personAt rfl (by omega) rfl (c_X8_personAt pk G _ _ n hn hW hI0 hp rfl) ⟨Nat.le_of_ble_eq_true rfl, Nat.le_of_ble_eq_true rfl⟩ ⟨Nat.zero_le _, Nat.zero_le _⟩ rfl rfl (Nat.le_of_ble_eq_true rfl) dX8_wall_2 ?_
  rintro _ _ ⟨rfl, rfl⟩
  refine aw_astore_n dX8_wall_5 rfl (by decide) rfl ?_
  refine aw_aload_n dX8_wall_6 rfl rfl ?_
  refine aw_ifnonnull (tgt := 12) dX8_wall_7 (by decide) ?_
  refine aw_iload_n dX8_wall_12 rfl rfl ?_
  refine aw_iconst (v := 0) dX8_wall_13 (by decide) ?_
  refine aw_bipush (v := (9)) dX8_wall_14 (by decide) ?_
  refine aw_callS cw_X8_isWithin ml_X8_122 sm_X8_isWithin (c_X8_isWithin _ _ _ _ _) ⟨Nat.le_of_ble_eq_true rfl, Nat.le_of_ble_eq_true rfl⟩ ⟨Nat.zero_le _, Nat.zero_le _⟩ rfl rfl (Nat.le_of_ble_eq_true rfl) dX8_wall_16 ?_
  rintro _ _ ⟨rfl, rfl⟩
  refine aw_ifB_ne (tgt := 25) dX8_wall_19 (by decide) (fun c_19 => ?_) (fun c_19 => ?_)
  · refine aw_aload_n dX8_wall_25 rfl rfl ?_
    refine aw_getP fd_X8_98_1 fd_X8_98_3 fd_X8_98_4 (hW.2 _ hp).2.2 dX8_wall_26 (hW.2 _ hp).2.1 (he_per _) rfl ?_
    refine aw_istore dX8_wall_29 (by decide) rfl ?_
    refine aw_aload_n dX8_wall_31 rfl rfl ?_
    refine aw_iload_n dX8_wall_32 rfl rfl ?_
    refine aw_putP fp_X8_98_1 fp_X8_98_3 fp_X8_98_4 (hW.2 _ hp).2.2 dX8_wall_33 (hW.2 _ hp).2.1 ?_
    refine aw_iload dX8_wall_36 rfl ?_
    refine aw_iret dX8_wall_38 (Nat.zero_le _) (Nat.zero_le _) ?_
    refine ⟨rfl, ?_, ?_⟩ <;> first | (simp [*]; done) | (simp_all; done)
  · refine aw_bipush (v := (-2)) dX8_wall_22 (by decide) ?_
    refine aw_iret dX8_wall_24 (Nat.zero_le _) (Nat.zero_le _) ?_
    refine ⟨rfl, ?_, ?_⟩ <;> first | (simp [*]; done) | (simp_all; done)
set_option maxRecDepth 100000 in
set_option maxHeartbeats 4000000 in
theorem c_X8_lease {l : Launch} {D : va_G} {tc : Nat → ClassId} (pk : Nat → Nat) (G : Nat → Option Nat) (I F : Nat → Nat → Int32) (n : Nat) (hn : 30 ≤ n) (w : Int32) : AM l D tc yX8_lease cX8_lease 3 (some .int) 1 22 0 0 [.ref 0, .int w] n (hC pk G I F) (fun v n1 h1 => n1 = n ∧ (v = some (.int (if sW w 0 9 then (if I 0 7 = 0 then -3 else I 0 8) else -2)) ∧ h1 = hC pk G (if sW w 0 9 then (if I 0 7 = 0 then I else st_I I 0 8 w) else I) F)) := by
  refine am_of (L := [some (.ref 0), some (.int w), none]) (by decide +kernel) (Nat.le_of_ble_eq_true rfl) rfl ?_
  refine aw_iload_n dX8_lease_0 rfl rfl ?_
  refine aw_iconst (v := 0) dX8_lease_1 (by decide) ?_
  refine aw_bipush (v := (9)) dX8_lease_2 (by decide) ?_
  refine aw_callS cw_X8_isWithin ml_X8_122 sm_X8_isWithin (c_X8_isWithin _ _ _ _ _) ⟨Nat.le_of_ble_eq_true rfl, Nat.le_of_ble_eq_true rfl⟩ ⟨Nat.zero_le _, Nat.zero_le _⟩ rfl rfl (Nat.le_of_ble_eq_true rfl) dX8_lease_4 ?_
  rintro _ _ ⟨rfl, rfl⟩
  refine aw_ifB_ne (tgt := 13) dX8_lease_7 (by decide) (fun c_7 => ?_) (fun c_7 => ?_)
  · refine aw_aload_n dX8_lease_13 rfl rfl ?_
    refine aw_get fd_X8_84_8 dX8_lease_14 (by omega) rfl rfl ?_
    refine aw_if_ne (tgt := 23) dX8_lease_17 (by decide) (fun c_17 => ?_) (fun c_17 => ?_)
    · refine aw_aload_n dX8_lease_23 rfl rfl ?_
      refine aw_get fd_X8_126_8 dX8_lease_24 (by omega) rfl rfl ?_
      refine aw_istore_n dX8_lease_27 rfl (by decide) rfl ?_
      refine aw_aload_n dX8_lease_28 rfl rfl ?_
      refine aw_iload_n dX8_lease_29 rfl rfl ?_
      refine aw_puti fp_X8_126_8 dX8_lease_30 (by omega) rfl rfl rfl (Nat.le_of_ble_eq_true rfl) rfl ?_
      refine aw_iload_n dX8_lease_33 rfl rfl ?_
      refine aw_iret dX8_lease_34 (Nat.zero_le _) (Nat.zero_le _) ?_
      refine ⟨rfl, ?_, ?_⟩ <;> first | (simp [*]; done) | (simp_all; done)
    · refine aw_bipush (v := (-3)) dX8_lease_20 (by decide) ?_
      refine aw_iret dX8_lease_22 (Nat.zero_le _) (Nat.zero_le _) ?_
      refine ⟨rfl, ?_, ?_⟩ <;> first | (simp [*]; done) | (simp_all; done)
  · refine aw_bipush (v := (-2)) dX8_lease_10 (by decide) ?_
    refine aw_iret dX8_lease_12 (Nat.zero_le _) (Nat.zero_le _) ?_
    refine ⟨rfl, ?_, ?_⟩ <;> first | (simp [*]; done) | (simp_all; done)
set_option maxRecDepth 100000 in
set_option maxHeartbeats 4000000 in
theorem c_X8_morning {l : Launch} {D : va_G} {tc : Nat → ClassId} (pk : Nat → Nat) (G : Nat → Option Nat) (I F : Nat → Nat → Int32) (n : Nat) (hn : 30 ≤ n) : AM l D tc yX8_morning cX8_morning 2 (some .int) 2 40 0 0 [.ref 0] n (hC pk G I F) (fun v n1 h1 => n1 = n ∧ (v = some (.int (if I 0 7 = 0 then -3 else I 0 7 - sPop (I 0 9))) ∧ h1 = hC pk G (if I 0 7 = 0 then I else st_I (st_I I 0 9 (sBit (I 0 7) - 1)) 0 10 (I 0 10 + 1)) F)) := by
  refine am_of (L := [some (.ref 0), none]) (by decide +kernel) (Nat.le_of_ble_eq_true rfl) rfl ?_
  refine aw_aload_n dX8_morning_0 rfl rfl ?_
  refine aw_get fd_X8_84_8 dX8_morning_1 (by omega) rfl rfl ?_
  refine aw_if_ne (tgt := 10) dX8_morning_4 (by decide) (fun c_4 => ?_) (fun c_4 => ?_)
  · refine aw_aload_n dX8_morning_10 rfl rfl ?_
    refine aw_get fd_X8_84_8 dX8_morning_11 (by omega) rfl rfl ?_
    refine aw_aload_n dX8_morning_14 rfl rfl ?_
    refine aw_get fd_X8_109_8 dX8_morning_15 (by omega) rfl rfl ?_
    refine aw_callS cw_J6_bitCount_0f7a4 ml_X8_150 sm_J6_bitCount_0f7a4 (c_J6_bitCount_0f7a4 _ _ _) ⟨Nat.le_of_ble_eq_true rfl, Nat.le_of_ble_eq_true rfl⟩ ⟨Nat.zero_le _, Nat.zero_le _⟩ rfl rfl (Nat.le_of_ble_eq_true rfl) dX8_morning_18 ?_
    rintro _ _ ⟨rfl, rfl⟩
    refine aw_isub dX8_morning_21 ?_
    refine aw_istore_n dX8_morning_22 rfl (by decide) rfl ?_
    refine aw_aload_n dX8_morning_23 rfl rfl ?_
    refine aw_aload_n dX8_morning_24 rfl rfl ?_
    refine aw_callV cw_X8_everybody ml_X8_155 im_X8_everybody sl_X8_X8_everybody rfl (by omega) rfl (c_X8_everybody pk G _ _ n hn) ⟨Nat.le_of_ble_eq_true rfl, Nat.le_of_ble_eq_true rfl⟩ ⟨Nat.zero_le _, Nat.zero_le _⟩ rfl rfl (Nat.le_of_ble_eq_true rfl) dX8_morning_25 ?_
    rintro _ _ ⟨rfl, rfl⟩
    refine aw_puti fp_X8_109_8 dX8_morning_28 (by omega) rfl rfl rfl (Nat.le_of_ble_eq_true rfl) rfl ?_
    refine aw_aload_n dX8_morning_31 rfl rfl ?_
    refine aw_dup dX8_morning_32 rfl ?_
    refine aw_get fd_X8_158_8 dX8_morning_33 (by omega) rfl rfl ?_
    refine aw_iconst (v := 1) dX8_morning_36 (by decide) ?_
    refine aw_iadd dX8_morning_37 ?_
    refine aw_puti fp_X8_158_8 dX8_morning_38 (by omega) rfl rfl rfl (Nat.le_of_ble_eq_true rfl) rfl ?_
    refine aw_iload_n dX8_morning_41 rfl rfl ?_
    refine aw_iret dX8_morning_42 (Nat.zero_le _) (Nat.zero_le _) ?_
    refine ⟨rfl, ?_, ?_⟩
    · simp [*]
    · first | (rw [if_pos (by assumption)]) | (rw [if_neg (by assumption)]; rfl)
  · refine aw_bipush (v := (-3)) dX8_morning_7 (by decide) ?_
    refine aw_iret dX8_morning_9 (Nat.zero_le _) (Nat.zero_le _) ?_
    refine ⟨rfl, ?_, ?_⟩
    · simp [*]
    · first | (rw [if_pos (by assumption)]) | (rw [if_neg (by assumption)]; rfl)
set_option maxRecDepth 100000 in
set_option maxHeartbeats 4000000 in
theorem c_X8_owes {l : Launch} {D : va_G} {tc : Nat → ClassId} (pk : Nat → Nat) (G : Nat → Option Nat) (I F : Nat → Nat → Int32) (n : Nat) (hn : 30 ≤ n) {c : Nat} {g : Nat → Nat} (hW : WP pk G n c g) (hI0 : I 0 7 = nI c) (x y : Int32) : AM l D tc yX8_owes cX8_owes 3 (some .int) 3 65 0 0 [.ref 0, .int x, .int y] n (hC pk G I F) (fun v n1 h1 => n1 = n ∧ (v = some (.int (if sP c x && sP c y && !decide (x = y) then sBtw F x y else -1)) ∧ h1 = (hC pk G I F))) := by
  refine am_of (L := [some (.ref 0), some (.int x), some (.int y)]) (by decide +kernel) (Nat.le_of_ble_eq_true rfl) rfl ?_
  refine aw_aload_n dX8_owes_0 rfl rfl ?_
  refine aw_iload_n dX8_owes_1 rfl rfl ?_
  refine aw_iload_n dX8_owes_2 rfl rfl ?_
  refine aw_callV cw_X8_areTwo ml_X8_161 im_X8_areTwo sl_X8_X8_areTwo rfl (by omega) rfl (c_X8_areTwo pk G _ _ n hn hW hI0 _ _) ⟨Nat.le_of_ble_eq_true rfl, Nat.le_of_ble_eq_true rfl⟩ ⟨Nat.zero_le _, Nat.zero_le _⟩ rfl rfl (Nat.le_of_ble_eq_true rfl) dX8_owes_3 ?_
  rintro _ _ ⟨rfl, rfl⟩
  refine aw_ifB_ne (tgt := 11) dX8_owes_6 (by decide) (fun c_6 => ?_) (fun c_6 => ?_)
  · refine aw_aload_n dX8_owes_11 rfl rfl ?_
    refine aw_get fd_X8_37_8 dX8_owes_12 (by omega) rfl rfl ?_
    refine aw_iload_n dX8_owes_15 rfl rfl ?_
    refine aw_iload_n dX8_owes_16 rfl rfl ?_
    refine aw_callV cw_X0_between ml_X8_164 im_X0_between sl_X0_X0_between rfl (by omega) rfl (c_X0_between pk G _ _ n hn _ _) ⟨Nat.le_of_ble_eq_true rfl, Nat.le_of_ble_eq_true rfl⟩ ⟨Nat.zero_le _, Nat.zero_le _⟩ rfl rfl (Nat.le_of_ble_eq_true rfl) dX8_owes_17 ?_
    rintro _ _ ⟨rfl, rfl⟩
    refine aw_iret dX8_owes_20 (Nat.zero_le _) (Nat.zero_le _) ?_
    refine ⟨rfl, ?_, rfl⟩
    first | (rw [if_pos (by assumption)]; done) | (rw [if_neg (by simp only [Bool.not_eq_true]; assumption)]; done)
  · refine aw_iconst (v := (-1)) dX8_owes_9 (by decide) ?_
    refine aw_iret dX8_owes_10 (Nat.zero_le _) (Nat.zero_le _) ?_
    refine ⟨rfl, ?_, rfl⟩
    first | (rw [if_pos (by assumption)]; done) | (rw [if_neg (by simp only [Bool.not_eq_true]; assumption)]; done)
set_option maxRecDepth 100000 in
set_option maxHeartbeats 4000000 in
theorem c_X8_pays {l : Launch} {D : va_G} {tc : Nat → ClassId} (pk : Nat → Nat) (G : Nat → Option Nat) (I F : Nat → Nat → Int32) (n : Nat) (hn : 30 ≤ n) {c : Nat} {g : Nat → Nat} (hW : WP pk G n c g) (hI0 : I 0 7 = nI c) (x y w : Int32) : AM l D tc yX8_pays cX8_pays 4 (some .int) 3 66 0 0 [.ref 0, .int x, .int y, .int w] n (hC pk G I F) (fun v n1 h1 => n1 = n ∧ (v = some (.int (if sP c x && sP c y && !decide (x = y) then (if sW w 1 99 then (if w ≤ sBtw F x y then sBtw (adF F x y (-w)) x y else -3) else -2) else -1)) ∧ h1 = hC pk G I (if sP c x && sP c y && !decide (x = y) then (if sW w 1 99 then (if w ≤ sBtw F x y then adF F x y (-w) else F) else F) else F))) := by
  refine am_of (L := [some (.ref 0), some (.int x), some (.int y), some (.int w)]) (by decide +kernel) (Nat.le_of_ble_eq_true rfl) rfl ?_
  refine aw_aload_n dX8_pays_0 rfl rfl ?_
  refine aw_iload_n dX8_pays_1 rfl rfl ?_
  refine aw_iload_n dX8_pays_2 rfl rfl ?_
  refine aw_callV cw_X8_areTwo ml_X8_161 im_X8_areTwo sl_X8_X8_areTwo rfl (by omega) rfl (c_X8_areTwo pk G _ _ n hn hW hI0 _ _) ⟨Nat.le_of_ble_eq_true rfl, Nat.le_of_ble_eq_true rfl⟩ ⟨Nat.zero_le _, Nat.zero_le _⟩ rfl rfl (Nat.le_of_ble_eq_true rfl) dX8_pays_3 ?_
  rintro _ _ ⟨rfl, rfl⟩
  refine aw_ifB_ne (tgt := 11) dX8_pays_6 (by decide) (fun c_6 => ?_) (fun c_6 => ?_)
  · refine aw_iload_n dX8_pays_11 rfl rfl ?_
    refine aw_iconst (v := 1) dX8_pays_12 (by decide) ?_
    refine aw_bipush (v := (99)) dX8_pays_13 (by decide) ?_
    refine aw_callS cw_X8_isWithin ml_X8_122 sm_X8_isWithin (c_X8_isWithin _ _ _ _ _) ⟨Nat.le_of_ble_eq_true rfl, Nat.le_of_ble_eq_true rfl⟩ ⟨Nat.zero_le _, Nat.zero_le _⟩ rfl rfl (Nat.le_of_ble_eq_true rfl) dX8_pays_15 ?_
    rintro _ _ ⟨rfl, rfl⟩
    refine aw_ifB_ne (tgt := 24) dX8_pays_18 (by decide) (fun c_18 => ?_) (fun c_18 => ?_)
    · refine aw_aload_n dX8_pays_24 rfl rfl ?_
      refine aw_get fd_X8_37_8 dX8_pays_25 (by omega) rfl rfl ?_
      refine aw_iload_n dX8_pays_28 rfl rfl ?_
      refine aw_iload_n dX8_pays_29 rfl rfl ?_
      refine aw_callV cw_X0_between ml_X8_164 im_X0_between sl_X0_X0_between rfl (by omega) rfl (c_X0_between pk G _ _ n hn _ _) ⟨Nat.le_of_ble_eq_true rfl, Nat.le_of_ble_eq_true rfl⟩ ⟨Nat.zero_le _, Nat.zero_le _⟩ rfl rfl (Nat.le_of_ble_eq_true rfl) dX8_pays_30 ?_
      rintro _ _ ⟨rfl, rfl⟩
      refine aw_iload_n dX8_pays_33 rfl rfl ?_
      refine aw_icmp_ge (tgt := 40) dX8_pays_34 (by decide) (fun c_34 => ?_) (fun c_34 => ?_)
      · refine aw_aload_n dX8_pays_40 rfl rfl ?_
        refine aw_get fd_X8_37_8 dX8_pays_41 (by omega) rfl rfl ?_
        refine aw_iload_n dX8_pays_44 rfl rfl ?_
        refine aw_iload_n dX8_pays_45 rfl rfl ?_
        refine aw_iload_n dX8_pays_46 rfl rfl ?_
        refine aw_ineg dX8_pays_47 ?_
        refine aw_callV cw_X0_add ml_X8_146 im_X0_add sl_X0_X0_add rfl (by omega) rfl (c_X0_add pk G _ _ n hn _ _ _) ⟨Nat.le_of_ble_eq_true rfl, Nat.le_of_ble_eq_true rfl⟩ ⟨Nat.zero_le _, Nat.zero_le _⟩ rfl rfl (Nat.le_of_ble_eq_true rfl) dX8_pays_48 ?_
        rintro _ _ ⟨rfl, rfl⟩
        refine aw_aload_n dX8_pays_51 rfl rfl ?_
        refine aw_get fd_X8_37_8 dX8_pays_52 (by omega) rfl rfl ?_
        refine aw_iload_n dX8_pays_55 rfl rfl ?_
        refine aw_iload_n dX8_pays_56 rfl rfl ?_
        refine aw_callV cw_X0_between ml_X8_164 im_X0_between sl_X0_X0_between rfl (by omega) rfl (c_X0_between pk G _ _ n hn _ _) ⟨Nat.le_of_ble_eq_true rfl, Nat.le_of_ble_eq_true rfl⟩ ⟨Nat.zero_le _, Nat.zero_le _⟩ rfl rfl (Nat.le_of_ble_eq_true rfl) dX8_pays_57 ?_
        rintro _ _ ⟨rfl, rfl⟩
        refine aw_iret dX8_pays_60 (Nat.zero_le _) (Nat.zero_le _) ?_
        generalize (sP c x && sP c y && !decide (x = y)) = B at *
        refine ⟨rfl, ?_, ?_⟩ <;> first | (simp [*]; done) | (simp_all; done)
      · refine aw_bipush (v := (-3)) dX8_pays_37 (by decide) ?_
        refine aw_iret dX8_pays_39 (Nat.zero_le _) (Nat.zero_le _) ?_
        generalize (sP c x && sP c y && !decide (x = y)) = B at *
        refine ⟨rfl, ?_, ?_⟩ <;> first | (simp [*]; done) | (simp_all; done)
    · refine aw_bipush (v := (-2)) dX8_pays_21 (by decide) ?_
      refine aw_iret dX8_pays_23 (Nat.zero_le _) (Nat.zero_le _) ?_
      generalize (sP c x && sP c y && !decide (x = y)) = B at *
      refine ⟨rfl, ?_, ?_⟩ <;> first | (simp [*]; done) | (simp_all; done)
  · refine aw_iconst (v := (-1)) dX8_pays_9 (by decide) ?_
    refine aw_iret dX8_pays_10 (Nat.zero_le _) (Nat.zero_le _) ?_
    generalize (sP c x && sP c y && !decide (x = y)) = B at *
    refine ⟨rfl, ?_, ?_⟩ <;> first | (simp [*]; done) | (simp_all; done)
set_option maxRecDepth 100000 in
set_option maxHeartbeats 4000000 in
theorem c_X8_balance_no {l : Launch} {D : va_G} {tc : Nat → ClassId} (pk : Nat → Nat) (G : Nat → Option Nat) (I F : Nat → Nat → Int32) (n : Nat) (hn : 30 ≤ n) {c : Nat} (hI0 : I 0 7 = nI c) {x : Int32} (hx : sP c x = false) : AM l D tc yX8_balance cX8_balance 2 (some .int) 5 109 0 0 [.ref 0, .int x] n (hC pk G I F) (fun v n1 h1 => n1 = n ∧ (v = some (.int (-1)) ∧ h1 = hC pk G I F)) := by
  refine am_of (L := [some (.ref 0), some (.int x)]) (by decide +kernel) (Nat.le_of_ble_eq_true rfl) rfl ?_
  refine aw_aload_n dX8_balance_0 rfl rfl ?_
  refine aw_iload_n dX8_balance_1 rfl rfl ?_
  refine aw_callV cw_X8_personAt ml_X8_87 im_X8_personAt sl_X8_X8_personAt rfl (by omega) rfl (c_X8_personAt_no pk G _ _ n hn hI0 hx) ⟨Nat.le_of_ble_eq_true rfl, Nat.le_of_ble_eq_true rfl⟩ ⟨Nat.zero_le _, Nat.zero_le _⟩ rfl rfl (Nat.le_of_ble_eq_true rfl) dX8_balance_2 ?_
  rintro _ _ ⟨rfl, rfl⟩
  refine aw_ifnonnullN dX8_balance_5 ?_
  refine aw_iconst (v := (-1)) dX8_balance_8 (by decide) ?_
  refine aw_iret dX8_balance_9 (Nat.zero_le _) (Nat.zero_le _) ?_
  exact ⟨rfl, rfl, rfl⟩
set_option maxRecDepth 100000 in
set_option maxHeartbeats 4000000 in
theorem c_X8_balance {l : Launch} {D : va_G} {tc : Nat → ClassId} (pk : Nat → Nat) (G : Nat → Option Nat) (I F : Nat → Nat → Int32) (n : Nat) (hn : 30 ≤ n) {c : Nat} {g : Nat → Nat} (hW : WP pk G n c g) (hI0 : I 0 7 = nI c) {p : Nat} (hp : p < c) : AM l D tc yX8_balance cX8_balance 2 (some .int) 5 109 0 0 [.ref 0, .int (nI p)] n (hC pk G I F) (fun v n1 h1 => n1 = n ∧ (v = some (.int (sBal F (nI p) + 10000)) ∧ h1 = (hC pk G I F))) := by
  refine am_of (L := [some (.ref 0), some (.int (nI p))]) (by decide +kernel) (Nat.le_of_ble_eq_true rfl) rfl ?_
  refine aw_aload_n dX8_balance_0 rfl rfl ?_
  refine aw_iload_n dX8_balance_1 rfl rfl ?_
  refine aw_callV cw_X8_personAt ml_X8_87 im_X8_personAt sl_X8_X8_personAt rfl (by omega) rfl (c_X8_personAt pk G _ _ n hn hW hI0 hp rfl) ⟨Nat.le_of_ble_eq_true rfl, Nat.le_of_ble_eq_true rfl⟩ ⟨Nat.zero_le _, Nat.zero_le _⟩ rfl rfl (Nat.le_of_ble_eq_true rfl) dX8_balance_2 ?_
  rintro _ _ ⟨rfl, rfl⟩
  refine aw_ifnonnull (tgt := 10) dX8_balance_5 (by decide) ?_
  refine aw_aload_n dX8_balance_10 rfl rfl ?_
  refine aw_get fd_X8_37_8 dX8_balance_11 (by omega) rfl rfl ?_
  refine aw_iload_n dX8_balance_14 rfl rfl ?_
  refine aw_callV cw_X0_balanceOf ml_X8_193 im_X0_balanceOf sl_X0_X0_balanceOf rfl (by omega) rfl (c_X0_balanceOf pk G _ _ n hn _) ⟨Nat.le_of_ble_eq_true rfl, Nat.le_of_ble_eq_true rfl⟩ ⟨Nat.zero_le _, Nat.zero_le _⟩ rfl rfl (Nat.le_of_ble_eq_true rfl) dX8_balance_15 ?_
  rintro _ _ ⟨rfl, rfl⟩
  refine aw_sipush (v := (10000)) dX8_balance_18 (by decide) ?_
  refine aw_iadd dX8_balance_21 ?_
  refine aw_iret dX8_balance_22 (Nat.zero_le _) (Nat.zero_le _) ?_
  exact ⟨rfl, rfl, rfl⟩
set_option maxRecDepth 100000 in
set_option maxHeartbeats 4000000 in
theorem c_X8_cleared {l : Launch} {D : va_G} {tc : Nat → ClassId} (pk : Nat → Nat) (G : Nat → Option Nat) (I F : Nat → Nat → Int32) (n : Nat) (hn : 30 ≤ n) (w : Int32) : AM l D tc yX8_cleared cX8_cleared 2 (some .int) 6 131 0 0 [.ref 0, .int w] n (hC pk G I F) (fun v n1 h1 => n1 = n ∧ (∃ I1 F1, SC I F I1 F1 ∧ h1 = hC pk G I1 F1 ∧ v = some (.int (if sW w 0 1 then (if I 0 7 = 0 then -3 else if w = 0 then sSteps F else 6 - gpN (F 16) (blN F (F 15) 6) 63 63) else -2)))) := by
  refine am_of (L := [some (.ref 0), some (.int w)]) (by decide +kernel) (Nat.le_of_ble_eq_true rfl) rfl ?_
  refine aw_iload_n dX8_cleared_0 rfl rfl ?_
  refine aw_iconst (v := 0) dX8_cleared_1 (by decide) ?_
  refine aw_iconst (v := 1) dX8_cleared_2 (by decide) ?_
  refine aw_callS cw_X8_isWithin ml_X8_122 sm_X8_isWithin (c_X8_isWithin _ _ _ _ _) ⟨Nat.le_of_ble_eq_true rfl, Nat.le_of_ble_eq_true rfl⟩ ⟨Nat.zero_le _, Nat.zero_le _⟩ rfl rfl (Nat.le_of_ble_eq_true rfl) dX8_cleared_3 ?_
  rintro _ _ ⟨rfl, rfl⟩
  refine aw_ifB_ne (tgt := 12) dX8_cleared_6 (by decide) (fun c_6 => ?_) (fun c_6 => ?_)
  · refine aw_aload_n dX8_cleared_12 rfl rfl ?_
    refine aw_get fd_X8_84_8 dX8_cleared_13 (by omega) rfl rfl ?_
    refine aw_if_ne (tgt := 22) dX8_cleared_16 (by decide) (fun c_16 => ?_) (fun c_16 => ?_)
    · refine aw_iload_n dX8_cleared_22 rfl rfl ?_
      refine aw_if_ne (tgt := 36) dX8_cleared_23 (by decide) (fun c_23 => ?_) (fun c_23 => ?_)
      · refine aw_aload_n dX8_cleared_36 rfl rfl ?_
        refine aw_get fd_X8_37_8 dX8_cleared_37 (by omega) rfl rfl ?_
        refine aw_callV cw_X0_leastPayments ml_X8_199 im_X0_leastPayments sl_X0_X0_leastPayments rfl (by omega) rfl (c_X0_leastPayments pk G _ _ n hn) ⟨Nat.le_of_ble_eq_true rfl, Nat.le_of_ble_eq_true rfl⟩ ⟨Nat.zero_le _, Nat.zero_le _⟩ rfl rfl (Nat.le_of_ble_eq_true rfl) dX8_cleared_40 ?_
        rintro _ _ ⟨rfl, rfl⟩
        refine aw_iret dX8_cleared_43 (Nat.zero_le _) (Nat.zero_le _) ?_
        refine ⟨rfl, _, _, ?_, rfl, ?_⟩
        · first | exact SC.rf _ _ | exact SC.lp _ _ _
        · first | (simp [*]; done) | (simp_all; done)
      · refine aw_aload_n dX8_cleared_26 rfl rfl ?_
        refine aw_get fd_X8_37_8 dX8_cleared_27 (by omega) rfl rfl ?_
        refine aw_callV cw_X0_leastSteps ml_X8_196 im_X0_leastSteps sl_X0_X0_leastSteps rfl (by omega) rfl (c_X0_leastSteps pk G _ _ n hn) ⟨Nat.le_of_ble_eq_true rfl, Nat.le_of_ble_eq_true rfl⟩ ⟨Nat.zero_le _, Nat.zero_le _⟩ rfl rfl (Nat.le_of_ble_eq_true rfl) dX8_cleared_30 ?_
        rintro _ _ ⟨rfl, rfl⟩
        refine aw_goto (tgt := 43) dX8_cleared_33 (by decide) ?_
        refine aw_iret dX8_cleared_43 (Nat.zero_le _) (Nat.zero_le _) ?_
        refine ⟨rfl, _, _, ?_, rfl, ?_⟩
        · first | exact SC.rf _ _ | exact SC.lp _ _ _
        · first | (simp [*]; done) | (simp_all; done)
    · refine aw_bipush (v := (-3)) dX8_cleared_19 (by decide) ?_
      refine aw_iret dX8_cleared_21 (Nat.zero_le _) (Nat.zero_le _) ?_
      refine ⟨rfl, _, _, ?_, rfl, ?_⟩
      · first | exact SC.rf _ _ | exact SC.lp _ _ _
      · first | (simp [*]; done) | (simp_all; done)
  · refine aw_bipush (v := (-2)) dX8_cleared_9 (by decide) ?_
    refine aw_iret dX8_cleared_11 (Nat.zero_le _) (Nat.zero_le _) ?_
    refine ⟨rfl, _, _, ?_, rfl, ?_⟩
    · first | exact SC.rf _ _ | exact SC.lp _ _ _
    · first | (simp [*]; done) | (simp_all; done)
set_option maxRecDepth 100000 in
set_option maxHeartbeats 4000000 in
theorem c_X8_back {l : Launch} {D : va_G} {tc : Nat → ClassId} (pk : Nat → Nat) (G : Nat → Option Nat) (I F : Nat → Nat → Int32) (n : Nat) (hn : 30 ≤ n) (w : Int32) : AM l D tc yX8_back cX8_back 2 (some .int) 1 22 0 0 [.ref 0, .int w] n (hC pk G I F) (fun v n1 h1 => n1 = n ∧ (v = some (.int (if sW w 0 (I 17 3) then I 17 3 - w else -2)) ∧ h1 = hC pk G (if sW w 0 (I 17 3) then st_I I 17 3 (I 17 3 - w) else I) F)) := by
  refine am_of (L := [some (.ref 0), some (.int w)]) (by decide +kernel) (Nat.le_of_ble_eq_true rfl) rfl ?_
  refine aw_iload_n dX8_back_0 rfl rfl ?_
  refine aw_iconst (v := 0) dX8_back_1 (by decide) ?_
  refine aw_aload_n dX8_back_2 rfl rfl ?_
  refine aw_get fd_X8_44_8 dX8_back_3 (by omega) rfl rfl ?_
  refine aw_get fd_X8_202_5 dX8_back_6 (by omega) rfl rfl ?_
  refine aw_callS cw_X8_isWithin ml_X8_122 sm_X8_isWithin (c_X8_isWithin _ _ _ _ _) ⟨Nat.le_of_ble_eq_true rfl, Nat.le_of_ble_eq_true rfl⟩ ⟨Nat.zero_le _, Nat.zero_le _⟩ rfl rfl (Nat.le_of_ble_eq_true rfl) dX8_back_9 ?_
  rintro _ _ ⟨rfl, rfl⟩
  refine aw_ifB_ne (tgt := 18) dX8_back_12 (by decide) (fun c_12 => ?_) (fun c_12 => ?_)
  · refine aw_aload_n dX8_back_18 rfl rfl ?_
    refine aw_get fd_X8_44_8 dX8_back_19 (by omega) rfl rfl ?_
    refine aw_dup dX8_back_22 rfl ?_
    refine aw_get fd_X8_202_5 dX8_back_23 (by omega) rfl rfl ?_
    refine aw_iload_n dX8_back_26 rfl rfl ?_
    refine aw_isub dX8_back_27 ?_
    refine aw_puti fp_X8_202_5 dX8_back_28 (by omega) rfl rfl rfl (Nat.le_of_ble_eq_true rfl) rfl ?_
    refine aw_aload_n dX8_back_31 rfl rfl ?_
    refine aw_get fd_X8_44_8 dX8_back_32 (by omega) rfl rfl ?_
    refine aw_get fd_X8_202_5 dX8_back_35 (by omega) rfl rfl ?_
    refine aw_iret dX8_back_38 (Nat.zero_le _) (Nat.zero_le _) ?_
    refine ⟨rfl, ?_, ?_⟩
    · first | (rw [if_pos c_12]; rfl) | (rw [if_neg (by rw [c_12]; decide)])
    · first | (rw [if_pos c_12]) | (rw [if_neg (by rw [c_12]; decide)])
  · refine aw_bipush (v := (-2)) dX8_back_15 (by decide) ?_
    refine aw_iret dX8_back_17 (Nat.zero_le _) (Nat.zero_le _) ?_
    refine ⟨rfl, ?_, ?_⟩
    · first | (rw [if_pos c_12]; rfl) | (rw [if_neg (by rw [c_12]; decide)])
    · first | (rw [if_pos c_12]) | (rw [if_neg (by rw [c_12]; decide)])
set_option maxRecDepth 100000 in
set_option maxHeartbeats 4000000 in
theorem c_X8_trace {l : Launch} {D : va_G} {tc : Nat → ClassId} (pk : Nat → Nat) (G : Nat → Option Nat) (I F : Nat → Nat → Int32) (n : Nat) (hn : 30 ≤ n) : AM l D tc yX8_trace cX8_trace 1 (some .int) 0 0 0 0 [.ref 0] n (hC pk G I F) (fun v n1 h1 => n1 = n ∧ (v = some (.int (I 21 0)) ∧ h1 = (hC pk G I F))) := by
  refine am_of (L := [some (.ref 0)]) (by decide +kernel) (Nat.le_of_ble_eq_true rfl) rfl ?_
  refine aw_aload_n dX8_trace_0 rfl rfl ?_
  refine aw_get fd_X8_51_8 dX8_trace_1 (by omega) rfl rfl ?_
  refine aw_get fd_X8_252_7 dX8_trace_4 (by omega) rfl rfl ?_
  refine aw_iret dX8_trace_7 (Nat.zero_le _) (Nat.zero_le _) ?_
  exact ⟨rfl, rfl, rfl⟩
set_option maxRecDepth 100000 in
set_option maxHeartbeats 4000000 in
theorem c_X8_fault {l : Launch} {D : va_G} {tc : Nat → ClassId} (pk : Nat → Nat) (G : Nat → Option Nat) (I F : Nat → Nat → Int32) (n : Nat) (hn : 30 ≤ n) : AM l D tc yX8_fault cX8_fault 1 (some .int) 0 0 0 0 [.ref 0] n (hC pk G I F) (fun v n1 h1 => n1 = n ∧ (v = some (.int (I 0 11)) ∧ h1 = (hC pk G I F))) := by
  refine am_of (L := [some (.ref 0)]) (by decide +kernel) (Nat.le_of_ble_eq_true rfl) rfl ?_
  refine aw_aload_n dX8_fault_0 rfl rfl ?_
  refine aw_get fd_X8_56_8 dX8_fault_1 (by omega) rfl rfl ?_
  refine aw_iret dX8_fault_4 (Nat.zero_le _) (Nat.zero_le _) ?_
  exact ⟨rfl, rfl, rfl⟩
def sel5 (w a0 a1 a2 a3 a4 : Int32) : Int32 := if w = 0 then a0 else if w = 1 then a1 else if w = 2 then a2 else if w = 3 then a3 else if w = 4 then a4 else -2
set_option maxRecDepth 100000 in
set_option maxHeartbeats 4000000 in
theorem c_X8_many {l : Launch} {D : va_G} {tc : Nat → ClassId} (pk : Nat → Nat) (G : Nat → Option Nat) (I F : Nat → Nat → Int32) (n : Nat) (hn : 30 ≤ n) (w : Int32) : AM l D tc yX8_many cX8_many 2 (some .int) 1 20 0 0 [.ref 0, .int w] n (hC pk G I F) (fun v n1 h1 => n1 = n ∧ (v = some (.int (sel5 w (I 0 7) (I 0 8) (sPop (I 0 9)) (I 0 10) (I 17 3))) ∧ h1 = (hC pk G I F))) := by
  refine am_of (L := [some (.ref 0), some (.int w)]) (by decide +kernel) (Nat.le_of_ble_eq_true rfl) rfl ?_
  refine aw_iload_n dX8_many_0 rfl rfl ?_
  by_cases e_1_0 : w = 0
  · refine aw_tableC (off := 35) (tgt := 36) e_1_0 dX8_many_1 (by decide) (by decide) (by decide) (by decide) ?_
    refine aw_aload_n dX8_many_36 rfl rfl ?_
    refine aw_get fd_X8_84_8 dX8_many_37 (by omega) rfl rfl ?_
    refine aw_iret dX8_many_40 (Nat.zero_le _) (Nat.zero_le _) ?_
    refine ⟨rfl, ?_, rfl⟩
    simp [sel5, *]
  by_cases e_1_1 : w = 1
  · refine aw_tableC (off := 40) (tgt := 41) e_1_1 dX8_many_1 (by decide) (by decide) (by decide) (by decide) ?_
    refine aw_aload_n dX8_many_41 rfl rfl ?_
    refine aw_get fd_X8_126_8 dX8_many_42 (by omega) rfl rfl ?_
    refine aw_iret dX8_many_45 (Nat.zero_le _) (Nat.zero_le _) ?_
    refine ⟨rfl, ?_, rfl⟩
    simp [sel5, *]
  by_cases e_1_2 : w = 2
  · refine aw_tableC (off := 45) (tgt := 46) e_1_2 dX8_many_1 (by decide) (by decide) (by decide) (by decide) ?_
    refine aw_aload_n dX8_many_46 rfl rfl ?_
    refine aw_get fd_X8_109_8 dX8_many_47 (by omega) rfl rfl ?_
    refine aw_callS cw_J6_bitCount_0f7a4 ml_X8_150 sm_J6_bitCount_0f7a4 (c_J6_bitCount_0f7a4 _ _ _) ⟨Nat.le_of_ble_eq_true rfl, Nat.le_of_ble_eq_true rfl⟩ ⟨Nat.zero_le _, Nat.zero_le _⟩ rfl rfl (Nat.le_of_ble_eq_true rfl) dX8_many_50 ?_
    rintro _ _ ⟨rfl, rfl⟩
    refine aw_iret dX8_many_53 (Nat.zero_le _) (Nat.zero_le _) ?_
    refine ⟨rfl, ?_, rfl⟩
    simp [sel5, *]
  by_cases e_1_3 : w = 3
  · refine aw_tableC (off := 53) (tgt := 54) e_1_3 dX8_many_1 (by decide) (by decide) (by decide) (by decide) ?_
    refine aw_aload_n dX8_many_54 rfl rfl ?_
    refine aw_get fd_X8_158_8 dX8_many_55 (by omega) rfl rfl ?_
    refine aw_iret dX8_many_58 (Nat.zero_le _) (Nat.zero_le _) ?_
    refine ⟨rfl, ?_, rfl⟩
    simp [sel5, *]
  by_cases e_1_4 : w = 4
  · refine aw_tableC (off := 58) (tgt := 59) e_1_4 dX8_many_1 (by decide) (by decide) (by decide) (by decide) ?_
    refine aw_aload_n dX8_many_59 rfl rfl ?_
    refine aw_get fd_X8_44_8 dX8_many_60 (by omega) rfl rfl ?_
    refine aw_get fd_X8_202_5 dX8_many_63 (by omega) rfl rfl ?_
    refine aw_iret dX8_many_66 (Nat.zero_le _) (Nat.zero_le _) ?_
    refine ⟨rfl, ?_, rfl⟩
    simp [sel5, *]
  refine aw_tableOut (tgt := 67) dX8_many_1 (aw_out5 e_1_0 e_1_1 e_1_2 e_1_3 e_1_4) (by decide) ?_
  refine aw_bipush (v := (-2)) dX8_many_67 (by decide) ?_
  refine aw_iret dX8_many_69 (Nat.zero_le _) (Nat.zero_le _) ?_
  refine ⟨rfl, ?_, rfl⟩
  simp [sel5, *]
set_option maxRecDepth 100000 in
set_option maxHeartbeats 4000000 in
theorem c_X8_tell_no {l : Launch} {D : va_G} {tc : Nat → ClassId} (pk : Nat → Nat) (G : Nat → Option Nat) (I F : Nat → Nat → Int32) (n : Nat) (hn : 30 ≤ n) {c : Nat} (hI0 : I 0 7 = nI c) {x : Int32} (hx : sP c x = false) : AM l D tc yX8_tell cX8_tell 3 (some .int) 4 85 0 0 [.ref 0, .int x] n (hC pk G I F) (fun v n1 h1 => n1 = n ∧ (v = some (.int (-1)) ∧ h1 = hC pk G I F)) := by
  refine am_of (L := [some (.ref 0), some (.int x), none]) (by decide +kernel) (Nat.le_of_ble_eq_true rfl) rfl ?_
  refine aw_aload_n dX8_tell_0 rfl rfl ?_
  refine aw_iload_n dX8_tell_1 rfl rfl ?_
  refine aw_callV cw_X8_personAt ml_X8_87 im_X8_personAt sl_X8_X8_personAt rfl (by omega) rfl (c_X8_personAt_no pk G _ _ n hn hI0 hx) ⟨Nat.le_of_ble_eq_true rfl, Nat.le_of_ble_eq_true rfl⟩ ⟨Nat.zero_le _, Nat.zero_le _⟩ rfl rfl (Nat.le_of_ble_eq_true rfl) dX8_tell_2 ?_
  rintro _ _ ⟨rfl, rfl⟩
  refine aw_astore_nN dX8_tell_5 rfl (by decide) rfl ?_
  refine aw_aload_nN dX8_tell_6 rfl rfl ?_
  refine aw_ifnonnullN dX8_tell_7 ?_
  refine aw_iconst (v := (-1)) dX8_tell_10 (by decide) ?_
  refine aw_goto (tgt := 22) dX8_tell_11 (by decide) ?_
  refine aw_iret dX8_tell_22 (Nat.zero_le _) (Nat.zero_le _) ?_
  exact ⟨rfl, rfl, rfl⟩
set_option maxRecDepth 100000 in
set_option maxHeartbeats 4000000 in
theorem c_X8_hear_no {l : Launch} {D : va_G} {tc : Nat → ClassId} (pk : Nat → Nat) (G : Nat → Option Nat) (I F : Nat → Nat → Int32) (n : Nat) (hn : 30 ≤ n) {c : Nat} (hI0 : I 0 7 = nI c) {x : Int32} (hx : sP c x = false) : AM l D tc yX8_hear cX8_hear 3 (some .int) 2 42 0 0 [.ref 0, .int x] n (hC pk G I F) (fun v n1 h1 => n1 = n ∧ (v = some (.int (-1)) ∧ h1 = hC pk G I F)) := by
  refine am_of (L := [some (.ref 0), some (.int x), none]) (by decide +kernel) (Nat.le_of_ble_eq_true rfl) rfl ?_
  refine aw_aload_n dX8_hear_0 rfl rfl ?_
  refine aw_iload_n dX8_hear_1 rfl rfl ?_
  refine aw_callV cw_X8_personAt ml_X8_87 im_X8_personAt sl_X8_X8_personAt rfl (by omega) rfl (c_X8_personAt_no pk G _ _ n hn hI0 hx) ⟨Nat.le_of_ble_eq_true rfl, Nat.le_of_ble_eq_true rfl⟩ ⟨Nat.zero_le _, Nat.zero_le _⟩ rfl rfl (Nat.le_of_ble_eq_true rfl) dX8_hear_2 ?_
  rintro _ _ ⟨rfl, rfl⟩
  refine aw_astore_nN dX8_hear_5 rfl (by decide) rfl ?_
  refine aw_aload_nN dX8_hear_6 rfl rfl ?_
  refine aw_ifnonnullN dX8_hear_7 ?_
  refine aw_iconst (v := (-1)) dX8_hear_10 (by decide) ?_
  refine aw_goto (tgt := 22) dX8_hear_11 (by decide) ?_
  refine aw_iret dX8_hear_22 (Nat.zero_le _) (Nat.zero_le _) ?_
  exact ⟨rfl, rfl, rfl⟩
set_option maxRecDepth 100000 in
set_option maxHeartbeats 4000000 in
theorem c_X8_tell {l : Launch} {D : va_G} {tc : Nat → ClassId} (pk : Nat → Nat) (G : Nat → Option Nat) (I F : Nat → Nat → Int32) (n : Nat) (hn : 30 ≤ n) {c : Nat} {g : Nat → Nat} (hW : WP pk G n c g) (hI0 : I 0 7 = nI c) {p : Nat} (hp : p < c) : AM l D tc yX8_tell cX8_tell 3 (some .int) 4 85 0 0 [.ref 0, .int (nI p)] n (hC pk G I F) (fun v n1 h1 => n1 = n ∧ (v = some (.int (sTell (pk (g p)) (I (g p + 30) 1))) ∧ h1 = hC pk G (trTell (pk (g p)) I) F)) := by
  refine am_of (L := [some (.ref 0), some (.int (nI p)), none]) (by decide +kernel) (Nat.le_of_ble_eq_true rfl) rfl ?_
  refine aw_aload_n dX8_tell_0 rfl rfl ?_
  refine aw_iload_n dX8_tell_1 rfl rfl ?_
  refine aw_callV cw_X8_personAt ml_X8_87 im_X8_personAt sl_X8_X8_personAt rfl (by omega) rfl (c_X8_personAt pk G _ _ n hn hW hI0 hp rfl) ⟨Nat.le_of_ble_eq_true rfl, Nat.le_of_ble_eq_true rfl⟩ ⟨Nat.zero_le _, Nat.zero_le _⟩ rfl rfl (Nat.le_of_ble_eq_true rfl) dX8_tell_2 ?_
  rintro _ _ ⟨rfl, rfl⟩
  refine aw_astore_n dX8_tell_5 rfl (by decide) rfl ?_
  refine aw_aload_n dX8_tell_6 rfl rfl ?_
  refine aw_ifnonnull (tgt := 14) dX8_tell_7 (by decide) ?_
  refine aw_aload_n dX8_tell_14 rfl rfl ?_
  refine aw_aload_n dX8_tell_15 rfl rfl ?_
  refine aw_get fd_X8_51_8 dX8_tell_16 (by omega) rfl rfl ?_
  refine aw_tellP hn (hW.2 _ hp).2.2 (hW.2 _ hp).2.1 ⟨Nat.le_of_ble_eq_true rfl, Nat.le_of_ble_eq_true rfl⟩ ⟨Nat.zero_le _, Nat.zero_le _⟩ (Nat.le_of_ble_eq_true rfl) dX8_tell_19 ?_
  refine aw_iret dX8_tell_22 (Nat.zero_le _) (Nat.zero_le _) ?_
  exact ⟨rfl, rfl, rfl⟩
set_option maxRecDepth 100000 in
set_option maxHeartbeats 4000000 in
theorem c_X8_hear {l : Launch} {D : va_G} {tc : Nat → ClassId} (pk : Nat → Nat) (G : Nat → Option Nat) (I F : Nat → Nat → Int32) (n : Nat) (hn : 30 ≤ n) {c : Nat} {g : Nat → Nat} (hW : WP pk G n c g) (hI0 : I 0 7 = nI c) {p : Nat} (hp : p < c) : AM l D tc yX8_hear cX8_hear 3 (some .int) 2 42 0 0 [.ref 0, .int (nI p)] n (hC pk G I F) (fun v n1 h1 => n1 = n ∧ (v = some (.int (sHear (pk (g p)) (I (g p + 30) 0))) ∧ h1 = hC pk G (trHear (pk (g p)) I) F)) := by
  refine am_of (L := [some (.ref 0), some (.int (nI p)), none]) (by decide +kernel) (Nat.le_of_ble_eq_true rfl) rfl ?_
  refine aw_aload_n dX8_hear_0 rfl rfl ?_
  refine aw_iload_n dX8_hear_1 rfl rfl ?_
  refine aw_callV cw_X8_personAt ml_X8_87 im_X8_personAt sl_X8_X8_personAt rfl (by omega) rfl (c_X8_personAt pk G _ _ n hn hW hI0 hp rfl) ⟨Nat.le_of_ble_eq_true rfl, Nat.le_of_ble_eq_true rfl⟩ ⟨Nat.zero_le _, Nat.zero_le _⟩ rfl rfl (Nat.le_of_ble_eq_true rfl) dX8_hear_2 ?_
  rintro _ _ ⟨rfl, rfl⟩
  refine aw_astore_n dX8_hear_5 rfl (by decide) rfl ?_
  refine aw_aload_n dX8_hear_6 rfl rfl ?_
  refine aw_ifnonnull (tgt := 14) dX8_hear_7 (by decide) ?_
  refine aw_aload_n dX8_hear_14 rfl rfl ?_
  refine aw_aload_n dX8_hear_15 rfl rfl ?_
  refine aw_get fd_X8_51_8 dX8_hear_16 (by omega) rfl rfl ?_
  refine aw_hearP hn (hW.2 _ hp).2.2 (hW.2 _ hp).2.1 ⟨Nat.le_of_ble_eq_true rfl, Nat.le_of_ble_eq_true rfl⟩ ⟨Nat.zero_le _, Nat.zero_le _⟩ (Nat.le_of_ble_eq_true rfl) dX8_hear_19 ?_
  refine aw_iret dX8_hear_22 (Nat.zero_le _) (Nat.zero_le _) ?_
  exact ⟨rfl, rfl, rfl⟩
set_option maxRecDepth 100000 in
set_option maxHeartbeats 4000000 in
theorem c_X8_as_no {l : Launch} {D : va_G} {tc : Nat → ClassId} (pk : Nat → Nat) (G : Nat → Option Nat) (I F : Nat → Nat → Int32) (n : Nat) (hn : 30 ≤ n) {c : Nat} (hI0 : I 0 7 = nI c) {x : Int32} (hx : sP c x = false) (w : Int32) : AM l D tc yX8_as cX8_as 4 (some .int) 1 22 0 0 [.ref 0, .int x, .int w] n (hC pk G I F) (fun v n1 h1 => n1 = n ∧ (v = some (.int (-1)) ∧ h1 = hC pk G (st_I I 0 11 0) F)) := by
  refine am_of (L := [some (.ref 0), some (.int x), some (.int w), none]) (by decide +kernel) (Nat.le_of_ble_eq_true rfl) rfl ?_
  refine aw_aload_n dX8_as_0 rfl rfl ?_
  refine aw_iconst (v := 0) dX8_as_1 (by decide) ?_
  refine aw_puti fp_X8_56_8 dX8_as_2 (by omega) rfl rfl rfl (Nat.le_of_ble_eq_true rfl) rfl ?_
  refine aw_aload_n dX8_as_5 rfl rfl ?_
  refine aw_iload_n dX8_as_6 rfl rfl ?_
  refine aw_callV cw_X8_personAt ml_X8_87 im_X8_personAt sl_X8_X8_personAt rfl (by omega) rfl (c_X8_personAt_no pk G (st_I I 0 11 0) _ n hn (show st_I I 0 11 0 0 7 = nI c from hI0) hx) ⟨Nat.le_of_ble_eq_true rfl, Nat.le_of_ble_eq_true rfl⟩ ⟨Nat.zero_le _, Nat.zero_le _⟩ rfl rfl (Nat.le_of_ble_eq_true rfl) dX8_as_7 ?_
  rintro _ _ ⟨rfl, rfl⟩
  refine aw_astore_nN dX8_as_10 rfl (by decide) rfl ?_
  refine aw_aload_nN dX8_as_11 rfl rfl ?_
  refine aw_ifnonnullN dX8_as_12 ?_
  refine aw_iconst (v := (-1)) dX8_as_15 (by decide) ?_
  refine aw_iret dX8_as_16 (Nat.zero_le _) (Nat.zero_le _) ?_
  exact ⟨rfl, rfl, rfl⟩
theorem st_II (I : Nat → Nat → Int32) (a k : Nat) (u v : Int32) : st_I (st_I I a k u) a k v = st_I I a k v := by
  funext b j
  unfold st_I upd
  by_cases e : b = a
  · by_cases e2 : j = k <;> simp [e, e2]
  · simp [e]
set_option maxRecDepth 100000 in
set_option maxHeartbeats 4000000 in
theorem c_X8_as {l : Launch} {D : va_G} {tc : Nat → ClassId} (pk : Nat → Nat) (G : Nat → Option Nat) (I F : Nat → Nat → Int32) (n : Nat) (hn : 30 ≤ n) {c : Nat} {g : Nat → Nat} (hW : WP pk G n c g) (hI0 : I 0 7 = nI c) {p : Nat} (hp : p < c) (w : Int32) : AM l D tc yX8_as cX8_as 4 (some .int) 1 22 0 0 [.ref 0, .int (nI p), .int w] n (hC pk G I F) (fun v n1 h1 => n1 = n ∧ (v = some (.int (if sW w 0 2 then (if sOne (pk (g p)) w = 0 then -12 else 1) else -2)) ∧ h1 = hC pk G (if sW w 0 2 then (if sOne (pk (g p)) w = 0 then st_I I 0 11 2 else st_I I 0 11 0) else st_I I 0 11 0) F)) := by
  refine am_of (L := [some (.ref 0), some (.int (nI p)), some (.int w), none]) (by decide +kernel) (Nat.le_of_ble_eq_true rfl) rfl ?_
  refine aw_aload_n dX8_as_0 rfl rfl ?_
  refine aw_iconst (v := 0) dX8_as_1 (by decide) ?_
  refine aw_puti fp_X8_56_8 dX8_as_2 (by omega) rfl rfl rfl (Nat.le_of_ble_eq_true rfl) rfl ?_
  refine aw_aload_n dX8_as_5 rfl rfl ?_
  refine aw_iload_n dX8_as_6 rfl rfl ?_
  refine aw_callV cw_X8_personAt ml_X8_87 im_X8_personAt sl_X8_X8_personAt rfl (by omega) rfl (c_X8_personAt pk G (st_I I 0 11 0) _ n hn hW (show st_I I 0 11 0 0 7 = nI c from hI0) hp rfl) ⟨Nat.le_of_ble_eq_true rfl, Nat.le_of_ble_eq_true rfl⟩ ⟨Nat.zero_le _, Nat.zero_le _⟩ rfl rfl (Nat.le_of_ble_eq_true rfl) dX8_as_7 ?_
  rintro _ _ ⟨rfl, rfl⟩
  refine aw_astore_n dX8_as_10 rfl (by decide) rfl ?_
  refine aw_aload_n dX8_as_11 rfl rfl ?_
  refine aw_ifnonnull (tgt := 17) dX8_as_12 (by decide) ?_
  refine aw_iload_n dX8_as_17 rfl rfl ?_
  refine aw_iconst (v := 0) dX8_as_18 (by decide) ?_
  refine aw_iconst (v := 2) dX8_as_19 (by decide) ?_
  refine aw_callS cw_X8_isWithin ml_X8_122 sm_X8_isWithin (c_X8_isWithin _ _ _ _ _) ⟨Nat.le_of_ble_eq_true rfl, Nat.le_of_ble_eq_true rfl⟩ ⟨Nat.zero_le _, Nat.zero_le _⟩ rfl rfl (Nat.le_of_ble_eq_true rfl) dX8_as_20 ?_
  rintro _ _ ⟨rfl, rfl⟩
  refine aw_ifB_ne (tgt := 29) dX8_as_23 (by decide) (fun c_23 => ?_) (fun c_23 => ?_)
  · refine aw_aload_n dX8_as_29 rfl rfl ?_
    refine aw_iload_n dX8_as_30 rfl rfl ?_
    refine aw_callS cw_X8_isOneOf ml_X8_248 sm_X8_isOneOf (c_X8_isOneOf pk G _ _ n hn (hW.2 _ hp).2.2 (hW.2 _ hp).2.1 _) ⟨Nat.le_of_ble_eq_true rfl, Nat.le_of_ble_eq_true rfl⟩ ⟨Nat.zero_le _, Nat.zero_le _⟩ rfl rfl (Nat.le_of_ble_eq_true rfl) dX8_as_31 ?_
    rintro _ _ ⟨rfl, rfl⟩
    refine aw_if_eq (tgt := 41) dX8_as_34 (by decide) (fun c_34 => ?_) (fun c_34 => ?_)
    · refine aw_aload_n dX8_as_41 rfl rfl ?_
      refine aw_iconst (v := 2) dX8_as_42 (by decide) ?_
      refine aw_callV cw_X8_faulted ml_X8_72 im_X8_faulted sl_X8_X8_faulted rfl (by omega) rfl (c_X8_faulted pk G _ _ n hn _) ⟨Nat.le_of_ble_eq_true rfl, Nat.le_of_ble_eq_true rfl⟩ ⟨Nat.zero_le _, Nat.zero_le _⟩ rfl rfl (Nat.le_of_ble_eq_true rfl) dX8_as_43 ?_
      rintro _ _ ⟨rfl, rfl⟩
      refine aw_iret dX8_as_46 (Nat.zero_le _) (Nat.zero_le _) ?_
      refine ⟨rfl, ?_, ?_⟩
      · first | (simp [*]; done) | (simp_all; done)
      · first | (simp [st_II, *]; done) | (simp_all [st_II]; done)
    · refine aw_iconst (v := 1) dX8_as_37 (by decide) ?_
      refine aw_goto (tgt := 46) dX8_as_38 (by decide) ?_
      refine aw_iret dX8_as_46 (Nat.zero_le _) (Nat.zero_le _) ?_
      refine ⟨rfl, ?_, ?_⟩
      · first | (simp [*]; done) | (simp_all; done)
      · first | (simp [st_II, *]; done) | (simp_all [st_II]; done)
  · refine aw_bipush (v := (-2)) dX8_as_26 (by decide) ?_
    refine aw_iret dX8_as_28 (Nat.zero_le _) (Nat.zero_le _) ?_
    refine ⟨rfl, ?_, ?_⟩
    · first | (simp [*]; done) | (simp_all; done)
    · first | (simp [st_II, *]; done) | (simp_all [st_II]; done)
set_option maxRecDepth 100000 in
set_option maxHeartbeats 4000000 in
theorem c_X8_reading_no {l : Launch} {D : va_G} {tc : Nat → ClassId} (pk : Nat → Nat) (G : Nat → Option Nat) (I F : Nat → Nat → Int32) (n : Nat) (hn : 30 ≤ n) {c : Nat} (hI0 : I 0 7 = nI c) {x : Int32} (hx : sP c x = false) (y : Int32) (w : Int32) : AM l D tc yX8_reading cX8_reading 4 (some .int) 2 45 0 0 [.ref 0, .int x, .int y, .int w] n (hC pk G I F) (fun v n1 h1 => n1 = n ∧ (v = some (.int (-1)) ∧ h1 = hC pk G I F)) := by
  refine am_of (L := [some (.ref 0), some (.int x), some (.int y), some (.int w)]) (by decide +kernel) (Nat.le_of_ble_eq_true rfl) rfl ?_
  refine aw_aload_n dX8_reading_0 rfl rfl ?_
  refine aw_iload_n dX8_reading_1 rfl rfl ?_
  refine aw_callV cw_X8_personAt ml_X8_87 im_X8_personAt sl_X8_X8_personAt rfl (by omega) rfl (c_X8_personAt_no pk G _ _ n hn hI0 hx) ⟨Nat.le_of_ble_eq_true rfl, Nat.le_of_ble_eq_true rfl⟩ ⟨Nat.zero_le _, Nat.zero_le _⟩ rfl rfl (Nat.le_of_ble_eq_true rfl) dX8_reading_2 ?_
  rintro _ _ ⟨rfl, rfl⟩
  refine aw_ifnonnullN dX8_reading_5 ?_
  refine aw_iconst (v := (-1)) dX8_reading_8 (by decide) ?_
  refine aw_iret dX8_reading_9 (Nat.zero_le _) (Nat.zero_le _) ?_
  exact ⟨rfl, rfl, rfl⟩
theorem on_b2i {w : Int32} (h : sW w 0 1 = true) : b2i (decide (w = 1)) = w := by
  obtain ⟨a, ha, rfl⟩ := sW_ex (m := 1) (by decide) h
  match a, ha with
  | 0, _ => decide
  | 1, _ => decide
set_option maxRecDepth 100000 in
set_option maxHeartbeats 4000000 in
theorem c_X8_reading {l : Launch} {D : va_G} {tc : Nat → ClassId} (pk : Nat → Nat) (G : Nat → Option Nat) (I F : Nat → Nat → Int32) (n : Nat) (hn : 30 ≤ n) {c : Nat} {g : Nat → Nat} (hW : WP pk G n c g) (hI0 : I 0 7 = nI c) {p : Nat} (hp : p < c) {r : Nat} (hr : r ≤ 8) (hI1 : I 17 3 = nI r) (y w : Int32) : AM l D tc yX8_reading cX8_reading 4 (some .int) 2 45 0 0 [.ref 0, .int (nI p), .int y, .int w] n (hC pk G I F) (fun v n1 h1 => n1 = n ∧ (v = some (.int (if sW y 0 18 && sW w 0 1 then (if r < 8 then nI r else -4) else -2)) ∧ h1 = hC pk G (if sW y 0 18 && sW w 0 1 then (if r < 8 then st_I I 17 3 (nI (r + 1)) else I) else I) (if sW y 0 18 && sW w 0 1 then (if r < 8 then rdF F r (nI p) y w else F) else F))) := by
  refine am_of (L := [some (.ref 0), some (.int (nI p)), some (.int y), some (.int w)]) (by decide +kernel) (Nat.le_of_ble_eq_true rfl) rfl ?_
  refine aw_aload_n dX8_reading_0 rfl rfl ?_
  refine aw_iload_n dX8_reading_1 rfl rfl ?_
  refine aw_callV cw_X8_personAt ml_X8_87 im_X8_personAt sl_X8_X8_personAt rfl (by omega) rfl (c_X8_personAt pk G _ _ n hn hW hI0 hp rfl) ⟨Nat.le_of_ble_eq_true rfl, Nat.le_of_ble_eq_true rfl⟩ ⟨Nat.zero_le _, Nat.zero_le _⟩ rfl rfl (Nat.le_of_ble_eq_true rfl) dX8_reading_2 ?_
  rintro _ _ ⟨rfl, rfl⟩
  refine aw_ifnonnull (tgt := 10) dX8_reading_5 (by decide) ?_
  refine aw_iload_n dX8_reading_10 rfl rfl ?_
  refine aw_iconst (v := 0) dX8_reading_11 (by decide) ?_
  refine aw_bipush (v := (18)) dX8_reading_12 (by decide) ?_
  refine aw_callS cw_X8_isWithin ml_X8_122 sm_X8_isWithin (c_X8_isWithin _ _ _ _ _) ⟨Nat.le_of_ble_eq_true rfl, Nat.le_of_ble_eq_true rfl⟩ ⟨Nat.zero_le _, Nat.zero_le _⟩ rfl rfl (Nat.le_of_ble_eq_true rfl) dX8_reading_14 ?_
  rintro _ _ ⟨rfl, rfl⟩
  refine aw_ifB_eq (tgt := 29) dX8_reading_17 (by decide) (fun c_17 => ?_) (fun c_17 => ?_)
  · refine aw_bipush (v := (-2)) dX8_reading_29 (by decide) ?_
    refine aw_iret dX8_reading_31 (Nat.zero_le _) (Nat.zero_le _) ?_
    refine ⟨rfl, ?_, ?_⟩ <;> first | (simp [*]; done) | (simp_all; done)
  · refine aw_iload_n dX8_reading_20 rfl rfl ?_
    refine aw_iconst (v := 0) dX8_reading_21 (by decide) ?_
    refine aw_iconst (v := 1) dX8_reading_22 (by decide) ?_
    refine aw_callS cw_X8_isWithin ml_X8_122 sm_X8_isWithin (c_X8_isWithin _ _ _ _ _) ⟨Nat.le_of_ble_eq_true rfl, Nat.le_of_ble_eq_true rfl⟩ ⟨Nat.zero_le _, Nat.zero_le _⟩ rfl rfl (Nat.le_of_ble_eq_true rfl) dX8_reading_23 ?_
    rintro _ _ ⟨rfl, rfl⟩
    refine aw_ifB_ne (tgt := 32) dX8_reading_26 (by decide) (fun c_26 => ?_) (fun c_26 => ?_)
    · refine aw_aload_n dX8_reading_32 rfl rfl ?_
      refine aw_get fd_X8_44_8 dX8_reading_33 (by omega) rfl rfl ?_
      refine aw_get fd_X8_202_5 dX8_reading_36 (by omega) rfl rfl ?_
      refine aw_bipush (v := (8)) dX8_reading_39 (by decide) ?_
      refine aw_icmp_lt (tgt := 47) dX8_reading_41 (by decide) (fun c_41 => ?_) (fun c_41 => ?_)
      · have hr8 : r < 8 := by
          rcases Nat.lt_or_ge r 8 with q | q
          · exact q
          · exact absurd (by rw [hI1] at c_41; exact c_41) (nI_nlt (b := 8) q (by omega))
        refine aw_aload_n dX8_reading_47 rfl rfl ?_
        refine aw_get fd_X8_44_8 dX8_reading_48 (by omega) rfl rfl ?_
        refine aw_iload_n dX8_reading_51 rfl rfl ?_
        refine aw_iload_n dX8_reading_52 rfl rfl ?_
        refine aw_iload_n dX8_reading_53 rfl rfl ?_
        refine aw_iconst (v := 1) dX8_reading_54 (by decide) ?_
        refine aw_icmp_ne (tgt := 62) dX8_reading_55 (by decide) (fun c_55 => ?_) (fun c_55 => ?_)
        · refine aw_iconst (v := 0) dX8_reading_62 (by decide) ?_
          refine aw_callV (rest := []) (av := [.int (nI p), .int y, .int (b2i (decide (w = 1)))]) cw_X5_add ml_X8_203 im_X5_add sl_X5_X5_add rfl (by omega) rfl (c_X5_add pk G _ _ n hn (c := r) (by omega) hI1 _ _ (decide (w = 1))) ⟨Nat.le_of_ble_eq_true rfl, Nat.le_of_ble_eq_true rfl⟩ ⟨Nat.zero_le _, Nat.zero_le _⟩ rfl (by simp [b2i, *]) (Nat.le_of_ble_eq_true rfl) dX8_reading_63 ?_
          rintro _ _ ⟨rfl, rfl⟩
          refine aw_iret dX8_reading_66 (Nat.zero_le _) (Nat.zero_le _) ?_
          rw [on_b2i c_26]
          refine ⟨rfl, ?_, ?_⟩ <;> first | (simp [*]; done) | (simp_all; done)
        · refine aw_iconst (v := 1) dX8_reading_58 (by decide) ?_
          refine aw_goto (tgt := 63) dX8_reading_59 (by decide) ?_
          refine aw_callV (rest := []) (av := [.int (nI p), .int y, .int (b2i (decide (w = 1)))]) cw_X5_add ml_X8_203 im_X5_add sl_X5_X5_add rfl (by omega) rfl (c_X5_add pk G _ _ n hn (c := r) (by omega) hI1 _ _ (decide (w = 1))) ⟨Nat.le_of_ble_eq_true rfl, Nat.le_of_ble_eq_true rfl⟩ ⟨Nat.zero_le _, Nat.zero_le _⟩ rfl (by simp [b2i, *]) (Nat.le_of_ble_eq_true rfl) dX8_reading_63 ?_
          rintro _ _ ⟨rfl, rfl⟩
          refine aw_iret dX8_reading_66 (Nat.zero_le _) (Nat.zero_le _) ?_
          rw [on_b2i c_26]
          refine ⟨rfl, ?_, ?_⟩ <;> first | (simp [*]; done) | (simp_all; done)
      · refine aw_bipush (v := (-4)) dX8_reading_44 (by decide) ?_
        refine aw_iret dX8_reading_46 (Nat.zero_le _) (Nat.zero_le _) ?_
        have hr8 : ¬ r < 8 := fun q => c_41 (by rw [hI1]; exact nI_lt q (by decide))
        refine ⟨rfl, ?_, ?_⟩ <;> first | (simp [*]; done) | (simp_all; done)
    · refine aw_bipush (v := (-2)) dX8_reading_29 (by decide) ?_
      refine aw_iret dX8_reading_31 (Nat.zero_le _) (Nat.zero_le _) ?_
      refine ⟨rfl, ?_, ?_⟩ <;> first | (simp [*]; done) | (simp_all; done)
end
section
/-! the public methods that call the lift or the readings -/
theorem SC.stI {I F I1 F1 : Nat → Nat → Int32} (h : SC I F I1 F1) {a k : Nat} {v : Int32} (ha : a ≠ 4) : SC (st_I I a k v) F (st_I I1 a k v) F1 := by
  refine ⟨fun b hb => ?_, h.2⟩
  unfold st_I
  by_cases e : b = a
  · subst e
    rw [if_pos rfl, if_pos rfl, h.1 b ha]
  · rw [if_neg e, if_neg e, h.1 b hb]
theorem SC.ad {I F I1 F1 : Nat → Nat → Int32} (h : SC I F I1 F1) {p q s : Int32} : SC I (adF F p q s) I1 (adF F1 p q s) := by
  refine ⟨h.1, fun b h1 h2 h3 h4 h5 => ?_⟩
  unfold adF
  by_cases hN : sNum p q = true
  · obtain ⟨x, y, hx, hy, rfl, rfl⟩ := sNum_ex hN
    rw [if_pos hN, if_pos hN, nI_clamp (n := x) (by omega), h.2 (9 + x) (by omega) (by omega) (by omega) (by omega) (by omega)]
    unfold st_F
    by_cases e : b = 9 + x
    · rw [if_pos e, if_pos e]
    · rw [if_neg e, if_neg e, h.2 b h1 h2 h3 h4 h5]
  · rw [if_neg hN, if_neg hN, h.2 b h1 h2 h3 h4 h5]
theorem sDown_mn (F : Nat → Nat → Int32) (my : Nat → Int32) (x : Int32) : sDown (mnF F my 3) x = sDown my x := sDown_c (pf6 _ _)
theorem sCall_mn (F : Nat → Nat → Int32) (my : Nat → Int32) (x : Int32) : sCall (mnF F my 3) x = sCall my x := sCall_c (pf6 _ _)
theorem gtM_mn (F : Nat → Nat → Int32) (my : Nat → Int32) (x : Int32) : gtM (mnF F my 3) x = gtM my x := gtM_c (pf6 _ _)
theorem dnN_mn (F : Nat → Nat → Int32) (my : Nat → Int32) (x : Int32) : dnN (mnF F my 3) x = dnN my x := dnN_c (pf6 _ _)
theorem frN_mn (F : Nat → Nat → Int32) (my : Nat → Int32) (x : Int32) : frN (mnF F my 3) x = frN my x := frN_c (pf6 _ _)
theorem gt5 (F : Nat → Nat → Int32) (x : Int32) {k M : Nat} (h : k < M) : gtF F x M 5 k = dnN (F 3) x k := if_pos h
theorem gt6 (F : Nat → Nat → Int32) (x : Int32) {k M : Nat} (h : k < M) : gtF F x M 6 k = frN (F 3) x k := if_pos h
theorem lt_nI {x : Int32} {m M : Nat} (hM : M < 2 ^ 31) (h : sW x 0 (nI m) = true) (hm : m < 2 ^ 30) (h2 : x < nI M) : ∃ a : Nat, a ≤ m ∧ a < M ∧ x = nI a := by
  obtain ⟨a, ha, rfl⟩ := sW_ex hm h
  exact ⟨a, ha, (nI_ltI (by omega) hM).mp h2, rfl⟩
def sHx (g : Nat → Nat) (I : Nat → Nat → Int32) (c : Nat) (x : Int32) : Int32 := if sP c x then I (g x.toNatClampNeg + 30) 1 else 0
def inN (th : Int32) (hs : Nat → Int32) (p : Nat) : Nat → Int32
  | 0 => 0
  | q + 1 => inN th hs p q + (if sHas th (nI p) && sHas th (nI q) then (if hs q < hs p then hs q else hs p) else 0)
def ouN (th : Int32) (hs : Nat → Int32) : Nat → Int32
  | 0 => 0
  | p + 1 => ouN th hs p + inN th hs p p
def ltN (pl : Nat → Int32) (k : Int32) : Nat → Nat → Int32
  | _, 0 => -9
  | v, m + 1 => if pl v ≤ k then nI v else ltN pl k (v + 1) m
def bsN (t : Nat → Bool) : Nat → Int32
  | 0 => 0
  | v + 1 => bsN t v ||| (if t v then sBit (nI v) else 0)
def wrN (my : Nat → Int32) (p v all : Int32) : Nat → Int32 × Int32 × Int32
  | 0 => (0, -9, all)
  | s + 1 => if sDown my (nI (s + 1)) = p ∧ (sCall my (nI (s + 1))).1 = v then ((wrN my p v all s).1 + 1, if (wrN my p v all s).2.1 = -9 then nI (s + 1) else (wrN my p v all s).2.1, (wrN my p v all s).2.2 &&& nI (s + 1)) else wrN my p v all s
def udN (my : Nat → Int32) (p : Int32) : Nat → Int32
  | 0 => 0
  | s + 1 => udN my p s + (if sDown my (nI (s + 1)) = p then 1 else 0)
def hvN : Nat → Int32 → Int32 → Int32 × Int32
  | 0, u, d => (u, d)
  | m + 1, u, d => if u - u / 2 * 2 = 0 then hvN m (u / 2) (d / 2) else (u, d)
theorem ev_nI : ∀ c, c ≤ 6 → sBit (nI c) - 1 = nI (2 ^ c - 1) := by decide +kernel
theorem upd_c {f g : Nat → Int32} {p : Nat} {x : Int32} (h : ∀ j, j < 6 → j ≠ p → f j = g j) : ∀ j, j < 6 → upd f p x j = upd g p x j := by
  intro j hj
  unfold upd
  by_cases e : j = p
  · simp [e]
  · simp [e, h j hj e]

set_option maxRecDepth 100000 in
set_option maxHeartbeats 4000000 in
theorem c_X8_go0 {l : Launch} {D : va_G} {tc : Nat → ClassId} (pk : Nat → Nat) (G : Nat → Option Nat) (I F : Nat → Nat → Int32) (n : Nat) (hn : 30 ≤ n) (h0 : I 0 9 = 0) : AM l D tc yX8_go cX8_go 2 (some .int) 4 89 0 0 [.ref 0] n (hC pk G I F) (fun v n1 h1 => n1 = n ∧ (v = some (.int (-3)) ∧ h1 = (hC pk G I F))) := by
  refine am_of (L := [some (.ref 0), none]) (by decide +kernel) (Nat.le_of_ble_eq_true rfl) rfl ?_
  refine aw_aload_n dX8_go_0 rfl rfl ?_
  refine aw_get fd_X8_109_8 dX8_go_1 (by omega) rfl rfl ?_
  refine aw_if_ne (tgt := 10) dX8_go_4 (by decide) (fun c_4 => ?_) (fun c_4 => ?_)
  · exact absurd h0 c_4
  · refine aw_bipush (v := (-3)) dX8_go_7 (by decide) ?_
    refine aw_iret dX8_go_9 (Nat.zero_le _) (Nat.zero_le _) ?_
    exact ⟨rfl, rfl, rfl⟩
set_option maxRecDepth 100000 in
set_option maxHeartbeats 4000000 in
theorem c_X8_go {l : Launch} {D : va_G} {tc : Nat → ClassId} (pk : Nat → Nat) (G : Nat → Option Nat) (I F : Nat → Nat → Int32) (n : Nat) (hn : 30 ≤ n) {c : Nat} {g : Nat → Nat} (hW : WP pk G n c g) (hI0 : I 0 7 = nI c) (h0 : ¬ I 0 9 = 0) : AM l D tc yX8_go cX8_go 2 (some .int) 4 89 0 0 [.ref 0] n (hC pk G I F) (fun v n1 h1 => n1 = n ∧ (∃ I1 F1, SC (st_I I 0 9 (sClr (I 0 9) (sDown (myC pk g I c) (I 0 9)))) (adF F (sDown (myC pk g I c) (I 0 9)) (sCall (myC pk g I c) (I 0 9)).2.2.1 (sCall (myC pk g I c) (I 0 9)).1) I1 F1 ∧ h1 = hC pk G I1 F1 ∧ v = some (.int (sDown (myC pk g I c) (I 0 9))))) := by
  refine am_of (L := [some (.ref 0), none]) (by decide +kernel) (Nat.le_of_ble_eq_true rfl) rfl ?_
  refine aw_aload_n dX8_go_0 rfl rfl ?_
  refine aw_get fd_X8_109_8 dX8_go_1 (by omega) rfl rfl ?_
  refine aw_if_ne (tgt := 10) dX8_go_4 (by decide) (fun c_4 => ?_) (fun c_4 => ?_)
  · refine aw_aload_n dX8_go_10 rfl rfl ?_
    refine aw_get fd_X8_30_8 dX8_go_11 (by omega) rfl rfl ?_
    refine aw_aload_n dX8_go_14 rfl rfl ?_
    refine aw_callV cw_X8_maysNow ml_X8_129 im_X8_maysNow sl_X8_X8_maysNow rfl (by omega) rfl (c_X8_maysNow pk G _ _ n hn hW hI0) ⟨Nat.le_of_ble_eq_true rfl, Nat.le_of_ble_eq_true rfl⟩ ⟨Nat.zero_le _, Nat.zero_le _⟩ rfl rfl (Nat.le_of_ble_eq_true rfl) dX8_go_15 ?_
    rintro _ _ ⟨rfl, rfl⟩
    refine aw_aload_n dX8_go_18 rfl rfl ?_
    refine aw_get fd_X8_109_8 dX8_go_19 (by omega) rfl rfl ?_
    refine aw_callV cw_X2_letDown ml_X8_133 im_X2_letDown sl_X2_X2_letDown rfl (by omega) rfl (c_X2_letDown pk G _ _ n hn _) ⟨Nat.le_of_ble_eq_true rfl, Nat.le_of_ble_eq_true rfl⟩ ⟨Nat.zero_le _, Nat.zero_le _⟩ rfl rfl (Nat.le_of_ble_eq_true rfl) dX8_go_22 ?_
    rintro _ _ ⟨rfl, rfl⟩
    rw [sDown_mn, sCall_mn]
    generalize sDown (myC pk g I c) (I 0 9) = dn
    generalize sCall (myC pk g I c) (I 0 9) = qc
    refine aw_istore_n dX8_go_25 rfl (by decide) rfl ?_
    refine aw_aload_n dX8_go_26 rfl rfl ?_
    refine aw_dup dX8_go_27 rfl ?_
    refine aw_get fd_X8_109_8 dX8_go_28 (by omega) rfl rfl ?_
    refine aw_iload_n dX8_go_31 rfl rfl ?_
    refine aw_callS cw_X8_bit ml_X8_137 sm_X8_bit (c_X8_bit _ _ _) ⟨Nat.le_of_ble_eq_true rfl, Nat.le_of_ble_eq_true rfl⟩ ⟨Nat.zero_le _, Nat.zero_le _⟩ rfl rfl (Nat.le_of_ble_eq_true rfl) dX8_go_32 ?_
    rintro _ _ ⟨rfl, rfl⟩
    refine aw_iconst (v := (-1)) dX8_go_35 (by decide) ?_
    refine aw_ixor dX8_go_36 ?_
    refine aw_iand dX8_go_37 ?_
    refine aw_puti fp_X8_109_8 dX8_go_38 (by omega) rfl rfl rfl (Nat.le_of_ble_eq_true rfl) rfl ?_
    refine aw_aload_n dX8_go_41 rfl rfl ?_
    refine aw_get fd_X8_37_8 dX8_go_42 (by omega) rfl rfl ?_
    refine aw_iload_n dX8_go_45 rfl rfl ?_
    refine aw_aload_n dX8_go_46 rfl rfl ?_
    refine aw_get fd_X8_30_8 dX8_go_47 (by omega) rfl rfl ?_
    refine aw_get fd_X8_140_2 dX8_go_50 (by omega) rfl rfl ?_
    refine aw_aload_n dX8_go_53 rfl rfl ?_
    refine aw_get fd_X8_30_8 dX8_go_54 (by omega) rfl rfl ?_
    refine aw_get fd_X8_143_2 dX8_go_57 (by omega) rfl rfl ?_
    refine aw_callV cw_X0_add ml_X8_146 im_X0_add sl_X0_X0_add rfl (by omega) rfl (c_X0_add pk G _ _ n hn _ _ _) ⟨Nat.le_of_ble_eq_true rfl, Nat.le_of_ble_eq_true rfl⟩ ⟨Nat.zero_le _, Nat.zero_le _⟩ rfl rfl (Nat.le_of_ble_eq_true rfl) dX8_go_60 ?_
    rintro _ _ ⟨rfl, rfl⟩
    refine aw_iload_n dX8_go_63 rfl rfl ?_
    refine aw_iret dX8_go_64 (Nat.zero_le _) (Nat.zero_le _) ?_
    exact ⟨rfl, _, _, (((SC.mn I F _).tr (SC.l3 _ _ _ _ _)).stI (by decide)).ad, rfl, rfl⟩
  · exact absurd c_4 h0
set_option maxRecDepth 100000 in
set_option maxHeartbeats 4000000 in
theorem c_X8_order {l : Launch} {D : va_G} {tc : Nat → ClassId} (pk : Nat → Nat) (G : Nat → Option Nat) (I F : Nat → Nat → Int32) (n : Nat) (hn : 30 ≤ n) {c : Nat} {g : Nat → Nat} (hW : WP pk G n c g) (hI0 : I 0 7 = nI c) (x w : Int32) : AM l D tc yX8_order cX8_order 4 (some .int) 5 115 0 0 [.ref 0, .int x, .int w] n (hC pk G I F) (fun v n1 h1 => n1 = n ∧ (∃ I1 F1, SC I F I1 F1 ∧ h1 = hC pk G I1 F1 ∧ v = some (.int (if sW x 0 5 && sW w 0 1 then (if I 0 7 = 0 then -3 else if x < nI (gtM (myC pk g I c) (I 0 9)) then (if w = 0 then dnN (myC pk g I c) (I 0 9) x.toNatClampNeg else frN (myC pk g I c) (I 0 9) x.toNatClampNeg) else -9) else -2)))) := by
  refine am_of (L := [some (.ref 0), some (.int x), some (.int w), none]) (by decide +kernel) (Nat.le_of_ble_eq_true rfl) rfl ?_
  refine aw_iload_n dX8_order_0 rfl rfl ?_
  refine aw_iconst (v := 0) dX8_order_1 (by decide) ?_
  refine aw_iconst (v := 5) dX8_order_2 (by decide) ?_
  refine aw_callS cw_X8_isWithin ml_X8_122 sm_X8_isWithin (c_X8_isWithin _ _ _ _ _) ⟨Nat.le_of_ble_eq_true rfl, Nat.le_of_ble_eq_true rfl⟩ ⟨Nat.zero_le _, Nat.zero_le _⟩ rfl rfl (Nat.le_of_ble_eq_true rfl) dX8_order_3 ?_
  rintro _ _ ⟨rfl, rfl⟩
  refine aw_ifB_eq (tgt := 18) dX8_order_6 (by decide) (fun c_6 => ?_) (fun c_6 => ?_)
  · refine aw_bipush (v := (-2)) dX8_order_18 (by decide) ?_
    refine aw_iret dX8_order_20 (Nat.zero_le _) (Nat.zero_le _) ?_
    refine ⟨rfl, _, _, SC.rf _ _, rfl, ?_⟩
    first | (simp [*]; done) | (simp_all; done)
  · refine aw_iload_n dX8_order_9 rfl rfl ?_
    refine aw_iconst (v := 0) dX8_order_10 (by decide) ?_
    refine aw_iconst (v := 1) dX8_order_11 (by decide) ?_
    refine aw_callS cw_X8_isWithin ml_X8_122 sm_X8_isWithin (c_X8_isWithin _ _ _ _ _) ⟨Nat.le_of_ble_eq_true rfl, Nat.le_of_ble_eq_true rfl⟩ ⟨Nat.zero_le _, Nat.zero_le _⟩ rfl rfl (Nat.le_of_ble_eq_true rfl) dX8_order_12 ?_
    rintro _ _ ⟨rfl, rfl⟩
    refine aw_ifB_ne (tgt := 21) dX8_order_15 (by decide) (fun c_15 => ?_) (fun c_15 => ?_)
    · refine aw_aload_n dX8_order_21 rfl rfl ?_
      refine aw_get fd_X8_84_8 dX8_order_22 (by omega) rfl rfl ?_
      refine aw_if_ne (tgt := 31) dX8_order_25 (by decide) (fun c_25 => ?_) (fun c_25 => ?_)
      · refine aw_aload_n dX8_order_31 rfl rfl ?_
        refine aw_get fd_X8_30_8 dX8_order_32 (by omega) rfl rfl ?_
        refine aw_aload_n dX8_order_35 rfl rfl ?_
        refine aw_callV cw_X8_maysNow ml_X8_129 im_X8_maysNow sl_X8_X8_maysNow rfl (by omega) rfl (c_X8_maysNow pk G _ _ n hn hW hI0) ⟨Nat.le_of_ble_eq_true rfl, Nat.le_of_ble_eq_true rfl⟩ ⟨Nat.zero_le _, Nat.zero_le _⟩ rfl rfl (Nat.le_of_ble_eq_true rfl) dX8_order_36 ?_
        rintro _ _ ⟨rfl, rfl⟩
        refine aw_aload_n dX8_order_39 rfl rfl ?_
        refine aw_get fd_X8_109_8 dX8_order_40 (by omega) rfl rfl ?_
        refine aw_callV cw_X2_goThroughAll ml_X8_174 im_X2_goThroughAll sl_X2_X2_goThroughAll rfl (by omega) rfl (c_X2_goThroughAll pk G _ _ n hn _) ⟨Nat.le_of_ble_eq_true rfl, Nat.le_of_ble_eq_true rfl⟩ ⟨Nat.zero_le _, Nat.zero_le _⟩ rfl rfl (Nat.le_of_ble_eq_true rfl) dX8_order_43 ?_
        rintro _ _ ⟨rfl, f9, h9, s9, rfl⟩
        refine aw_istore_n dX8_order_46 rfl (by decide) rfl ?_
        refine aw_iload_n dX8_order_47 rfl rfl ?_
        refine aw_iload_n dX8_order_48 rfl rfl ?_
        refine aw_icmp_lt (tgt := 55) dX8_order_49 (by decide) (fun c_49 => ?_) (fun c_49 => ?_)
        · refine aw_iload_n dX8_order_55 rfl rfl ?_
          refine aw_if_ne (tgt := 71) dX8_order_56 (by decide) (fun c_56 => ?_) (fun c_56 => ?_)
          · obtain ⟨j, hj, hjM, rfl⟩ := lt_nI (by have := gtM_le (mnF F (myC pk g I c) 3) (I 0 9); omega) (m := 5) c_6 (by decide) c_49
            refine aw_aload_n dX8_order_71 rfl rfl ?_
            refine aw_get fd_X8_30_8 dX8_order_72 (by omega) rfl rfl ?_
            refine aw_get fd_X8_180_2 dX8_order_75 (by omega) rfl rfl ?_
            refine aw_iload_n dX8_order_78 rfl rfl ?_
            refine aw_iald dX8_order_79 (by omega) rfl (vp_in_nI (n := j) (by omega) (by decide)) ?_
            refine aw_iret dX8_order_80 (Nat.zero_le _) (Nat.zero_le _) ?_
            have hM : nI j < nI (gtM (myC pk g I c) (I 0 9)) := by rw [← gtM_mn F]; exact c_49
            refine ⟨rfl, _, _, ((SC.mn I F _).tr (SC.gt _ _ _ _)).tr (SC.l3 _ _ _ _ _), rfl, ?_⟩
            rw [if_pos (by rw [c_6, c_15]; rfl), if_neg c_25, if_pos hM]
            first | (rw [if_pos c_56, gt5 _ _ (by rw [nI_clamp (show j < 2 ^ 31 by omega)]; exact hjM), dnN_mn]) | (rw [if_neg c_56, gt6 _ _ (by rw [nI_clamp (show j < 2 ^ 31 by omega)]; exact hjM), frN_mn])
          · obtain ⟨j, hj, hjM, rfl⟩ := lt_nI (by have := gtM_le (mnF F (myC pk g I c) 3) (I 0 9); omega) (m := 5) c_6 (by decide) c_49
            refine aw_aload_n dX8_order_59 rfl rfl ?_
            refine aw_get fd_X8_30_8 dX8_order_60 (by omega) rfl rfl ?_
            refine aw_get fd_X8_177_2 dX8_order_63 (by omega) rfl rfl ?_
            refine aw_iload_n dX8_order_66 rfl rfl ?_
            refine aw_iald dX8_order_67 (by omega) rfl (vp_in_nI (n := j) (by omega) (by decide)) ?_
            refine aw_goto (tgt := 80) dX8_order_68 (by decide) ?_
            refine aw_iret dX8_order_80 (Nat.zero_le _) (Nat.zero_le _) ?_
            have hM : nI j < nI (gtM (myC pk g I c) (I 0 9)) := by rw [← gtM_mn F]; exact c_49
            refine ⟨rfl, _, _, ((SC.mn I F _).tr (SC.gt _ _ _ _)).tr (SC.l3 _ _ _ _ _), rfl, ?_⟩
            rw [if_pos (by rw [c_6, c_15]; rfl), if_neg c_25, if_pos hM]
            first | (rw [if_pos c_56, gt5 _ _ (by rw [nI_clamp (show j < 2 ^ 31 by omega)]; exact hjM), dnN_mn]) | (rw [if_neg c_56, gt6 _ _ (by rw [nI_clamp (show j < 2 ^ 31 by omega)]; exact hjM), frN_mn])
        · refine aw_bipush (v := (-9)) dX8_order_52 (by decide) ?_
          refine aw_iret dX8_order_54 (Nat.zero_le _) (Nat.zero_le _) ?_
          have hM : ¬ x < nI (gtM (myC pk g I c) (I 0 9)) := by rw [← gtM_mn F]; exact c_49
          refine ⟨rfl, _, _, ((SC.mn I F _).tr (SC.gt _ _ _ _)).tr (SC.l3 _ _ _ _ _), rfl, ?_⟩
          rw [if_pos (by rw [c_6, c_15]; rfl), if_neg c_25, if_neg hM]
      · refine aw_bipush (v := (-3)) dX8_order_28 (by decide) ?_
        refine aw_iret dX8_order_30 (Nat.zero_le _) (Nat.zero_le _) ?_
        refine ⟨rfl, _, _, SC.rf _ _, rfl, ?_⟩
        first | (simp [*]; done) | (simp_all; done)
    · refine aw_bipush (v := (-2)) dX8_order_18 (by decide) ?_
      refine aw_iret dX8_order_20 (Nat.zero_le _) (Nat.zero_le _) ?_
      refine ⟨rfl, _, _, SC.rf _ _, rfl, ?_⟩
      first | (simp [*]; done) | (simp_all; done)
set_option maxRecDepth 100000 in
set_option maxHeartbeats 4000000 in
theorem c_X8_hasteOfX {l : Launch} {D : va_G} {tc : Nat → ClassId} (pk : Nat → Nat) (G : Nat → Option Nat) (I F : Nat → Nat → Int32) (n : Nat) (hn : 30 ≤ n) {c : Nat} {g : Nat → Nat} (hW : WP pk G n c g) (hI0 : I 0 7 = nI c) (x : Int32) : AM l D tc yX8_hasteOf cX8_hasteOf 3 (some .int) 1 21 0 0 [.ref 0, .int x] n (hC pk G I F) (fun v n1 h1 => n1 = n ∧ (v = some (.int (sHx g I c x)) ∧ h1 = (hC pk G I F))) := by
  refine am_of (L := [some (.ref 0), some (.int x), none]) (by decide +kernel) (Nat.le_of_ble_eq_true rfl) rfl ?_
  refine aw_aload_n dX8_hasteOf_0 rfl rfl ?_
  refine aw_iload_n dX8_hasteOf_1 rfl rfl ?_
  rcases perC hW.1 (x) with hx_2 | ⟨p_2, hp_2, ex_2⟩
  · refine aw_callV cw_X8_personAt ml_X8_87 im_X8_personAt sl_X8_X8_personAt rfl (by omega) rfl (c_X8_personAt_no pk G _ _ n hn hI0 hx_2) ⟨Nat.le_of_ble_eq_true rfl, Nat.le_of_ble_eq_true rfl⟩ ⟨Nat.zero_le _, Nat.zero_le _⟩ rfl rfl (Nat.le_of_ble_eq_true rfl) dX8_hasteOf_2 ?_
    rintro _ _ ⟨rfl, rfl⟩
    refine aw_astore_nN dX8_hasteOf_5 rfl (by decide) rfl ?_
    refine aw_aload_nN dX8_hasteOf_6 rfl rfl ?_
    refine aw_ifnonnullN dX8_hasteOf_7 ?_
    refine aw_iconst (v := 0) dX8_hasteOf_10 (by decide) ?_
    refine aw_goto (tgt := 18) dX8_hasteOf_11 (by decide) ?_
    refine aw_iret dX8_hasteOf_18 (Nat.zero_le _) (Nat.zero_le _) ?_
    refine ⟨rfl, ?_, rfl⟩
    first | (rw [sHx, hx_2]; rfl) | (rw [sHx, if_pos (by rw [ex_2]; exact sP_nI hW.1 hp_2), ex_2, nI_clamp (by have := hW.1; omega)])
  · refine aw_callV cw_X8_personAt ml_X8_87 im_X8_personAt sl_X8_X8_personAt rfl (by omega) rfl (c_X8_personAt pk G _ _ n hn hW hI0 hp_2 ex_2) ⟨Nat.le_of_ble_eq_true rfl, Nat.le_of_ble_eq_true rfl⟩ ⟨Nat.zero_le _, Nat.zero_le _⟩ rfl rfl (Nat.le_of_ble_eq_true rfl) dX8_hasteOf_2 ?_
    rintro _ _ ⟨rfl, rfl⟩
    refine aw_astore_n dX8_hasteOf_5 rfl (by decide) rfl ?_
    refine aw_aload_n dX8_hasteOf_6 rfl rfl ?_
    refine aw_ifnonnull (tgt := 14) dX8_hasteOf_7 (by decide) ?_
    refine aw_aload_n dX8_hasteOf_14 rfl rfl ?_
    refine aw_getP fd_X8_95_1 fd_X8_95_3 fd_X8_95_4 (hW.2 _ hp_2).2.2 dX8_hasteOf_15 (hW.2 _ hp_2).2.1 (he_per _) rfl ?_
    refine aw_iret dX8_hasteOf_18 (Nat.zero_le _) (Nat.zero_le _) ?_
    refine ⟨rfl, ?_, rfl⟩
    first | (rw [sHx, hx_2]; rfl) | (rw [sHx, if_pos (by rw [ex_2]; exact sP_nI hW.1 hp_2), ex_2, nI_clamp (by have := hW.1; omega)])
theorem sHx_eq {I I1 : Nat → Nat → Int32} {g : Nat → Nat} {c : Nat} {x : Int32} (h : ∀ a, a ≠ 4 → I1 a = I a) : sHx g I1 c x = sHx g I c x := by unfold sHx; rw [h _ (by omega)]
set_option maxRecDepth 100000 in
set_option maxHeartbeats 4000000 in
theorem lp_X8_lossOfOrder {l : Launch} {D : va_G} {tc : Nat → ClassId} (pk : Nat → Nat) (G : Nat → Option Nat) (I F : Nat → Nat → Int32) (n : Nat) (hn : 30 ≤ n) {c : Nat} {g : Nat → Nat} (hW : WP pk G n c g) (hI0 : I 0 7 = nI c) (I1 F1 : Nat → Nat → Int32) (hs : SC I F I1 F1) (h5 : ∀ k, k < gtM (myC pk g I c) (I 0 9) → F1 5 k = dnN (myC pk g I c) (I 0 9) k) : ∀ (m i : Nat), i + m = gtM (myC pk g I c) (I 0 9) → AW l D tc yX8_lossOfOrder.cls cX8_lossOfOrder 4 (some .int) { frames := 5, cells := 0, slots := 0, locals := 115 } n 0 0 (fun v n1 h1 => n1 = n ∧ (∃ I1 F1, SC I F I1 F1 ∧ h1 = hC pk G I1 F1 ∧ v = some (.int (sumN (fun k => nI k * sHx g I c (dnN (myC pk g I c) (I 0 9) k)) (gtM (myC pk g I c) (I 0 9)))))) 20 [some (.ref 0), some (.int (nI (gtM (myC pk g I c) (I 0 9)))), some (.int (sumN (fun k => nI k * sHx g I c (dnN (myC pk g I c) (I 0 9) k)) i)), some (.int (nI i))] [] n (hC pk G I1 F1) 0 0 := by
  have hM := gtM_le (myC pk g I c) (I 0 9)
  intro m
  induction m using Nat.strongRecOn with
  | _ m ih =>
    intro i hi
    refine aw_iload_n dX8_lossOfOrder_20 rfl rfl ?_
    refine aw_iload_n dX8_lossOfOrder_21 rfl rfl ?_
    refine aw_icmp_ge (tgt := 49) dX8_lossOfOrder_22 (by decide) (fun c_22 => ?_) (fun c_22 => ?_)
    · have hi6 := lp_ge (N := gtM (myC pk g I c) (I 0 9)) (by omega) (by omega) c_22
      subst hi6
      refine aw_iload_n dX8_lossOfOrder_49 rfl rfl ?_
      refine aw_iret dX8_lossOfOrder_50 (Nat.zero_le _) (Nat.zero_le _) ?_
      exact ⟨rfl, I1, F1, hs, rfl, rfl⟩
    · have hi6 := lp_lt (N := gtM (myC pk g I c) (I 0 9)) (by omega) c_22
      refine aw_iload_n dX8_lossOfOrder_25 rfl rfl ?_
      refine aw_iload_n dX8_lossOfOrder_26 rfl rfl ?_
      refine aw_aload_n dX8_lossOfOrder_27 rfl rfl ?_
      refine aw_aload_n dX8_lossOfOrder_28 rfl rfl ?_
      refine aw_get fd_X8_30_8 dX8_lossOfOrder_29 (by omega) rfl rfl ?_
      refine aw_get fd_X8_177_2 dX8_lossOfOrder_32 (by omega) rfl rfl ?_
      refine aw_iload_n dX8_lossOfOrder_35 rfl rfl ?_
      refine aw_iald dX8_lossOfOrder_36 (by omega) rfl (vp_in_nI (by omega) (by decide)) ?_
      refine aw_callV cw_X8_hasteOf ml_X8_285 im_X8_hasteOf sl_X8_X8_hasteOf rfl (by omega) rfl (c_X8_hasteOfX pk G I1 _ n hn hW (by rw [hs.1 0 (by decide)]; exact hI0) _) ⟨Nat.le_of_ble_eq_true rfl, Nat.le_of_ble_eq_true rfl⟩ ⟨Nat.zero_le _, Nat.zero_le _⟩ rfl rfl (Nat.le_of_ble_eq_true rfl) dX8_lossOfOrder_37 ?_
      rintro _ _ ⟨rfl, rfl⟩
      rw [sHx_eq hs.1, nI_clamp (show i < 2 ^ 31 by omega), h5 i hi6]
      refine aw_imul dX8_lossOfOrder_40 ?_
      refine aw_iadd dX8_lossOfOrder_41 ?_
      refine aw_istore_n dX8_lossOfOrder_42 rfl (by decide) rfl ?_
      refine aw_iinc (v := 1) dX8_lossOfOrder_43 rfl (by decide) (by decide) rfl ?_
      refine aw_goto (tgt := 20) dX8_lossOfOrder_46 (by decide) ?_
      rw [nI_1]
      exact ih (m - 1) (by omega) (i + 1) (by omega)
set_option maxRecDepth 100000 in
set_option maxHeartbeats 4000000 in
theorem c_X8_lossOfOrder {l : Launch} {D : va_G} {tc : Nat → ClassId} (pk : Nat → Nat) (G : Nat → Option Nat) (I F : Nat → Nat → Int32) (n : Nat) (hn : 30 ≤ n) {c : Nat} {g : Nat → Nat} (hW : WP pk G n c g) (hI0 : I 0 7 = nI c) : AM l D tc yX8_lossOfOrder cX8_lossOfOrder 4 (some .int) 5 115 0 0 [.ref 0] n (hC pk G I F) (fun v n1 h1 => n1 = n ∧ (∃ I1 F1, SC I F I1 F1 ∧ h1 = hC pk G I1 F1 ∧ v = some (.int (sumN (fun k => nI k * sHx g I c (dnN (myC pk g I c) (I 0 9) k)) (gtM (myC pk g I c) (I 0 9)))))) := by
  refine am_of (L := [some (.ref 0), none, none, none]) (by decide +kernel) (Nat.le_of_ble_eq_true rfl) rfl ?_
  refine aw_aload_n dX8_lossOfOrder_0 rfl rfl ?_
  refine aw_get fd_X8_30_8 dX8_lossOfOrder_1 (by omega) rfl rfl ?_
  refine aw_aload_n dX8_lossOfOrder_4 rfl rfl ?_
  refine aw_callV cw_X8_maysNow ml_X8_129 im_X8_maysNow sl_X8_X8_maysNow rfl (by omega) rfl (c_X8_maysNow pk G _ _ n hn hW hI0) ⟨Nat.le_of_ble_eq_true rfl, Nat.le_of_ble_eq_true rfl⟩ ⟨Nat.zero_le _, Nat.zero_le _⟩ rfl rfl (Nat.le_of_ble_eq_true rfl) dX8_lossOfOrder_5 ?_
  rintro _ _ ⟨rfl, rfl⟩
  refine aw_aload_n dX8_lossOfOrder_8 rfl rfl ?_
  refine aw_get fd_X8_109_8 dX8_lossOfOrder_9 (by omega) rfl rfl ?_
  refine aw_callV cw_X2_goThroughAll ml_X8_174 im_X2_goThroughAll sl_X2_X2_goThroughAll rfl (by omega) rfl (c_X2_goThroughAll pk G _ _ n hn _) ⟨Nat.le_of_ble_eq_true rfl, Nat.le_of_ble_eq_true rfl⟩ ⟨Nat.zero_le _, Nat.zero_le _⟩ rfl rfl (Nat.le_of_ble_eq_true rfl) dX8_lossOfOrder_12 ?_
  rintro _ _ ⟨rfl, f9, h9, s9, rfl⟩
  rw [gtM_mn]
  refine aw_istore_n dX8_lossOfOrder_15 rfl (by decide) rfl ?_
  refine aw_iconst (v := 0) dX8_lossOfOrder_16 (by decide) ?_
  refine aw_istore_n dX8_lossOfOrder_17 rfl (by decide) rfl ?_
  refine aw_iconst (v := 0) dX8_lossOfOrder_18 (by decide) ?_
  refine aw_istore_n dX8_lossOfOrder_19 rfl (by decide) rfl ?_
  exact lp_X8_lossOfOrder pk G I F n hn hW hI0 _ _ (((SC.mn I F _).tr (SC.gt _ _ _ _)).tr (SC.l3 _ _ _ _ _)) (fun k hk => by rw [gt5 _ _ hk, dnN_mn]) (gtM (myC pk g I c) (I 0 9)) 0 (by omega)
set_option maxRecDepth 100000 in
set_option maxHeartbeats 4000000 in
theorem lp_X8_leastLoss2 {l : Launch} {D : va_G} {tc : Nat → ClassId} (pk : Nat → Nat) (G : Nat → Option Nat) (I F : Nat → Nat → Int32) (n : Nat) (hn : 30 ≤ n) {c : Nat} {g : Nat → Nat} (hW : WP pk G n c g) (hI0 : I 0 7 = nI c) (Q : Option Value → Nat → aw_H → Prop) {p : Nat} (hp : p < 6) (hk9 : ∀ w : Option Value, AW l D tc yX8_leastLoss.cls cX8_leastLoss 5 (some .int) { frames := 2, cells := 0, slots := 0, locals := 43 } n 0 0 Q 79 [some (.ref 0), some (.int (ouN (I 0 9) (fun q => sHx g I c (nI q)) p + inN (I 0 9) (fun q => sHx g I c (nI q)) p p)), some (.int (nI p)), some (.int (nI p)), w] [] n (hC pk G I F) 0 0) : ∀ (m i : Nat) (w : Option Value), i + m = p → AW l D tc yX8_leastLoss.cls cX8_leastLoss 5 (some .int) { frames := 2, cells := 0, slots := 0, locals := 43 } n 0 0 Q 14 [some (.ref 0), some (.int (ouN (I 0 9) (fun q => sHx g I c (nI q)) p + inN (I 0 9) (fun q => sHx g I c (nI q)) p i)), some (.int (nI p)), some (.int (nI i)), w] [] n (hC pk G I F) 0 0 := by
  intro m
  induction m using Nat.strongRecOn with
  | _ m ih =>
    intro i w hi
    refine aw_iload_n dX8_leastLoss_14 rfl rfl ?_
    refine aw_iload_n dX8_leastLoss_15 rfl rfl ?_
    refine aw_icmp_ge (tgt := 79) dX8_leastLoss_16 (by decide) (fun c_16 => ?_) (fun c_16 => ?_)
    · have hi6 := lp_ge (N := p) (by omega) (by omega) c_16
      subst hi6
      exact hk9 _
    · have hi6 := lp_lt (N := p) (by omega) c_16
      refine aw_aload_n dX8_leastLoss_19 rfl rfl ?_
      refine aw_get fd_X8_109_8 dX8_leastLoss_20 (by omega) rfl rfl ?_
      refine aw_iload_n dX8_leastLoss_23 rfl rfl ?_
      refine aw_callS cw_X8_has ml_X8_112 sm_X8_has (c_X8_has _ _ _ _) ⟨Nat.le_of_ble_eq_true rfl, Nat.le_of_ble_eq_true rfl⟩ ⟨Nat.zero_le _, Nat.zero_le _⟩ rfl rfl (Nat.le_of_ble_eq_true rfl) dX8_leastLoss_24 ?_
      rintro _ _ ⟨rfl, rfl⟩
      refine aw_ifB_eq (tgt := 45) dX8_leastLoss_27 (by decide) (fun c_27 => ?_) (fun c_27 => ?_)
      · refine aw_iconst (v := 0) dX8_leastLoss_45 (by decide) ?_
        refine aw_istore dX8_leastLoss_46 (by decide) rfl ?_
        refine aw_iload_n dX8_leastLoss_48 rfl rfl ?_
        refine aw_iload dX8_leastLoss_49 rfl ?_
        refine aw_if_eq (tgt := 70) dX8_leastLoss_51 (by decide) (fun _ => ?_) (fun c9 => absurd rfl c9)
        refine aw_iconst (v := 0) dX8_leastLoss_70 (by decide) ?_
        refine aw_iadd dX8_leastLoss_71 ?_
        refine aw_istore_n dX8_leastLoss_72 rfl (by decide) rfl ?_
        rw [Int32.add_assoc, show inN (I 0 9) (fun q => sHx g I c (nI q)) p i + _ = inN (I 0 9) (fun q => sHx g I c (nI q)) p (i + 1) from by rw [inN]; simp [*]]
        refine aw_iinc (v := 1) dX8_leastLoss_73 rfl (by decide) (by decide) rfl ?_
        refine aw_goto (tgt := 14) dX8_leastLoss_76 (by decide) ?_
        rw [nI_1]
        exact ih (m - 1) (by omega) (i + 1) _ (by omega)
      · refine aw_aload_n dX8_leastLoss_30 rfl rfl ?_
        refine aw_get fd_X8_109_8 dX8_leastLoss_31 (by omega) rfl rfl ?_
        refine aw_iload_n dX8_leastLoss_34 rfl rfl ?_
        refine aw_callS cw_X8_has ml_X8_112 sm_X8_has (c_X8_has _ _ _ _) ⟨Nat.le_of_ble_eq_true rfl, Nat.le_of_ble_eq_true rfl⟩ ⟨Nat.zero_le _, Nat.zero_le _⟩ rfl rfl (Nat.le_of_ble_eq_true rfl) dX8_leastLoss_35 ?_
        rintro _ _ ⟨rfl, rfl⟩
        refine aw_ifB_eq (tgt := 45) dX8_leastLoss_38 (by decide) (fun c_38 => ?_) (fun c_38 => ?_)
        · refine aw_iconst (v := 0) dX8_leastLoss_45 (by decide) ?_
          refine aw_istore dX8_leastLoss_46 (by decide) rfl ?_
          refine aw_iload_n dX8_leastLoss_48 rfl rfl ?_
          refine aw_iload dX8_leastLoss_49 rfl ?_
          refine aw_if_eq (tgt := 70) dX8_leastLoss_51 (by decide) (fun _ => ?_) (fun c9 => absurd rfl c9)
          refine aw_iconst (v := 0) dX8_leastLoss_70 (by decide) ?_
          refine aw_iadd dX8_leastLoss_71 ?_
          refine aw_istore_n dX8_leastLoss_72 rfl (by decide) rfl ?_
          rw [Int32.add_assoc, show inN (I 0 9) (fun q => sHx g I c (nI q)) p i + _ = inN (I 0 9) (fun q => sHx g I c (nI q)) p (i + 1) from by rw [inN]; simp [*]]
          refine aw_iinc (v := 1) dX8_leastLoss_73 rfl (by decide) (by decide) rfl ?_
          refine aw_goto (tgt := 14) dX8_leastLoss_76 (by decide) ?_
          rw [nI_1]
          exact ih (m - 1) (by omega) (i + 1) _ (by omega)
        · refine aw_iconst (v := 1) dX8_leastLoss_41 (by decide) ?_
          refine aw_goto (tgt := 46) dX8_leastLoss_42 (by decide) ?_
          refine aw_istore dX8_leastLoss_46 (by decide) rfl ?_
          refine aw_iload_n dX8_leastLoss_48 rfl rfl ?_
          refine aw_iload dX8_leastLoss_49 rfl ?_
          refine aw_if_eq (tgt := 70) dX8_leastLoss_51 (by decide) (fun c9 => absurd c9 (by decide)) (fun _ => ?_)
          refine aw_aload_n dX8_leastLoss_54 rfl rfl ?_
          refine aw_iload_n dX8_leastLoss_55 rfl rfl ?_
          refine aw_callV cw_X8_hasteOf ml_X8_285 im_X8_hasteOf sl_X8_X8_hasteOf rfl (by omega) rfl (c_X8_hasteOfX pk G _ _ n hn hW hI0 _) ⟨Nat.le_of_ble_eq_true rfl, Nat.le_of_ble_eq_true rfl⟩ ⟨Nat.zero_le _, Nat.zero_le _⟩ rfl rfl (Nat.le_of_ble_eq_true rfl) dX8_leastLoss_56 ?_
          rintro _ _ ⟨rfl, rfl⟩
          refine aw_aload_n dX8_leastLoss_59 rfl rfl ?_
          refine aw_iload_n dX8_leastLoss_60 rfl rfl ?_
          refine aw_callV cw_X8_hasteOf ml_X8_285 im_X8_hasteOf sl_X8_X8_hasteOf rfl (by omega) rfl (c_X8_hasteOfX pk G _ _ n hn hW hI0 _) ⟨Nat.le_of_ble_eq_true rfl, Nat.le_of_ble_eq_true rfl⟩ ⟨Nat.zero_le _, Nat.zero_le _⟩ rfl rfl (Nat.le_of_ble_eq_true rfl) dX8_leastLoss_61 ?_
          rintro _ _ ⟨rfl, rfl⟩
          refine aw_min ml_X8_259 ⟨Nat.le_of_ble_eq_true rfl, Nat.le_of_ble_eq_true rfl⟩ ⟨Nat.zero_le _, Nat.zero_le _⟩ (Nat.le_of_ble_eq_true rfl) dX8_leastLoss_64 ?_
          refine aw_goto (tgt := 71) dX8_leastLoss_67 (by decide) ?_
          refine aw_iadd dX8_leastLoss_71 ?_
          refine aw_istore_n dX8_leastLoss_72 rfl (by decide) rfl ?_
          rw [Int32.add_assoc, show inN (I 0 9) (fun q => sHx g I c (nI q)) p i + _ = inN (I 0 9) (fun q => sHx g I c (nI q)) p (i + 1) from by rw [inN]; simp [*]]
          refine aw_iinc (v := 1) dX8_leastLoss_73 rfl (by decide) (by decide) rfl ?_
          refine aw_goto (tgt := 14) dX8_leastLoss_76 (by decide) ?_
          rw [nI_1]
          exact ih (m - 1) (by omega) (i + 1) _ (by omega)
set_option maxRecDepth 100000 in
set_option maxHeartbeats 4000000 in
theorem lp_X8_leastLoss {l : Launch} {D : va_G} {tc : Nat → ClassId} (pk : Nat → Nat) (G : Nat → Option Nat) (I F : Nat → Nat → Int32) (n : Nat) (hn : 30 ≤ n) {c : Nat} {g : Nat → Nat} (hW : WP pk G n c g) (hI0 : I 0 7 = nI c) : ∀ (m i : Nat) (w w2 : Option Value), i + m = c → AW l D tc yX8_leastLoss.cls cX8_leastLoss 5 (some .int) { frames := 2, cells := 0, slots := 0, locals := 43 } n 0 0 (fun v n1 h1 => n1 = n ∧ (v = some (.int (ouN (I 0 9) (fun q => sHx g I c (nI q)) c)) ∧ h1 = (hC pk G I F))) 4 [some (.ref 0), some (.int (ouN (I 0 9) (fun q => sHx g I c (nI q)) i)), some (.int (nI i)), w, w2] [] n (hC pk G I F) 0 0 := by
  intro m
  induction m using Nat.strongRecOn with
  | _ m ih =>
    intro i w w2 hi
    refine aw_iload_n dX8_leastLoss_4 rfl rfl ?_
    refine aw_aload_n dX8_leastLoss_5 rfl rfl ?_
    refine aw_get fd_X8_84_8 dX8_leastLoss_6 (by omega) rfl rfl ?_
    refine aw_icmp_ge (tgt := 85) dX8_leastLoss_9 (by decide) (fun c_9 => ?_) (fun c_9 => ?_)
    · have hi6 : i = c := lp_ge (by have := hW.1; omega) (by omega) (by rw [← hI0]; exact c_9)
      subst hi6
      refine aw_iload_n dX8_leastLoss_85 rfl rfl ?_
      refine aw_iret dX8_leastLoss_86 (Nat.zero_le _) (Nat.zero_le _) ?_
      exact ⟨rfl, rfl, rfl⟩
    · have hi6 : i < c := lp_lt (N := c) (by have := hW.1; omega) (by rw [← hI0]; exact c_9)
      refine aw_iconst (v := 0) dX8_leastLoss_12 (by decide) ?_
      refine aw_istore_n dX8_leastLoss_13 rfl (by decide) rfl ?_
      have e9 : ouN (I 0 9) (fun q => sHx g I c (nI q)) i = ouN (I 0 9) (fun q => sHx g I c (nI q)) i + inN (I 0 9) (fun q => sHx g I c (nI q)) i 0 := by rw [inN]; exact (Int32.add_zero _).symm
      rw [e9]
      refine lp_X8_leastLoss2 pk G I F n hn hW hI0 _ (p := i) (by have := hW.1; omega) (fun w9 => ?_) i 0 _ (by omega)
      refine aw_iinc (v := 1) dX8_leastLoss_79 rfl (by decide) (by decide) rfl ?_
      refine aw_goto (tgt := 4) dX8_leastLoss_82 (by decide) ?_
      rw [nI_1]
      exact ih (m - 1) (by omega) (i + 1) _ _ (by omega)
set_option maxRecDepth 100000 in
set_option maxHeartbeats 4000000 in
theorem c_X8_leastLoss {l : Launch} {D : va_G} {tc : Nat → ClassId} (pk : Nat → Nat) (G : Nat → Option Nat) (I F : Nat → Nat → Int32) (n : Nat) (hn : 30 ≤ n) {c : Nat} {g : Nat → Nat} (hW : WP pk G n c g) (hI0 : I 0 7 = nI c) : AM l D tc yX8_leastLoss cX8_leastLoss 5 (some .int) 2 43 0 0 [.ref 0] n (hC pk G I F) (fun v n1 h1 => n1 = n ∧ (v = some (.int (ouN (I 0 9) (fun q => sHx g I c (nI q)) c)) ∧ h1 = (hC pk G I F))) := by
  refine am_of (L := [some (.ref 0), none, none, none, none]) (by decide +kernel) (Nat.le_of_ble_eq_true rfl) rfl ?_
  refine aw_iconst (v := 0) dX8_leastLoss_0 (by decide) ?_
  refine aw_istore_n dX8_leastLoss_1 rfl (by decide) rfl ?_
  refine aw_iconst (v := 0) dX8_leastLoss_2 (by decide) ?_
  refine aw_istore_n dX8_leastLoss_3 rfl (by decide) rfl ?_
  exact lp_X8_leastLoss pk G I F n hn hW hI0 c 0 none none (by omega)
set_option maxRecDepth 100000 in
set_option maxHeartbeats 4000000 in
theorem c_X8_loss {l : Launch} {D : va_G} {tc : Nat → ClassId} (pk : Nat → Nat) (G : Nat → Option Nat) (I F : Nat → Nat → Int32) (n : Nat) (hn : 30 ≤ n) {c : Nat} {g : Nat → Nat} (hW : WP pk G n c g) (hI0 : I 0 7 = nI c) (w : Int32) : AM l D tc yX8_loss cX8_loss 2 (some .int) 6 138 0 0 [.ref 0, .int w] n (hC pk G I F) (fun v n1 h1 => n1 = n ∧ (∃ I1 F1, SC I F I1 F1 ∧ h1 = hC pk G I1 F1 ∧ v = some (.int (if sW w 0 1 then (if I 0 7 = 0 then -3 else if w = 0 then (sumN (fun k => nI k * sHx g I c (dnN (myC pk g I c) (I 0 9) k)) (gtM (myC pk g I c) (I 0 9))) else ouN (I 0 9) (fun q => sHx g I c (nI q)) c) else -2)))) := by
  refine am_of (L := [some (.ref 0), some (.int w)]) (by decide +kernel) (Nat.le_of_ble_eq_true rfl) rfl ?_
  refine aw_iload_n dX8_loss_0 rfl rfl ?_
  refine aw_iconst (v := 0) dX8_loss_1 (by decide) ?_
  refine aw_iconst (v := 1) dX8_loss_2 (by decide) ?_
  refine aw_callS cw_X8_isWithin ml_X8_122 sm_X8_isWithin (c_X8_isWithin _ _ _ _ _) ⟨Nat.le_of_ble_eq_true rfl, Nat.le_of_ble_eq_true rfl⟩ ⟨Nat.zero_le _, Nat.zero_le _⟩ rfl rfl (Nat.le_of_ble_eq_true rfl) dX8_loss_3 ?_
  rintro _ _ ⟨rfl, rfl⟩
  refine aw_ifB_ne (tgt := 12) dX8_loss_6 (by decide) (fun c_6 => ?_) (fun c_6 => ?_)
  · refine aw_aload_n dX8_loss_12 rfl rfl ?_
    refine aw_get fd_X8_84_8 dX8_loss_13 (by omega) rfl rfl ?_
    refine aw_if_ne (tgt := 22) dX8_loss_16 (by decide) (fun c_16 => ?_) (fun c_16 => ?_)
    · refine aw_iload_n dX8_loss_22 rfl rfl ?_
      refine aw_if_ne (tgt := 33) dX8_loss_23 (by decide) (fun c_23 => ?_) (fun c_23 => ?_)
      · refine aw_aload_n dX8_loss_33 rfl rfl ?_
        refine aw_callV cw_X8_leastLoss ml_X8_186 im_X8_leastLoss sl_X8_X8_leastLoss rfl (by omega) rfl (c_X8_leastLoss pk G _ _ n hn hW hI0) ⟨Nat.le_of_ble_eq_true rfl, Nat.le_of_ble_eq_true rfl⟩ ⟨Nat.zero_le _, Nat.zero_le _⟩ rfl rfl (Nat.le_of_ble_eq_true rfl) dX8_loss_34 ?_
        rintro _ _ ⟨rfl, rfl⟩
        refine aw_iret dX8_loss_37 (Nat.zero_le _) (Nat.zero_le _) ?_
        first | (refine ⟨rfl, _, _, SC.rf _ _, rfl, ?_⟩; first | (simp [*]; done) | (simp_all; done)) | (refine ⟨rfl, _, _, hs, rfl, ?_⟩; first | (simp [*]; done) | (simp_all; done))
      · refine aw_aload_n dX8_loss_26 rfl rfl ?_
        refine aw_callV cw_X8_lossOfOrder ml_X8_183 im_X8_lossOfOrder sl_X8_X8_lossOfOrder rfl (by omega) rfl (c_X8_lossOfOrder pk G _ _ n hn hW hI0) ⟨Nat.le_of_ble_eq_true rfl, Nat.le_of_ble_eq_true rfl⟩ ⟨Nat.zero_le _, Nat.zero_le _⟩ rfl rfl (Nat.le_of_ble_eq_true rfl) dX8_loss_27 ?_
        rintro _ _ ⟨I1, F1, hs, rfl, rfl⟩
        refine aw_goto (tgt := 37) dX8_loss_30 (by decide) ?_
        refine aw_iret dX8_loss_37 (Nat.zero_le _) (Nat.zero_le _) ?_
        first | (refine ⟨rfl, _, _, SC.rf _ _, rfl, ?_⟩; first | (simp [*]; done) | (simp_all; done)) | (refine ⟨rfl, _, _, hs, rfl, ?_⟩; first | (simp [*]; done) | (simp_all; done))
    · refine aw_bipush (v := (-3)) dX8_loss_19 (by decide) ?_
      refine aw_iret dX8_loss_21 (Nat.zero_le _) (Nat.zero_le _) ?_
      first | (refine ⟨rfl, _, _, SC.rf _ _, rfl, ?_⟩; first | (simp [*]; done) | (simp_all; done)) | (refine ⟨rfl, _, _, hs, rfl, ?_⟩; first | (simp [*]; done) | (simp_all; done))
  · refine aw_bipush (v := (-2)) dX8_loss_9 (by decide) ?_
    refine aw_iret dX8_loss_11 (Nat.zero_le _) (Nat.zero_le _) ?_
    first | (refine ⟨rfl, _, _, SC.rf _ _, rfl, ?_⟩; first | (simp [*]; done) | (simp_all; done)) | (refine ⟨rfl, _, _, hs, rfl, ?_⟩; first | (simp [*]; done) | (simp_all; done))
end
