section
-- ===== PART A: goes FIRST, ahead of the names: the tables' words, and 'selects' of the private methods out of them =====
/-- a private method of a class that the tables say can be made, by its rows of tables_1 -/
def lw_okq (q : MethodName × Nat) : Prop := (q.1.cls ≠ "java/lang/invoke/MethodHandle" ∧ q.1.cls ≠ "java/lang/invoke/VarHandle") ∧ Cond.instantiable q.1.cls q.2 ∈ tables_1 ∧ Cond.privateMethod q.1 ∈ tables_1 ∧ Cond.instanceMethod q.1 ∈ tables_1
theorem lw_p0 : lw_okq (⟨"StepBack", "sheetAt", "(I)LStepBack$Row;"⟩, 12) := ⟨⟨by decide +kernel, by decide +kernel⟩, List.mem_of_getElem? (i := 15) (by decide +kernel), List.mem_of_getElem? (i := 166) (by decide +kernel), List.mem_of_getElem? (i := 167) (by decide +kernel)⟩
theorem lw_p1 : lw_okq (⟨"StepBack", "faulted", "(I)I"⟩, 12) := ⟨⟨by decide +kernel, by decide +kernel⟩, List.mem_of_getElem? (i := 15) (by decide +kernel), List.mem_of_getElem? (i := 183) (by decide +kernel), List.mem_of_getElem? (i := 184) (by decide +kernel)⟩
theorem lw_p2 : lw_okq (⟨"StepBack", "takeText", "(LStepBack$Row;II)V"⟩, 12) := ⟨⟨by decide +kernel, by decide +kernel⟩, List.mem_of_getElem? (i := 15) (by decide +kernel), List.mem_of_getElem? (i := 201) (by decide +kernel), List.mem_of_getElem? (i := 202) (by decide +kernel)⟩
theorem lw_p3 : lw_okq (⟨"StepBack", "everybody", "()I"⟩, 12) := ⟨⟨by decide +kernel, by decide +kernel⟩, List.mem_of_getElem? (i := 15) (by decide +kernel), List.mem_of_getElem? (i := 248) (by decide +kernel), List.mem_of_getElem? (i := 249) (by decide +kernel)⟩
theorem lw_p4 : lw_okq (⟨"StepBack", "personAt", "(I)LStepBack$Plain;"⟩, 12) := ⟨⟨by decide +kernel, by decide +kernel⟩, List.mem_of_getElem? (i := 15) (by decide +kernel), List.mem_of_getElem? (i := 263) (by decide +kernel), List.mem_of_getElem? (i := 264) (by decide +kernel)⟩
theorem lw_p5 : lw_okq (⟨"StepBack", "mayGo", "(III)I"⟩, 12) := ⟨⟨by decide +kernel, by decide +kernel⟩, List.mem_of_getElem? (i := 15) (by decide +kernel), List.mem_of_getElem? (i := 281) (by decide +kernel), List.mem_of_getElem? (i := 282) (by decide +kernel)⟩
theorem lw_p6 : lw_okq (⟨"StepBack", "maysNow", "()[I"⟩, 12) := ⟨⟨by decide +kernel, by decide +kernel⟩, List.mem_of_getElem? (i := 15) (by decide +kernel), List.mem_of_getElem? (i := 320) (by decide +kernel), List.mem_of_getElem? (i := 321) (by decide +kernel)⟩
theorem lw_p7 : lw_okq (⟨"StepBack$Lift", "goesRound", "([II)Z"⟩, 5) := ⟨⟨by decide +kernel, by decide +kernel⟩, List.mem_of_getElem? (i := 27) (by decide +kernel), List.mem_of_getElem? (i := 328) (by decide +kernel), List.mem_of_getElem? (i := 329) (by decide +kernel)⟩
theorem lw_p8 : lw_okq (⟨"StepBack", "areTwo", "(II)Z"⟩, 12) := ⟨⟨by decide +kernel, by decide +kernel⟩, List.mem_of_getElem? (i := 15) (by decide +kernel), List.mem_of_getElem? (i := 354) (by decide +kernel), List.mem_of_getElem? (i := 355) (by decide +kernel)⟩
theorem lw_p9 : lw_okq (⟨"StepBack", "allNameSomebody", "(LStepBack$Row;II)Z"⟩, 12) := ⟨⟨by decide +kernel, by decide +kernel⟩, List.mem_of_getElem? (i := 15) (by decide +kernel), List.mem_of_getElem? (i := 367) (by decide +kernel), List.mem_of_getElem? (i := 368) (by decide +kernel)⟩
theorem lw_p10 : lw_okq (⟨"StepBack", "callsTold", "(LStepBack$Row;III)I"⟩, 12) := ⟨⟨by decide +kernel, by decide +kernel⟩, List.mem_of_getElem? (i := 15) (by decide +kernel), List.mem_of_getElem? (i := 371) (by decide +kernel), List.mem_of_getElem? (i := 372) (by decide +kernel)⟩
theorem lw_p11 : lw_okq (⟨"StepBack", "howManyGoOn", "([III)I"⟩, 12) := ⟨⟨by decide +kernel, by decide +kernel⟩, List.mem_of_getElem? (i := 15) (by decide +kernel), List.mem_of_getElem? (i := 375) (by decide +kernel), List.mem_of_getElem? (i := 376) (by decide +kernel)⟩
theorem lw_p12 : lw_okq (⟨"StepBack", "lossOfOrder", "()I"⟩, 12) := ⟨⟨by decide +kernel, by decide +kernel⟩, List.mem_of_getElem? (i := 15) (by decide +kernel), List.mem_of_getElem? (i := 393) (by decide +kernel), List.mem_of_getElem? (i := 394) (by decide +kernel)⟩
theorem lw_p13 : lw_okq (⟨"StepBack", "hasteOf", "(I)I"⟩, 12) := ⟨⟨by decide +kernel, by decide +kernel⟩, List.mem_of_getElem? (i := 15) (by decide +kernel), List.mem_of_getElem? (i := 397) (by decide +kernel), List.mem_of_getElem? (i := 398) (by decide +kernel)⟩
theorem lw_p14 : lw_okq (⟨"StepBack", "leastLoss", "()I"⟩, 12) := ⟨⟨by decide +kernel, by decide +kernel⟩, List.mem_of_getElem? (i := 15) (by decide +kernel), List.mem_of_getElem? (i := 401) (by decide +kernel), List.mem_of_getElem? (i := 402) (by decide +kernel)⟩
theorem lw_p15 : lw_okq (⟨"StepBack$Debts", "mostGroups", "(I)I"⟩, 3) := ⟨⟨by decide +kernel, by decide +kernel⟩, List.mem_of_getElem? (i := 54) (by decide +kernel), List.mem_of_getElem? (i := 440) (by decide +kernel), List.mem_of_getElem? (i := 441) (by decide +kernel)⟩
def lw_privs_1 : List (MethodName × Nat) := [(⟨"StepBack", "sheetAt", "(I)LStepBack$Row;"⟩, 12), (⟨"StepBack", "faulted", "(I)I"⟩, 12), (⟨"StepBack", "takeText", "(LStepBack$Row;II)V"⟩, 12), (⟨"StepBack", "everybody", "()I"⟩, 12), (⟨"StepBack", "personAt", "(I)LStepBack$Plain;"⟩, 12), (⟨"StepBack", "mayGo", "(III)I"⟩, 12), (⟨"StepBack", "maysNow", "()[I"⟩, 12), (⟨"StepBack$Lift", "goesRound", "([II)Z"⟩, 5), (⟨"StepBack", "areTwo", "(II)Z"⟩, 12), (⟨"StepBack", "allNameSomebody", "(LStepBack$Row;II)Z"⟩, 12), (⟨"StepBack", "callsTold", "(LStepBack$Row;III)I"⟩, 12), (⟨"StepBack", "howManyGoOn", "([III)I"⟩, 12), (⟨"StepBack", "lossOfOrder", "()I"⟩, 12), (⟨"StepBack", "hasteOf", "(I)I"⟩, 12), (⟨"StepBack", "leastLoss", "()I"⟩, 12), (⟨"StepBack$Debts", "mostGroups", "(I)I"⟩, 3)]
theorem lw_r1 : ∀ q ∈ lw_privs_1, lw_okq q := List.forall_mem_cons.mpr ⟨lw_p0, List.forall_mem_cons.mpr ⟨lw_p1, List.forall_mem_cons.mpr ⟨lw_p2, List.forall_mem_cons.mpr ⟨lw_p3, List.forall_mem_cons.mpr ⟨lw_p4, List.forall_mem_cons.mpr ⟨lw_p5, List.forall_mem_cons.mpr ⟨lw_p6, List.forall_mem_cons.mpr ⟨lw_p7, List.forall_mem_cons.mpr ⟨lw_p8, List.forall_mem_cons.mpr ⟨lw_p9, List.forall_mem_cons.mpr ⟨lw_p10, List.forall_mem_cons.mpr ⟨lw_p11, List.forall_mem_cons.mpr ⟨lw_p12, List.forall_mem_cons.mpr ⟨lw_p13, List.forall_mem_cons.mpr ⟨lw_p14, List.forall_mem_cons.mpr ⟨lw_p15, fun _ h => absurd h List.not_mem_nil⟩⟩⟩⟩⟩⟩⟩⟩⟩⟩⟩⟩⟩⟩⟩⟩
theorem lw_p16 : lw_okq (⟨"StepBack$Row", "cut", "(I)I"⟩, 4) := ⟨⟨by decide +kernel, by decide +kernel⟩, List.mem_of_getElem? (i := 103) (by decide +kernel), List.mem_of_getElem? (i := 506) (by decide +kernel), List.mem_of_getElem? (i := 507) (by decide +kernel)⟩
theorem lw_p17 : lw_okq (⟨"StepBackModel", "against", "(IIII)I"⟩, 28) := ⟨⟨by decide +kernel, by decide +kernel⟩, List.mem_of_getElem? (i := 586) (by decide +kernel), List.mem_of_getElem? (i := 690) (by decide +kernel), List.mem_of_getElem? (i := 691) (by decide +kernel)⟩
theorem lw_p18 : lw_okq (⟨"StepBackModel", "fails", "(I)I"⟩, 28) := ⟨⟨by decide +kernel, by decide +kernel⟩, List.mem_of_getElem? (i := 586) (by decide +kernel), List.mem_of_getElem? (i := 694) (by decide +kernel), List.mem_of_getElem? (i := 695) (by decide +kernel)⟩
theorem lw_p19 : lw_okq (⟨"StepBackModel", "readLine", "(I)Z"⟩, 28) := ⟨⟨by decide +kernel, by decide +kernel⟩, List.mem_of_getElem? (i := 586) (by decide +kernel), List.mem_of_getElem? (i := 698) (by decide +kernel), List.mem_of_getElem? (i := 699) (by decide +kernel)⟩
theorem lw_p20 : lw_okq (⟨"StepBackModel", "isSign", "(II)Z"⟩, 28) := ⟨⟨by decide +kernel, by decide +kernel⟩, List.mem_of_getElem? (i := 586) (by decide +kernel), List.mem_of_getElem? (i := 702) (by decide +kernel), List.mem_of_getElem? (i := 703) (by decide +kernel)⟩
theorem lw_p21 : lw_okq (⟨"StepBackModel", "digit", "(I)I"⟩, 28) := ⟨⟨by decide +kernel, by decide +kernel⟩, List.mem_of_getElem? (i := 586) (by decide +kernel), List.mem_of_getElem? (i := 706) (by decide +kernel), List.mem_of_getElem? (i := 707) (by decide +kernel)⟩
theorem lw_p22 : lw_okq (⟨"StepBackModel", "readPerson", "(I)Z"⟩, 28) := ⟨⟨by decide +kernel, by decide +kernel⟩, List.mem_of_getElem? (i := 586) (by decide +kernel), List.mem_of_getElem? (i := 710) (by decide +kernel), List.mem_of_getElem? (i := 711) (by decide +kernel)⟩
theorem lw_p23 : lw_okq (⟨"StepBackModel", "takeLine", "()V"⟩, 28) := ⟨⟨by decide +kernel, by decide +kernel⟩, List.mem_of_getElem? (i := 586) (by decide +kernel), List.mem_of_getElem? (i := 714) (by decide +kernel), List.mem_of_getElem? (i := 715) (by decide +kernel)⟩
theorem lw_p24 : lw_okq (⟨"StepBackModel", "isPerson", "(I)Z"⟩, 28) := ⟨⟨by decide +kernel, by decide +kernel⟩, List.mem_of_getElem? (i := 586) (by decide +kernel), List.mem_of_getElem? (i := 722) (by decide +kernel), List.mem_of_getElem? (i := 723) (by decide +kernel)⟩
theorem lw_p25 : lw_okq (⟨"StepBackModel", "wouldOf", "(I)I"⟩, 28) := ⟨⟨by decide +kernel, by decide +kernel⟩, List.mem_of_getElem? (i := 586) (by decide +kernel), List.mem_of_getElem? (i := 726) (by decide +kernel), List.mem_of_getElem? (i := 727) (by decide +kernel)⟩
theorem lw_p26 : lw_okq (⟨"StepBackModel", "mayOf", "(I)I"⟩, 28) := ⟨⟨by decide +kernel, by decide +kernel⟩, List.mem_of_getElem? (i := 586) (by decide +kernel), List.mem_of_getElem? (i := 730) (by decide +kernel), List.mem_of_getElem? (i := 731) (by decide +kernel)⟩
theorem lw_p27 : lw_okq (⟨"StepBackModel", "sumOf", "(IZ)I"⟩, 28) := ⟨⟨by decide +kernel, by decide +kernel⟩, List.mem_of_getElem? (i := 586) (by decide +kernel), List.mem_of_getElem? (i := 734) (by decide +kernel), List.mem_of_getElem? (i := 735) (by decide +kernel)⟩
theorem lw_p28 : lw_okq (⟨"StepBackModel", "callOf", "(I)I"⟩, 28) := ⟨⟨by decide +kernel, by decide +kernel⟩, List.mem_of_getElem? (i := 586) (by decide +kernel), List.mem_of_getElem? (i := 754) (by decide +kernel), List.mem_of_getElem? (i := 755) (by decide +kernel)⟩
theorem lw_p29 : lw_okq (⟨"StepBackModel", "areTwo", "(II)Z"⟩, 28) := ⟨⟨by decide +kernel, by decide +kernel⟩, List.mem_of_getElem? (i := 586) (by decide +kernel), List.mem_of_getElem? (i := 775) (by decide +kernel), List.mem_of_getElem? (i := 776) (by decide +kernel)⟩
theorem lw_p30 : lw_okq (⟨"StepBackModel", "goCalls", "(II)I"⟩, 28) := ⟨⟨by decide +kernel, by decide +kernel⟩, List.mem_of_getElem? (i := 586) (by decide +kernel), List.mem_of_getElem? (i := 787) (by decide +kernel), List.mem_of_getElem? (i := 788) (by decide +kernel)⟩
theorem lw_p31 : lw_okq (⟨"StepBackModel", "wouldGoOn", "()I"⟩, 28) := ⟨⟨by decide +kernel, by decide +kernel⟩, List.mem_of_getElem? (i := 586) (by decide +kernel), List.mem_of_getElem? (i := 791) (by decide +kernel), List.mem_of_getElem? (i := 792) (by decide +kernel)⟩
def lw_privs_2 : List (MethodName × Nat) := [(⟨"StepBack$Row", "cut", "(I)I"⟩, 4), (⟨"StepBackModel", "against", "(IIII)I"⟩, 28), (⟨"StepBackModel", "fails", "(I)I"⟩, 28), (⟨"StepBackModel", "readLine", "(I)Z"⟩, 28), (⟨"StepBackModel", "isSign", "(II)Z"⟩, 28), (⟨"StepBackModel", "digit", "(I)I"⟩, 28), (⟨"StepBackModel", "readPerson", "(I)Z"⟩, 28), (⟨"StepBackModel", "takeLine", "()V"⟩, 28), (⟨"StepBackModel", "isPerson", "(I)Z"⟩, 28), (⟨"StepBackModel", "wouldOf", "(I)I"⟩, 28), (⟨"StepBackModel", "mayOf", "(I)I"⟩, 28), (⟨"StepBackModel", "sumOf", "(IZ)I"⟩, 28), (⟨"StepBackModel", "callOf", "(I)I"⟩, 28), (⟨"StepBackModel", "areTwo", "(II)Z"⟩, 28), (⟨"StepBackModel", "goCalls", "(II)I"⟩, 28), (⟨"StepBackModel", "wouldGoOn", "()I"⟩, 28)]
theorem lw_r2 : ∀ q ∈ lw_privs_2, lw_okq q := List.forall_mem_cons.mpr ⟨lw_p16, List.forall_mem_cons.mpr ⟨lw_p17, List.forall_mem_cons.mpr ⟨lw_p18, List.forall_mem_cons.mpr ⟨lw_p19, List.forall_mem_cons.mpr ⟨lw_p20, List.forall_mem_cons.mpr ⟨lw_p21, List.forall_mem_cons.mpr ⟨lw_p22, List.forall_mem_cons.mpr ⟨lw_p23, List.forall_mem_cons.mpr ⟨lw_p24, List.forall_mem_cons.mpr ⟨lw_p25, List.forall_mem_cons.mpr ⟨lw_p26, List.forall_mem_cons.mpr ⟨lw_p27, List.forall_mem_cons.mpr ⟨lw_p28, List.forall_mem_cons.mpr ⟨lw_p29, List.forall_mem_cons.mpr ⟨lw_p30, List.forall_mem_cons.mpr ⟨lw_p31, fun _ h => absurd h List.not_mem_nil⟩⟩⟩⟩⟩⟩⟩⟩⟩⟩⟩⟩⟩⟩⟩⟩
theorem lw_p32 : lw_okq (⟨"StepBackModel", "findOrder", "()V"⟩, 28) := ⟨⟨by decide +kernel, by decide +kernel⟩, List.mem_of_getElem? (i := 586) (by decide +kernel), List.mem_of_getElem? (i := 799) (by decide +kernel), List.mem_of_getElem? (i := 800) (by decide +kernel)⟩
theorem lw_p33 : lw_okq (⟨"StepBackModel", "leastLoss", "()I"⟩, 28) := ⟨⟨by decide +kernel, by decide +kernel⟩, List.mem_of_getElem? (i := 586) (by decide +kernel), List.mem_of_getElem? (i := 807) (by decide +kernel), List.mem_of_getElem? (i := 808) (by decide +kernel)⟩
theorem lw_p34 : lw_okq (⟨"StepBackModel", "balanceOf", "(I)I"⟩, 28) := ⟨⟨by decide +kernel, by decide +kernel⟩, List.mem_of_getElem? (i := 586) (by decide +kernel), List.mem_of_getElem? (i := 819) (by decide +kernel), List.mem_of_getElem? (i := 820) (by decide +kernel)⟩
theorem lw_p35 : lw_okq (⟨"StepBackModel", "mostGroups", "(I)I"⟩, 28) := ⟨⟨by decide +kernel, by decide +kernel⟩, List.mem_of_getElem? (i := 586) (by decide +kernel), List.mem_of_getElem? (i := 827) (by decide +kernel), List.mem_of_getElem? (i := 828) (by decide +kernel)⟩
theorem lw_p36 : lw_okq (⟨"StepBackModel", "isEven", "(I)Z"⟩, 28) := ⟨⟨by decide +kernel, by decide +kernel⟩, List.mem_of_getElem? (i := 586) (by decide +kernel), List.mem_of_getElem? (i := 831) (by decide +kernel), List.mem_of_getElem? (i := 832) (by decide +kernel)⟩
theorem lw_p37 : lw_okq (⟨"StepBackModel", "areSo", "()Z"⟩, 28) := ⟨⟨by decide +kernel, by decide +kernel⟩, List.mem_of_getElem? (i := 586) (by decide +kernel), List.mem_of_getElem? (i := 851) (by decide +kernel), List.mem_of_getElem? (i := 852) (by decide +kernel)⟩
theorem lw_p38 : lw_okq (⟨"StepBackModel", "lost", "(I)J"⟩, 28) := ⟨⟨by decide +kernel, by decide +kernel⟩, List.mem_of_getElem? (i := 586) (by decide +kernel), List.mem_of_getElem? (i := 887) (by decide +kernel), List.mem_of_getElem? (i := 888) (by decide +kernel)⟩
theorem lw_p39 : lw_okq (⟨"StepBackModel", "begins", "(I)V"⟩, 28) := ⟨⟨by decide +kernel, by decide +kernel⟩, List.mem_of_getElem? (i := 586) (by decide +kernel), List.mem_of_getElem? (i := 899) (by decide +kernel), List.mem_of_getElem? (i := 900) (by decide +kernel)⟩
def lw_privs_3 : List (MethodName × Nat) := [(⟨"StepBackModel", "findOrder", "()V"⟩, 28), (⟨"StepBackModel", "leastLoss", "()I"⟩, 28), (⟨"StepBackModel", "balanceOf", "(I)I"⟩, 28), (⟨"StepBackModel", "mostGroups", "(I)I"⟩, 28), (⟨"StepBackModel", "isEven", "(I)Z"⟩, 28), (⟨"StepBackModel", "areSo", "()Z"⟩, 28), (⟨"StepBackModel", "lost", "(I)J"⟩, 28), (⟨"StepBackModel", "begins", "(I)V"⟩, 28)]
theorem lw_r3 : ∀ q ∈ lw_privs_3, lw_okq q := List.forall_mem_cons.mpr ⟨lw_p32, List.forall_mem_cons.mpr ⟨lw_p33, List.forall_mem_cons.mpr ⟨lw_p34, List.forall_mem_cons.mpr ⟨lw_p35, List.forall_mem_cons.mpr ⟨lw_p36, List.forall_mem_cons.mpr ⟨lw_p37, List.forall_mem_cons.mpr ⟨lw_p38, List.forall_mem_cons.mpr ⟨lw_p39, fun _ h => absurd h List.not_mem_nil⟩⟩⟩⟩⟩⟩⟩⟩
def lw_privs : List (MethodName × Nat) := lw_privs_1 ++ (lw_privs_2 ++ (lw_privs_3))
def lw_tbl : List Cond := k2_sels lw_privs ++ tables_1
theorem lw_privs_ok : ∀ q ∈ lw_privs, lw_okq q := by
  show ∀ q ∈ lw_privs_1 ++ (lw_privs_2 ++ (lw_privs_3)), lw_okq q
  exact List.forall_mem_append.mpr ⟨lw_r1, List.forall_mem_append.mpr ⟨lw_r2, lw_r3⟩⟩
end
section
def RX0 : String := "StepBack$Debts"
def TX0 : u_T := fun k => match k with
  | 0 => ("StepBack$Debts", "owed", "[[I", true)
  | 1 => ("StepBack$Debts", "balances", "[I", true)
  | _ => ("StepBack$Debts", "groups", "[I", true)
def tyX0 : Nat → FieldType := fun k => match k with
  | 0 => .array (.array .int)
  | 1 => .array .int
  | _ => .array .int
theorem nmX0 : ∀ a, a < 3 → ∀ b, b < 3 → a ≠ b → (TX0 a).2.1 ≠ (TX0 b).2.1 := by decide +kernel
theorem tyX0_ok : ∀ k, k < 3 → parseFieldDescriptor (TX0 k).2.2.1 = some (tyX0 k) := by decide +kernel
abbrev cX0_init : ByteArray := prog_2_method_1_code
def yX0_init : MethodName := ⟨RX0, "<init>", "()V"⟩
abbrev cX0_areNumbers : ByteArray := prog_2_method_2_code
def yX0_areNumbers : MethodName := ⟨RX0, "areNumbers", "(II)Z"⟩
abbrev cX0_forget : ByteArray := prog_2_method_3_code
def yX0_forget : MethodName := ⟨RX0, "forget", "()V"⟩
abbrev cX0_add : ByteArray := prog_2_method_4_code
def yX0_add : MethodName := ⟨RX0, "add", "(III)V"⟩
abbrev cX0_between : ByteArray := prog_2_method_5_code
def yX0_between : MethodName := ⟨RX0, "between", "(II)I"⟩
abbrev cX0_owedBy : ByteArray := prog_2_method_6_code
def yX0_owedBy : MethodName := ⟨RX0, "owedBy", "(I)I"⟩
abbrev cX0_owedTo : ByteArray := prog_2_method_7_code
def yX0_owedTo : MethodName := ⟨RX0, "owedTo", "(I)I"⟩
abbrev cX0_balanceOf : ByteArray := prog_2_method_8_code
def yX0_balanceOf : MethodName := ⟨RX0, "balanceOf", "(I)I"⟩
abbrev cX0_leastSteps : ByteArray := prog_2_method_9_code
def yX0_leastSteps : MethodName := ⟨RX0, "leastSteps", "()I"⟩
abbrev cX0_leastPayments : ByteArray := prog_2_method_10_code
def yX0_leastPayments : MethodName := ⟨RX0, "leastPayments", "()I"⟩
abbrev cX0_mostGroups : ByteArray := prog_2_method_11_code
def yX0_mostGroups : MethodName := ⟨RX0, "mostGroups", "(I)I"⟩
def RX1 : String := "StepBack$Lame"
def TX1 : u_T := fun k => match k with
  | 0 => ("StepBack$Plain", "number", "I", true)
  | 1 => ("StepBack$Plain", "haste", "I", false)
  | _ => ("StepBack$Plain", "room", "I", false)
def tyX1 : Nat → FieldType := fun k => match k with
  | 0 => .int
  | 1 => .int
  | _ => .int
theorem nmX1 : ∀ a, a < 3 → ∀ b, b < 3 → a ≠ b → (TX1 a).2.1 ≠ (TX1 b).2.1 := by decide +kernel
theorem tyX1_ok : ∀ k, k < 3 → parseFieldDescriptor (TX1 k).2.2.1 = some (tyX1 k) := by decide +kernel
abbrev cX1_init : ByteArray := prog_3_method_1_code
def yX1_init : MethodName := ⟨RX1, "<init>", "(III)V"⟩
abbrev cX1_kind : ByteArray := prog_3_method_2_code
def yX1_kind : MethodName := ⟨RX1, "kind", "()I"⟩
abbrev cX1_telling : ByteArray := prog_3_method_3_code
def yX1_telling : MethodName := ⟨RX1, "telling", "(LStepBack$Trace;)I"⟩
abbrev cX1_heardAs : ByteArray := prog_3_method_4_code
def yX1_heardAs : MethodName := ⟨RX1, "heardAs", "(LStepBack$Trace;)I"⟩
def RX2 : String := "StepBack$Lift"
def TX2 : u_T := fun k => match k with
  | 0 => ("StepBack$Lift", "whoWent", "[I", true)
  | 1 => ("StepBack$Lift", "stepsGone", "[I", true)
  | 2 => ("StepBack$Lift", "far", "I", false)
  | 3 => ("StepBack$Lift", "head", "I", false)
  | _ => ("StepBack$Lift", "second", "I", false)
def tyX2 : Nat → FieldType := fun k => match k with
  | 0 => .array .int
  | 1 => .array .int
  | 2 => .int
  | 3 => .int
  | _ => .int
theorem nmX2 : ∀ a, a < 5 → ∀ b, b < 5 → a ≠ b → (TX2 a).2.1 ≠ (TX2 b).2.1 := by decide +kernel
theorem tyX2_ok : ∀ k, k < 5 → parseFieldDescriptor (TX2 k).2.2.1 = some (tyX2 k) := by decide +kernel
abbrev cX2_init : ByteArray := prog_4_method_1_code
def yX2_init : MethodName := ⟨RX2, "<init>", "()V"⟩
abbrev cX2_letDown : ByteArray := prog_4_method_2_code
def yX2_letDown : MethodName := ⟨RX2, "letDown", "([II)I"⟩
abbrev cX2_goesRound : ByteArray := prog_4_method_3_code
def yX2_goesRound : MethodName := ⟨RX2, "goesRound", "([II)Z"⟩
abbrev cX2_leastOf : ByteArray := prog_4_method_4_code
def yX2_leastOf : MethodName := ⟨RX2, "leastOf", "(I)I"⟩
abbrev cX2_goThroughAll : ByteArray := prog_4_method_5_code
def yX2_goThroughAll : MethodName := ⟨RX2, "goThroughAll", "([II)I"⟩
abbrev cX2_placeOf : ByteArray := prog_4_method_6_code
def yX2_placeOf : MethodName := ⟨RX2, "placeOf", "(I[II)I"⟩
def RX3 : String := "StepBack$Plain"
def TX3 : u_T := fun k => match k with
  | 0 => ("StepBack$Plain", "number", "I", true)
  | 1 => ("StepBack$Plain", "haste", "I", false)
  | _ => ("StepBack$Plain", "room", "I", false)
def tyX3 : Nat → FieldType := fun k => match k with
  | 0 => .int
  | 1 => .int
  | _ => .int
theorem nmX3 : ∀ a, a < 3 → ∀ b, b < 3 → a ≠ b → (TX3 a).2.1 ≠ (TX3 b).2.1 := by decide +kernel
theorem tyX3_ok : ∀ k, k < 3 → parseFieldDescriptor (TX3 k).2.2.1 = some (tyX3 k) := by decide +kernel
abbrev cX3_init : ByteArray := prog_5_method_1_code
def yX3_init : MethodName := ⟨RX3, "<init>", "(III)V"⟩
abbrev cX3_kind : ByteArray := prog_5_method_2_code
def yX3_kind : MethodName := ⟨RX3, "kind", "()I"⟩
abbrev cX3_telling : ByteArray := prog_5_method_3_code
def yX3_telling : MethodName := ⟨RX3, "telling", "(LStepBack$Trace;)I"⟩
abbrev cX3_plainTelling : ByteArray := prog_5_method_4_code
def yX3_plainTelling : MethodName := ⟨RX3, "plainTelling", "(LStepBack$Trace;)I"⟩
abbrev cX3_heardAs : ByteArray := prog_5_method_5_code
def yX3_heardAs : MethodName := ⟨RX3, "heardAs", "(LStepBack$Trace;)I"⟩
def RX4 : String := "StepBack$Proud"
def TX4 : u_T := fun k => match k with
  | 0 => ("StepBack$Plain", "number", "I", true)
  | 1 => ("StepBack$Plain", "haste", "I", false)
  | _ => ("StepBack$Plain", "room", "I", false)
def tyX4 : Nat → FieldType := fun k => match k with
  | 0 => .int
  | 1 => .int
  | _ => .int
theorem nmX4 : ∀ a, a < 3 → ∀ b, b < 3 → a ≠ b → (TX4 a).2.1 ≠ (TX4 b).2.1 := by decide +kernel
theorem tyX4_ok : ∀ k, k < 3 → parseFieldDescriptor (TX4 k).2.2.1 = some (tyX4 k) := by decide +kernel
abbrev cX4_init : ByteArray := prog_6_method_1_code
def yX4_init : MethodName := ⟨RX4, "<init>", "(III)V"⟩
abbrev cX4_kind : ByteArray := prog_6_method_2_code
def yX4_kind : MethodName := ⟨RX4, "kind", "()I"⟩
abbrev cX4_telling : ByteArray := prog_6_method_3_code
def yX4_telling : MethodName := ⟨RX4, "telling", "(LStepBack$Trace;)I"⟩
def RX5 : String := "StepBack$Readings"
def TX5 : u_T := fun k => match k with
  | 0 => ("StepBack$Readings", "who", "[I", true)
  | 1 => ("StepBack$Readings", "far", "[I", true)
  | 2 => ("StepBack$Readings", "on", "[Z", true)
  | _ => ("StepBack$Readings", "count", "I", false)
def tyX5 : Nat → FieldType := fun k => match k with
  | 0 => .array .int
  | 1 => .array .int
  | 2 => .array .boolean
  | _ => .int
theorem nmX5 : ∀ a, a < 4 → ∀ b, b < 4 → a ≠ b → (TX5 a).2.1 ≠ (TX5 b).2.1 := by decide +kernel
theorem tyX5_ok : ∀ k, k < 4 → parseFieldDescriptor (TX5 k).2.2.1 = some (tyX5 k) := by decide +kernel
abbrev cX5_init : ByteArray := prog_7_method_1_code
def yX5_init : MethodName := ⟨RX5, "<init>", "()V"⟩
abbrev cX5_add : ByteArray := prog_7_method_2_code
def yX5_add : MethodName := ⟨RX5, "add", "(IIZ)I"⟩
abbrev cX5_areSo : ByteArray := prog_7_method_3_code
def yX5_areSo : MethodName := ⟨RX5, "areSo", "([I)Z"⟩
def RX6 : String := "StepBack$Row"
def TX6 : u_T := fun k => match k with
  | 0 => ("StepBack$Row", "cells", "[I", true)
  | 1 => ("StepBack$Row", "isThere", "Z", false)
  | 2 => ("StepBack$Row", "lane", "I", false)
  | _ => ("StepBack$Row", "size", "I", false)
def tyX6 : Nat → FieldType := fun k => match k with
  | 0 => .array .int
  | 1 => .boolean
  | 2 => .int
  | _ => .int
theorem nmX6 : ∀ a, a < 4 → ∀ b, b < 4 → a ≠ b → (TX6 a).2.1 ≠ (TX6 b).2.1 := by decide +kernel
theorem tyX6_ok : ∀ k, k < 4 → parseFieldDescriptor (TX6 k).2.2.1 = some (tyX6 k) := by decide +kernel
abbrev cX6_init : ByteArray := prog_8_method_1_code
def yX6_init : MethodName := ⟨RX6, "<init>", "()V"⟩
abbrev cX6_renew : ByteArray := prog_8_method_2_code
def yX6_renew : MethodName := ⟨RX6, "renew", "(II)V"⟩
abbrev cX6_hasCells : ByteArray := prog_8_method_3_code
def yX6_hasCells : MethodName := ⟨RX6, "hasCells", "(II)Z"⟩
abbrev cX6_read : ByteArray := prog_8_method_4_code
def yX6_read : MethodName := ⟨RX6, "read", "(I)I"⟩
abbrev cX6_write : ByteArray := prog_8_method_5_code
def yX6_write : MethodName := ⟨RX6, "write", "(II)V"⟩
abbrev cX6_cut : ByteArray := prog_8_method_6_code
def yX6_cut : MethodName := ⟨RX6, "cut", "(I)I"⟩
def RX7 : String := "StepBack$Trace"
def TX7 : u_T := fun k => match k with
  | _ => ("StepBack$Trace", "value", "I", false)
def tyX7 : Nat → FieldType := fun k => match k with
  | _ => .int
theorem nmX7 : ∀ a, a < 1 → ∀ b, b < 1 → a ≠ b → (TX7 a).2.1 ≠ (TX7 b).2.1 := by decide +kernel
theorem tyX7_ok : ∀ k, k < 1 → parseFieldDescriptor (TX7 k).2.2.1 = some (tyX7 k) := by decide +kernel
abbrev cX7_init : ByteArray := prog_9_method_1_code
def yX7_init : MethodName := ⟨RX7, "<init>", "()V"⟩
abbrev cX7_leave : ByteArray := prog_9_method_2_code
def yX7_leave : MethodName := ⟨RX7, "leave", "(I)V"⟩
def RX8 : String := "StepBack"
def TX8 : u_T := fun k => match k with
  | 0 => ("StepBack", "sheets", "[LStepBack$Row;", true)
  | 1 => ("StepBack", "people", "[LStepBack$Plain;", true)
  | 2 => ("StepBack", "mays", "[I", true)
  | 3 => ("StepBack", "lift", "LStepBack$Lift;", true)
  | 4 => ("StepBack", "debts", "LStepBack$Debts;", true)
  | 5 => ("StepBack", "readings", "LStepBack$Readings;", true)
  | 6 => ("StepBack", "traceLeft", "LStepBack$Trace;", true)
  | 7 => ("StepBack", "count", "I", false)
  | 8 => ("StepBack", "ground", "I", false)
  | 9 => ("StepBack", "there", "I", false)
  | 10 => ("StepBack", "mornings", "I", false)
  | _ => ("StepBack", "latestFault", "I", false)
def tyX8 : Nat → FieldType := fun k => match k with
  | 0 => .array (.object "StepBack$Row")
  | 1 => .array (.object "StepBack$Plain")
  | 2 => .array .int
  | 3 => .object "StepBack$Lift"
  | 4 => .object "StepBack$Debts"
  | 5 => .object "StepBack$Readings"
  | 6 => .object "StepBack$Trace"
  | 7 => .int
  | 8 => .int
  | 9 => .int
  | 10 => .int
  | _ => .int
theorem nmX8 : ∀ a, a < 12 → ∀ b, b < 12 → a ≠ b → (TX8 a).2.1 ≠ (TX8 b).2.1 := by decide +kernel
theorem tyX8_ok : ∀ k, k < 12 → parseFieldDescriptor (TX8 k).2.2.1 = some (tyX8 k) := by decide +kernel
abbrev cX8_init : ByteArray := prog_1_method_1_code
def yX8_init : MethodName := ⟨RX8, "<init>", "()V"⟩
abbrev cX8_line : ByteArray := prog_1_method_2_code
def yX8_line : MethodName := ⟨RX8, "line", "(IIII)I"⟩
abbrev cX8_ofPerson : ByteArray := prog_1_method_3_code
def yX8_ofPerson : MethodName := ⟨RX8, "ofPerson", "(II)I"⟩
abbrev cX8_hurry : ByteArray := prog_1_method_4_code
def yX8_hurry : MethodName := ⟨RX8, "hurry", "(II)I"⟩
abbrev cX8_wall : ByteArray := prog_1_method_5_code
def yX8_wall : MethodName := ⟨RX8, "wall", "(II)I"⟩
abbrev cX8_lease : ByteArray := prog_1_method_6_code
def yX8_lease : MethodName := ⟨RX8, "lease", "(I)I"⟩
abbrev cX8_go : ByteArray := prog_1_method_7_code
def yX8_go : MethodName := ⟨RX8, "go", "()I"⟩
abbrev cX8_morning : ByteArray := prog_1_method_8_code
def yX8_morning : MethodName := ⟨RX8, "morning", "()I"⟩
abbrev cX8_owes : ByteArray := prog_1_method_9_code
def yX8_owes : MethodName := ⟨RX8, "owes", "(II)I"⟩
abbrev cX8_pays : ByteArray := prog_1_method_10_code
def yX8_pays : MethodName := ⟨RX8, "pays", "(III)I"⟩
abbrev cX8_calls : ByteArray := prog_1_method_11_code
def yX8_calls : MethodName := ⟨RX8, "calls", "(IIIII)I"⟩
abbrev cX8_order : ByteArray := prog_1_method_12_code
def yX8_order : MethodName := ⟨RX8, "order", "(II)I"⟩
abbrev cX8_loss : ByteArray := prog_1_method_13_code
def yX8_loss : MethodName := ⟨RX8, "loss", "(I)I"⟩
abbrev cX8_let : ByteArray := prog_1_method_14_code
def yX8_let : MethodName := ⟨RX8, "let", "(II)I"⟩
abbrev cX8_balance : ByteArray := prog_1_method_15_code
def yX8_balance : MethodName := ⟨RX8, "balance", "(I)I"⟩
abbrev cX8_cleared : ByteArray := prog_1_method_16_code
def yX8_cleared : MethodName := ⟨RX8, "cleared", "(I)I"⟩
abbrev cX8_were : ByteArray := prog_1_method_17_code
def yX8_were : MethodName := ⟨RX8, "were", "(III)I"⟩
abbrev cX8_reading : ByteArray := prog_1_method_18_code
def yX8_reading : MethodName := ⟨RX8, "reading", "(III)I"⟩
abbrev cX8_back : ByteArray := prog_1_method_19_code
def yX8_back : MethodName := ⟨RX8, "back", "(I)I"⟩
abbrev cX8_hastes : ByteArray := prog_1_method_20_code
def yX8_hastes : MethodName := ⟨RX8, "hastes", "(I)I"⟩
abbrev cX8_rooms : ByteArray := prog_1_method_21_code
def yX8_rooms : MethodName := ⟨RX8, "rooms", "(I)I"⟩
abbrev cX8_kinds : ByteArray := prog_1_method_22_code
def yX8_kinds : MethodName := ⟨RX8, "kinds", "(I)I"⟩
abbrev cX8_odds : ByteArray := prog_1_method_23_code
def yX8_odds : MethodName := ⟨RX8, "odds", "(II)J"⟩
abbrev cX8_sheet : ByteArray := prog_1_method_24_code
def yX8_sheet : MethodName := ⟨RX8, "sheet", "(III)I"⟩
abbrev cX8_lose : ByteArray := prog_1_method_25_code
def yX8_lose : MethodName := ⟨RX8, "lose", "(I)I"⟩
abbrev cX8_put : ByteArray := prog_1_method_26_code
def yX8_put : MethodName := ⟨RX8, "put", "(III)I"⟩
abbrev cX8_cell : ByteArray := prog_1_method_27_code
def yX8_cell : MethodName := ⟨RX8, "cell", "(III)J"⟩
abbrev cX8_copy : ByteArray := prog_1_method_28_code
def yX8_copy : MethodName := ⟨RX8, "copy", "(IIIII)I"⟩
abbrev cX8_tell : ByteArray := prog_1_method_29_code
def yX8_tell : MethodName := ⟨RX8, "tell", "(I)I"⟩
abbrev cX8_hear : ByteArray := prog_1_method_30_code
def yX8_hear : MethodName := ⟨RX8, "hear", "(I)I"⟩
abbrev cX8_as : ByteArray := prog_1_method_31_code
def yX8_as : MethodName := ⟨RX8, "as", "(II)I"⟩
abbrev cX8_trace : ByteArray := prog_1_method_32_code
def yX8_trace : MethodName := ⟨RX8, "trace", "()I"⟩
abbrev cX8_fault : ByteArray := prog_1_method_33_code
def yX8_fault : MethodName := ⟨RX8, "fault", "()I"⟩
abbrev cX8_many : ByteArray := prog_1_method_34_code
def yX8_many : MethodName := ⟨RX8, "many", "(I)I"⟩
abbrev cX8_isWithin : ByteArray := prog_1_method_35_code
def yX8_isWithin : MethodName := ⟨RX8, "isWithin", "(III)Z"⟩
abbrev cX8_isLane : ByteArray := prog_1_method_36_code
def yX8_isLane : MethodName := ⟨RX8, "isLane", "(I)Z"⟩
abbrev cX8_bit : ByteArray := prog_1_method_37_code
def yX8_bit : MethodName := ⟨RX8, "bit", "(I)I"⟩
abbrev cX8_has : ByteArray := prog_1_method_38_code
def yX8_has : MethodName := ⟨RX8, "has", "(II)Z"⟩
abbrev cX8_everybody : ByteArray := prog_1_method_39_code
def yX8_everybody : MethodName := ⟨RX8, "everybody", "()I"⟩
abbrev cX8_sheetAt : ByteArray := prog_1_method_40_code
def yX8_sheetAt : MethodName := ⟨RX8, "sheetAt", "(I)LStepBack$Row;"⟩
abbrev cX8_personAt : ByteArray := prog_1_method_41_code
def yX8_personAt : MethodName := ⟨RX8, "personAt", "(I)LStepBack$Plain;"⟩
abbrev cX8_areTwo : ByteArray := prog_1_method_42_code
def yX8_areTwo : MethodName := ⟨RX8, "areTwo", "(II)Z"⟩
abbrev cX8_faulted : ByteArray := prog_1_method_43_code
def yX8_faulted : MethodName := ⟨RX8, "faulted", "(I)I"⟩
abbrev cX8_faultOfTaking : ByteArray := prog_1_method_44_code
def yX8_faultOfTaking : MethodName := ⟨RX8, "faultOfTaking", "(LStepBack$Row;III)I"⟩
abbrev cX8_isOneOf : ByteArray := prog_1_method_45_code
def yX8_isOneOf : MethodName := ⟨RX8, "isOneOf", "(LStepBack$Plain;I)Z"⟩
abbrev cX8_wouldGo : ByteArray := prog_1_method_46_code
def yX8_wouldGo : MethodName := ⟨RX8, "wouldGo", "(II)I"⟩
abbrev cX8_mayGo : ByteArray := prog_1_method_47_code
def yX8_mayGo : MethodName := ⟨RX8, "mayGo", "(III)I"⟩
abbrev cX8_maysNow : ByteArray := prog_1_method_48_code
def yX8_maysNow : MethodName := ⟨RX8, "maysNow", "()[I"⟩
abbrev cX8_hasteOf : ByteArray := prog_1_method_49_code
def yX8_hasteOf : MethodName := ⟨RX8, "hasteOf", "(I)I"⟩
abbrev cX8_firstFault : ByteArray := prog_1_method_50_code
def yX8_firstFault : MethodName := ⟨RX8, "firstFault", "(LStepBack$Row;II)I"⟩
abbrev cX8_isFit : ByteArray := prog_1_method_51_code
def yX8_isFit : MethodName := ⟨RX8, "isFit", "(II)Z"⟩
abbrev cX8_isDigit : ByteArray := prog_1_method_52_code
def yX8_isDigit : MethodName := ⟨RX8, "isDigit", "(I)Z"⟩
abbrev cX8_takeText : ByteArray := prog_1_method_53_code
def yX8_takeText : MethodName := ⟨RX8, "takeText", "(LStepBack$Row;II)V"⟩
abbrev cX8_newPerson : ByteArray := prog_1_method_54_code
def yX8_newPerson : MethodName := ⟨RX8, "newPerson", "(IIII)LStepBack$Plain;"⟩
abbrev cX8_allNameSomebody : ByteArray := prog_1_method_55_code
def yX8_allNameSomebody : MethodName := ⟨RX8, "allNameSomebody", "(LStepBack$Row;II)Z"⟩
abbrev cX8_callsTold : ByteArray := prog_1_method_56_code
def yX8_callsTold : MethodName := ⟨RX8, "callsTold", "(LStepBack$Row;III)I"⟩
abbrev cX8_howManyGoOn : ByteArray := prog_1_method_57_code
def yX8_howManyGoOn : MethodName := ⟨RX8, "howManyGoOn", "([III)I"⟩
abbrev cX8_lossOfOrder : ByteArray := prog_1_method_58_code
def yX8_lossOfOrder : MethodName := ⟨RX8, "lossOfOrder", "()I"⟩
abbrev cX8_leastLoss : ByteArray := prog_1_method_59_code
def yX8_leastLoss : MethodName := ⟨RX8, "leastLoss", "()I"⟩
def RX9 : String := "StepBackModel"
def TX9 : u_T := fun k => match k with
  | 0 => ("StepBackModel", "fault", "I", false)
  | 1 => ("StepBackModel", "trace", "I", false)
  | 2 => ("StepBackModel", "sorts", "[I", true)
  | 3 => ("StepBackModel", "sheetLong", "[I", true)
  | 4 => ("StepBackModel", "cells", "[I", true)
  | 5 => ("StepBackModel", "people", "I", false)
  | 6 => ("StepBackModel", "ground", "I", false)
  | 7 => ("StepBackModel", "isThere", "I", false)
  | 8 => ("StepBackModel", "mornings", "I", false)
  | 9 => ("StepBackModel", "kind", "[I", true)
  | 10 => ("StepBackModel", "haste", "[I", true)
  | 11 => ("StepBackModel", "room", "[I", true)
  | 12 => ("StepBackModel", "owed", "[I", true)
  | 13 => ("StepBackModel", "at", "I", false)
  | 14 => ("StepBackModel", "readGround", "I", false)
  | 15 => ("StepBackModel", "readPeople", "I", false)
  | 16 => ("StepBackModel", "read", "[I", true)
  | 17 => ("StepBackModel", "far", "I", false)
  | 18 => ("StepBackModel", "heads", "I", false)
  | 19 => ("StepBackModel", "second", "I", false)
  | 20 => ("StepBackModel", "orderWho", "[I", true)
  | 21 => ("StepBackModel", "orderFar", "[I", true)
  | 22 => ("StepBackModel", "orderLong", "I", false)
  | 23 => ("StepBackModel", "groups", "[I", true)
  | 24 => ("StepBackModel", "readings", "I", false)
  | 25 => ("StepBackModel", "readWho", "[I", true)
  | 26 => ("StepBackModel", "readFar", "[I", true)
  | _ => ("StepBackModel", "readOn", "[I", true)
def tyX9 : Nat → FieldType := fun k => match k with
  | 0 => .int
  | 1 => .int
  | 2 => .array .int
  | 3 => .array .int
  | 4 => .array .int
  | 5 => .int
  | 6 => .int
  | 7 => .int
  | 8 => .int
  | 9 => .array .int
  | 10 => .array .int
  | 11 => .array .int
  | 12 => .array .int
  | 13 => .int
  | 14 => .int
  | 15 => .int
  | 16 => .array .int
  | 17 => .int
  | 18 => .int
  | 19 => .int
  | 20 => .array .int
  | 21 => .array .int
  | 22 => .int
  | 23 => .array .int
  | 24 => .int
  | 25 => .array .int
  | 26 => .array .int
  | _ => .array .int
theorem nmX9 : ∀ a, a < 28 → ∀ b, b < 28 → a ≠ b → (TX9 a).2.1 ≠ (TX9 b).2.1 := by decide +kernel
theorem tyX9_ok : ∀ k, k < 28 → parseFieldDescriptor (TX9 k).2.2.1 = some (tyX9 k) := by decide +kernel
abbrev cX9_init : ByteArray := prog_11_method_1_code
def yX9_init : MethodName := ⟨RX9, "<init>", "()V"⟩
abbrev cX9_fails : ByteArray := prog_11_method_3_code
def yX9_fails : MethodName := ⟨RX9, "fails", "(I)I"⟩
abbrev cX9_lost : ByteArray := prog_11_method_4_code
def yX9_lost : MethodName := ⟨RX9, "lost", "(I)J"⟩
abbrev cX9_within : ByteArray := prog_11_method_5_code
def yX9_within : MethodName := ⟨RX9, "within", "(III)Z"⟩
abbrev cX9_isSheet : ByteArray := prog_11_method_6_code
def yX9_isSheet : MethodName := ⟨RX9, "isSheet", "(I)Z"⟩
abbrev cX9_isSort : ByteArray := prog_11_method_7_code
def yX9_isSort : MethodName := ⟨RX9, "isSort", "(I)Z"⟩
abbrev cX9_against : ByteArray := prog_11_method_8_code
def yX9_against : MethodName := ⟨RX9, "against", "(IIII)I"⟩
abbrev cX9_isPerson : ByteArray := prog_11_method_9_code
def yX9_isPerson : MethodName := ⟨RX9, "isPerson", "(I)Z"⟩
abbrev cX9_isOf : ByteArray := prog_11_method_10_code
def yX9_isOf : MethodName := ⟨RX9, "isOf", "(II)Z"⟩
abbrev cX9_size : ByteArray := prog_11_method_11_code
def yX9_size : MethodName := ⟨RX9, "size", "(I)I"⟩
abbrev cX9_digit : ByteArray := prog_11_method_12_code
def yX9_digit : MethodName := ⟨RX9, "digit", "(I)I"⟩
abbrev cX9_isSign : ByteArray := prog_11_method_13_code
def yX9_isSign : MethodName := ⟨RX9, "isSign", "(II)Z"⟩
abbrev cX9_line : ByteArray := prog_11_method_14_code
def yX9_line : MethodName := ⟨RX9, "line", "(IIII)I"⟩
abbrev cX9_takeLine : ByteArray := prog_11_method_15_code
def yX9_takeLine : MethodName := ⟨RX9, "takeLine", "()V"⟩
abbrev cX9_readLine : ByteArray := prog_11_method_16_code
def yX9_readLine : MethodName := ⟨RX9, "readLine", "(I)Z"⟩
abbrev cX9_readPerson : ByteArray := prog_11_method_17_code
def yX9_readPerson : MethodName := ⟨RX9, "readPerson", "(I)Z"⟩
abbrev cX9_wouldOf : ByteArray := prog_11_method_18_code
def yX9_wouldOf : MethodName := ⟨RX9, "wouldOf", "(I)I"⟩
abbrev cX9_mayOf : ByteArray := prog_11_method_19_code
def yX9_mayOf : MethodName := ⟨RX9, "mayOf", "(I)I"⟩
abbrev cX9_sumOf : ByteArray := prog_11_method_20_code
def yX9_sumOf : MethodName := ⟨RX9, "sumOf", "(IZ)I"⟩
abbrev cX9_ofPerson : ByteArray := prog_11_method_21_code
def yX9_ofPerson : MethodName := ⟨RX9, "ofPerson", "(II)I"⟩
abbrev cX9_hurry : ByteArray := prog_11_method_22_code
def yX9_hurry : MethodName := ⟨RX9, "hurry", "(II)I"⟩
abbrev cX9_wall : ByteArray := prog_11_method_23_code
def yX9_wall : MethodName := ⟨RX9, "wall", "(II)I"⟩
abbrev cX9_lease : ByteArray := prog_11_method_24_code
def yX9_lease : MethodName := ⟨RX9, "lease", "(I)I"⟩
abbrev cX9_callOf : ByteArray := prog_11_method_25_code
def yX9_callOf : MethodName := ⟨RX9, "callOf", "(I)I"⟩
abbrev cX9_leastOf : ByteArray := prog_11_method_26_code
def yX9_leastOf : MethodName := ⟨RX9, "leastOf", "(I)I"⟩
abbrev cX9_go : ByteArray := prog_11_method_27_code
def yX9_go : MethodName := ⟨RX9, "go", "()I"⟩
abbrev cX9_morning : ByteArray := prog_11_method_28_code
def yX9_morning : MethodName := ⟨RX9, "morning", "()I"⟩
abbrev cX9_areTwo : ByteArray := prog_11_method_29_code
def yX9_areTwo : MethodName := ⟨RX9, "areTwo", "(II)Z"⟩
abbrev cX9_owes : ByteArray := prog_11_method_30_code
def yX9_owes : MethodName := ⟨RX9, "owes", "(II)I"⟩
abbrev cX9_pays : ByteArray := prog_11_method_31_code
def yX9_pays : MethodName := ⟨RX9, "pays", "(III)I"⟩
abbrev cX9_goCalls : ByteArray := prog_11_method_32_code
def yX9_goCalls : MethodName := ⟨RX9, "goCalls", "(II)I"⟩
abbrev cX9_calls : ByteArray := prog_11_method_33_code
def yX9_calls : MethodName := ⟨RX9, "calls", "(IIIII)I"⟩
abbrev cX9_wouldGoOn : ByteArray := prog_11_method_34_code
def yX9_wouldGoOn : MethodName := ⟨RX9, "wouldGoOn", "()I"⟩
abbrev cX9_findOrder : ByteArray := prog_11_method_35_code
def yX9_findOrder : MethodName := ⟨RX9, "findOrder", "()V"⟩
abbrev cX9_order : ByteArray := prog_11_method_36_code
def yX9_order : MethodName := ⟨RX9, "order", "(II)I"⟩
abbrev cX9_leastLoss : ByteArray := prog_11_method_37_code
def yX9_leastLoss : MethodName := ⟨RX9, "leastLoss", "()I"⟩
abbrev cX9_loss : ByteArray := prog_11_method_38_code
def yX9_loss : MethodName := ⟨RX9, "loss", "(I)I"⟩
abbrev cX9_let : ByteArray := prog_11_method_39_code
def yX9_let : MethodName := ⟨RX9, "let", "(II)I"⟩
abbrev cX9_balanceOf : ByteArray := prog_11_method_40_code
def yX9_balanceOf : MethodName := ⟨RX9, "balanceOf", "(I)I"⟩
abbrev cX9_balance : ByteArray := prog_11_method_41_code
def yX9_balance : MethodName := ⟨RX9, "balance", "(I)I"⟩
abbrev cX9_isEven : ByteArray := prog_11_method_42_code
def yX9_isEven : MethodName := ⟨RX9, "isEven", "(I)Z"⟩
abbrev cX9_mostGroups : ByteArray := prog_11_method_43_code
def yX9_mostGroups : MethodName := ⟨RX9, "mostGroups", "(I)I"⟩
abbrev cX9_cleared : ByteArray := prog_11_method_44_code
def yX9_cleared : MethodName := ⟨RX9, "cleared", "(I)I"⟩
abbrev cX9_were : ByteArray := prog_11_method_45_code
def yX9_were : MethodName := ⟨RX9, "were", "(III)I"⟩
abbrev cX9_reading : ByteArray := prog_11_method_46_code
def yX9_reading : MethodName := ⟨RX9, "reading", "(III)I"⟩
abbrev cX9_back : ByteArray := prog_11_method_47_code
def yX9_back : MethodName := ⟨RX9, "back", "(I)I"⟩
abbrev cX9_areSo : ByteArray := prog_11_method_48_code
def yX9_areSo : MethodName := ⟨RX9, "areSo", "()Z"⟩
abbrev cX9_hastes : ByteArray := prog_11_method_49_code
def yX9_hastes : MethodName := ⟨RX9, "hastes", "(I)I"⟩
abbrev cX9_rooms : ByteArray := prog_11_method_50_code
def yX9_rooms : MethodName := ⟨RX9, "rooms", "(I)I"⟩
abbrev cX9_kinds : ByteArray := prog_11_method_51_code
def yX9_kinds : MethodName := ⟨RX9, "kinds", "(I)I"⟩
abbrev cX9_inLeastTerms : ByteArray := prog_11_method_52_code
def yX9_inLeastTerms : MethodName := ⟨RX9, "inLeastTerms", "(JJI)J"⟩
abbrev cX9_odds : ByteArray := prog_11_method_53_code
def yX9_odds : MethodName := ⟨RX9, "odds", "(II)J"⟩
abbrev cX9_sheet : ByteArray := prog_11_method_54_code
def yX9_sheet : MethodName := ⟨RX9, "sheet", "(III)I"⟩
abbrev cX9_lose : ByteArray := prog_11_method_55_code
def yX9_lose : MethodName := ⟨RX9, "lose", "(I)I"⟩
abbrev cX9_put : ByteArray := prog_11_method_56_code
def yX9_put : MethodName := ⟨RX9, "put", "(III)I"⟩
abbrev cX9_cell : ByteArray := prog_11_method_57_code
def yX9_cell : MethodName := ⟨RX9, "cell", "(III)J"⟩
abbrev cX9_copy : ByteArray := prog_11_method_58_code
def yX9_copy : MethodName := ⟨RX9, "copy", "(IIIII)I"⟩
abbrev cX9_begins : ByteArray := prog_11_method_59_code
def yX9_begins : MethodName := ⟨RX9, "begins", "(I)V"⟩
abbrev cX9_tell : ByteArray := prog_11_method_60_code
def yX9_tell : MethodName := ⟨RX9, "tell", "(I)I"⟩
abbrev cX9_hear : ByteArray := prog_11_method_61_code
def yX9_hear : MethodName := ⟨RX9, "hear", "(I)I"⟩
abbrev cX9_as : ByteArray := prog_11_method_62_code
def yX9_as : MethodName := ⟨RX9, "as", "(II)I"⟩
abbrev cX9_trace : ByteArray := prog_11_method_63_code
def yX9_trace : MethodName := ⟨RX9, "trace", "()I"⟩
abbrev cX9_fault : ByteArray := prog_11_method_64_code
def yX9_fault : MethodName := ⟨RX9, "fault", "()I"⟩
abbrev cX9_many : ByteArray := prog_11_method_65_code
def yX9_many : MethodName := ⟨RX9, "many", "(I)I"⟩
def RJ6 : String := "java/lang/Integer"
def TJ6 : u_T := fun k => match k with
  | _ => ("", "", "", false)
def tyJ6 : Nat → FieldType := fun k => match k with
  | _ => .int
abbrev cJ6_bitCount_0f7a4 : ByteArray := prog_12_method_49_code
def yJ6_bitCount_0f7a4 : MethodName := ⟨RJ6, "bitCount", "(I)I"⟩
def RJ9 : String := "java/lang/Math"
def TJ9 : u_T := fun k => match k with
  | _ => ("", "", "", false)
def tyJ9 : Nat → FieldType := fun k => match k with
  | _ => .int
abbrev cJ9_max_7cf53 : ByteArray := prog_13_method_65_code
def yJ9_max_7cf53 : MethodName := ⟨RJ9, "max", "(II)I"⟩
abbrev cJ9_min_7cf53 : ByteArray := prog_13_method_69_code
def yJ9_min_7cf53 : MethodName := ⟨RJ9, "min", "(II)I"⟩
def RJ10 : String := "java/lang/System"
def TJ10 : u_T := fun k => match k with
  | _ => ("", "", "", false)
def tyJ10 : Nat → FieldType := fun k => match k with
  | _ => .int
def RL : String := "StepBackLaw"
abbrev cL_law : ByteArray := code
def yL_law : MethodName := ⟨RL, "law", "([I)Z"⟩
abbrev vwCl : List vw_C := [(RX0, TX0, 3), (RX1, TX1, 3), (RX2, TX2, 5), (RX3, TX3, 3), (RX4, TX4, 3), (RX5, TX5, 4), (RX6, TX6, 4), (RX7, TX7, 1), (RX8, TX8, 12), (RX9, TX9, 28)]
end
section
/-! a world by numbers: cells stand at places 0 .. n-1, references are places; 'ad' says where each place lies in the heap -/
abbrev aw_H : Type := Nat → va_E
def aw_mv (ad : Nat → Nat) : Value → Value
  | .ref a => .ref (ad a)
  | v => v
theorem aw_mv_cat (ad : Nat → Nat) (v : Value) : (aw_mv ad v).category = v.category := by cases v <;> rfl
def aw_px (ad : Nat → Nat) : ((Nat → Int32) ⊕ (Nat → Int64) ⊕ (Nat → UInt32) ⊕ (Nat → UInt64) ⊕ (Nat → Option Nat)) → ((Nat → Int32) ⊕ (Nat → Int64) ⊕ (Nat → UInt32) ⊕ (Nat → UInt64) ⊕ (Nat → Option Nat))
  | .inl f => .inl f
  | .inr (.inl f) => .inr (.inl f)
  | .inr (.inr (.inl f)) => .inr (.inr (.inl f))
  | .inr (.inr (.inr (.inl f))) => .inr (.inr (.inr (.inl f)))
  | .inr (.inr (.inr (.inr f))) => .inr (.inr (.inr (.inr (fun j => (f j).map ad))))
def aw_pe (tc : Nat → ClassId) (ad : Nat → Nat) : va_E → va_E
  | .inl q => .inl (tc q.1, q.2.1, aw_px ad q.2.2)
  | .inr q => .inr (q.1, q.2.map (aw_mv ad))
def aw_up (h : aw_H) (k : Nat) (e : va_E) : aw_H := fun j => if j = k then e else h j
def aw_ws (tc : Nat → ClassId) (ad : Nat → Nat) (n : Nat) (h : aw_H) : va_W := (List.range n).map (fun k => (ad k, aw_pe tc ad (h k)))
theorem aw_ws_at {tc : Nat → ClassId} {ad : Nat → Nat} {n : Nat} {h : aw_H} {k : Nat} (hk : k < n) : (aw_ws tc ad n h)[k]? = some (ad k, aw_pe tc ad (h k)) := by
  simp [aw_ws, hk]
theorem aw_ws_le {tc : Nat → ClassId} {ad : Nat → Nat} {n : Nat} {h : aw_H} {k : Nat} (hk : n ≤ k) : (aw_ws tc ad n h)[k]? = none := by
  simp [aw_ws, hk]
theorem aw_ws_len {tc : Nat → ClassId} {ad : Nat → Nat} {n : Nat} {h : aw_H} : (aw_ws tc ad n h).length = n := by simp [aw_ws]
theorem aw_ws_set {tc : Nat → ClassId} {ad : Nat → Nat} {n : Nat} {h : aw_H} {k : Nat} {e : va_E} : (aw_ws tc ad n h).set k (ad k, aw_pe tc ad e) = aw_ws tc ad n (aw_up h k e) := by
  apply List.ext_getElem?
  intro j
  rw [List.getElem?_set, aw_ws_len]
  by_cases hj : j < n
  · rw [aw_ws_at hj, aw_ws_at hj]
    by_cases e1 : k = j
    · subst e1
      simp [aw_up, hj]
    · have e2 : ¬ j = k := fun q => e1 q.symm
      simp [aw_up, e1, e2]
  · rw [aw_ws_le (Nat.not_lt.mp hj), aw_ws_le (Nat.not_lt.mp hj)]
    by_cases e1 : k = j
    · subst e1
      simp [hj]
    · simp [e1]
def aw_ty (tc : Nat → ClassId) : List (ClassId × FieldType) := [(tc 0, .int), (tc 1, .boolean), (tc 2, .object RX6), (tc 3, .object RX3), (tc 4, .array .int)]
def aw_nw : List Cond := [.methodLinkNest RX0 23 yX8_isWithin RX8, .methodLinkNest RX2 36 yX8_has RX8, .methodLinkNest RX2 44 yX8_bit RX8, .methodLinkNest RX0 53 yX8_has RX8, .methodLinkNest RX0 56 yX8_bit RX8, .methodLinkNest RX5 26 yX8_isWithin RX8, .castable RX1 RX4, .castable RX4 RX3, .castable RX1 RX3]
def aw_nc : List (String × String) := [(RX3, RX4), (RX4, RX1), (RX3, RX1)]
def aw_K (D : va_G) (tc : Nat → ClassId) (U : State) : Prop := va_K D vwCl (aw_ty tc) U ∧ (∀ w ∈ aw_nw, va_Nw w U) ∧ ∀ q ∈ aw_nc, va_Nc q.1 q.2 U
theorem aw_nw_on : ∀ w ∈ aw_nw, w.onTables = true := by
  intro w hw
  simp only [aw_nw, List.mem_cons, List.not_mem_nil, or_false] at hw
  rcases hw with rfl | rfl | rfl | rfl | rfl | rfl | rfl | rfl | rfl <;> rfl
theorem aw_K.warm {D : va_G} {tc : Nat → ClassId} {s U : State} (hW : s.WarmedH U.vm) (h : aw_K D tc s) : aw_K D tc U := by
  refine ⟨va_K.moved hW.alike h.1, fun w hw => ?_, fun q hq => va_Nc.moved hW.alike (h.2.2 q hq)⟩
  have h1 := h.2.1 w hw
  simp only [aw_nw, List.mem_cons, List.not_mem_nil, or_false] at hw
  rcases hw with rfl | rfl | rfl | rfl | rfl | rfl | rfl | rfl | rfl <;> first | exact va_Nw.warmM hW h1 | exact va_Nw.warmC hW h1
theorem aw_K.call {D : va_G} {tc : Nat → ClassId} {U : State} {g : JFrame} {mk : MethodId} {a : Array Value} (h : aw_K D tc U) : aw_K D tc (U.calling g mk a) :=
  ⟨va_K.moved (u := U) (U := U.calling g mk a) (Vm.Alike.refl U.vm) h.1, fun w hw => va_Nw.same (u := U) (U := U.calling g mk a) (aw_nw_on w hw) rfl (h.2.1 w hw), fun q hq => va_Nc.moved (u := U) (U := U.calling g mk a) (Vm.Alike.refl U.vm) (h.2.2 q hq)⟩
/-- the words that stay -/
def aw_gw : List Cond := lw_tbl.filter goodWord
theorem aw_in {w : Cond} (h : w ∈ lw_tbl) (hg : goodWord w = true) : w ∈ aw_gw := List.mem_filter.mpr ⟨h, hg⟩
theorem aw_at {w : Cond} (i : Nat) (h : lw_tbl[i]? = some w) (hg : goodWord w = true) : w ∈ aw_gw := aw_in (List.mem_of_getElem? h) hg
theorem aw_good {w : Cond} (h : w ∈ aw_gw) : GoodIn aw_gw (w :: aw_gw) := by
  intro v hv
  have hm : v ∈ aw_gw := by
    rcases List.mem_cons.mp hv with rfl | hv
    · exact h
    · exact hv
  exact ⟨hm, good_of_word (List.mem_filter.mp hm).2⟩
/-- locals -/
def aw_L (ad : Nat → Nat) (ls : Array Slot) (nL : Nat) (L : List (Option Value)) : Prop := ls.size = nL ∧ lv_wf ls ∧ ∀ (i : Nat) (v : Value), L[i]? = some (some v) → ls[i]? = some (.val (aw_mv ad v))
def aw_ll (ad : Nat → Nat) (L : List (Option Value)) : List (Nat × Value) := (List.range L.length).filterMap (fun i => (L[i]?.join).map (fun v => (i, aw_mv ad v)))
theorem aw_ll_mem {ad : Nat → Nat} {L : List (Option Value)} {q : Nat × Value} : q ∈ aw_ll ad L ↔ ∃ v, L[q.1]? = some (some v) ∧ q.2 = aw_mv ad v := by
  unfold aw_ll
  rw [List.mem_filterMap]
  constructor
  · rintro ⟨i, -, he⟩
    cases hL : L[i]? with
    | none => simp [hL] at he
    | some o =>
      cases o with
      | none => simp [hL] at he
      | some v =>
        simp [hL] at he
        subst he
        exact ⟨v, hL, rfl⟩
  · rintro ⟨v, h1, h2⟩
    refine ⟨q.1, List.mem_range.mpr (List.getElem?_eq_some_iff.mp h1).1, ?_⟩
    simp [h1, ← h2]
theorem aw_L.has {ad : Nat → Nat} {ls : Array Slot} {nL : Nat} {L : List (Option Value)} (h : aw_L ad ls nL L) : lv_has ls nL (aw_ll ad L) :=
  ⟨h.1, h.2.1, fun q hq => by
    obtain ⟨v, h1, h2⟩ := aw_ll_mem.mp hq
    rw [h2]
    exact h.2.2 _ _ h1⟩
def aw_ok (L : List (Option Value)) : Nat → Bool
  | 0 => true
  | j + 1 => match L[j]? with
    | some (some w) => w.category == 1
    | _ => true
theorem aw_ok_spec {L : List (Option Value)} {j i : Nat} {w : Value} (h : aw_ok L i = true) (hj : L[j]? = some (some w)) (e : j + 1 = i) : w.category = 1 := by
  subst e
  simpa [aw_ok, hj] using h
theorem aw_L.store1 {ad : Nat → Nat} {ls' : Array Slot} {nL : Nat} {L : List (Option Value)} {i : Nat} {v : Value} (ho : aw_ok L i = true) (h' : lv_has ls' nL ((i, aw_mv ad v) :: (aw_ll ad L).filter (fun q => !(q.1 == i) && !(q.1 + 1 == i && q.2.category == 2)))) : aw_L ad ls' nL (L.set i (some v)) := by
  refine ⟨h'.1, h'.2.1, fun j w hj => ?_⟩
  rw [List.getElem?_set] at hj
  by_cases e : i = j
  · subst e
    by_cases hl : i < L.length
    · simp [hl] at hj
      subst hj
      exact h'.2.2 _ List.mem_cons_self
    · simp [hl] at hj
  · rw [if_neg e] at hj
    refine h'.2.2 (j, aw_mv ad w) (List.mem_cons_of_mem _ (List.mem_filter.mpr ⟨aw_ll_mem.mpr ⟨w, hj, rfl⟩, ?_⟩))
    have e2 : ¬ j = i := fun q => e q.symm
    by_cases e3 : j + 1 = i
    · have := aw_ok_spec ho hj e3
      simp [e2, e3, aw_mv_cat, this]
    · simp [e2, e3]
theorem aw_L.store2 {ad : Nat → Nat} {ls' : Array Slot} {nL : Nat} {L : List (Option Value)} {i : Nat} {v : Value} (ho : aw_ok L i = true) (h' : lv_has ls' nL ((i, aw_mv ad v) :: (aw_ll ad L).filter (fun q => !(q.1 == i) && (!(q.1 == i + 1) && !(q.1 + 1 == i && q.2.category == 2))))) : aw_L ad ls' nL ((L.set i (some v)).set (i + 1) none) := by
  refine ⟨h'.1, h'.2.1, fun j w hj => ?_⟩
  rw [List.getElem?_set] at hj
  by_cases e0 : i + 1 = j
  · rw [if_pos e0] at hj
    split at hj <;> simp at hj
  rw [if_neg e0, List.getElem?_set] at hj
  by_cases e : i = j
  · subst e
    by_cases hl : i < L.length
    · simp [hl] at hj
      subst hj
      exact h'.2.2 _ List.mem_cons_self
    · simp [hl] at hj
  · rw [if_neg e] at hj
    refine h'.2.2 (j, aw_mv ad w) (List.mem_cons_of_mem _ (List.mem_filter.mpr ⟨aw_ll_mem.mpr ⟨w, hj, rfl⟩, ?_⟩))
    have e2 : ¬ j = i := fun q => e q.symm
    have e4 : ¬ j = i + 1 := fun q => e0 q.symm
    by_cases e3 : j + 1 = i
    · have := aw_ok_spec ho hj e3
      simp [e2, e3, e4, aw_mv_cat, this]
    · simp [e2, e3, e4]
def aw_ar : List Value → List (Option Value)
  | [] => []
  | v :: vs => if v.category = 2 then some v :: none :: aw_ar vs else some v :: aw_ar vs
theorem aw_ar_args (ad : Nat → Nat) : ∀ (av : List Value) (j i : Nat) (v : Value), (aw_ar av)[i]? = some (some v) → (j + i, aw_mv ad v) ∈ lv_args j (av.map (aw_mv ad))
  | [], j, i, v, h => by simp [aw_ar] at h
  | a :: as, j, i, v, h => by
    rw [List.map_cons, lv_args, aw_mv_cat]
    unfold aw_ar at h
    by_cases hc : a.category = 2
    · rw [if_pos hc] at h ⊢
      match i, h with
      | 0, h =>
        simp at h
        subst h
        exact List.mem_cons_self
      | 1, h => simp at h
      | i + 2, h =>
        have h1 : (aw_ar as)[i]? = some (some v) := by simpa using h
        have := aw_ar_args ad as (j + 2) i v h1
        rw [show j + (i + 2) = j + 2 + i by omega]
        exact List.mem_cons_of_mem _ this
    · rw [if_neg hc] at h ⊢
      match i, h with
      | 0, h =>
        simp at h
        subst h
        exact List.mem_cons_self
      | i + 1, h =>
        have h1 : (aw_ar as)[i]? = some (some v) := by simpa using h
        have := aw_ar_args ad as (j + 1) i v h1
        rw [show j + (i + 1) = j + 1 + i by omega]
        exact List.mem_cons_of_mem _ this
theorem aw_ar_sl (ad : Nat → Nat) : ∀ av : List Value, (lg_sl (av.map (aw_mv ad))).length = (aw_ar av).length
  | [] => rfl
  | a :: as => by
    have ih := aw_ar_sl ad as
    unfold lg_sl at ih
    rw [List.map_cons]
    unfold lg_sl aw_ar
    rw [List.flatMap_cons, List.length_append, ih, aw_mv_cat]
    by_cases hc : a.category = 2
    · simp [hc]; omega
    · simp [hc]; omega
/-- a method's end -/
def aw_Q (D : va_G) (tc : Nat → ClassId) (n0 : Nat) (ad0 : Nat → Nat) (A : Nat → Prop) (Q : Option Value → Nat → aw_H → Prop) : Array Value → State → Outcome → State → Prop := fun _ st o t =>
  (∃ (v : Option Value) (n' : Nat) (h' : aw_H) (ad' : Nat → Nat), o = .returned (v.map (aw_mv ad')) ∧ Q v n' h' ∧ n0 ≤ n' ∧ (∀ k, ¬ (n0 ≤ k ∧ k < n') → ad' k = ad0 k) ∧ va_P D vwCl (aw_ws tc ad' n' h') t.heap ∧ va_D A (aw_ws tc ad' n' h')) ∧ va_F A st t
/-- what stays through a method -/
def aw_X (D : va_G) (tc : Nat → ClassId) (own : String) (cc : ByteArray) (nL : Nat) (ret : Option FieldType) (p : Program) (s : State) (m : MethodId) (args : Array Value) (meth : Method) (c : Code) (A : Nat → Prop) : Prop :=
  p.tables.exec = Jvm.exec ∧ c.code = cc ∧ meth.sig.returnType = ret ∧ c.maxLocals = nL ∧ s.vm.findClass own = some m.cls ∧ (∀ w ∈ aw_gw, w.before args s = true) ∧ meth.locks = false ∧ aw_K D tc s ∧ ∀ q, s.heap.size ≤ q → A q
/-- what moves -/
def aw_Y (D : va_G) (tc : Nat → ClassId) (nL n0 : Nat) (s : State) (A : Nat → Prop) (ad ad0 : Nat → Nat) (H : Heap) (locs : List Loc) (ls : Array Slot) (L : List (Option Value)) (n : Nat) (h : aw_H) : Prop :=
  n0 ≤ n ∧ (∀ k, ¬ (n0 ≤ k ∧ k < n) → ad k = ad0 k) ∧ va_P D vwCl (aw_ws tc ad n h) H ∧ va_D A (aw_ws tc ad n h) ∧ va_S A s.heap H locs ∧ aw_L ad ls nL L
def AW (l : Launch) (D : va_G) (tc : Nat → ClassId) (own : String) (cc : ByteArray) (nL : Nat) (ret : Option FieldType) (R : Room) (n0 mc ms : Nat) (Q : Option Value → Nat → aw_H → Prop) (pc : Nat) (L : List (Option Value)) (st : List Value) (n : Nat) (h : aw_H) (cells slots : Nat) : Prop :=
  ∀ (p : Program) (e : Env) (s : State) (m : MethodId) (args : Array Value) (below : List Frame) (meth : Method) (c : Code) (H : Heap) (locs : List Loc) (ls : Array Slot) (A : Nat → Prop) (ad ad0 : Nat → Nat),
    aw_X D tc own cc nL ret p s m args meth c A → aw_Y D tc nL n0 s A ad ad0 H locs ls L n h →
    W p l e R s m args below meth c H locs cells slots (MQ below (aw_Q D tc n0 ad0 A Q) args s mc ms A) (F0 m pc ls (st.map (aw_mv ad)))
/-- a method's contract -/
def AM (l : Launch) (D : va_G) (tc : Nat → ClassId) (y : MethodName) (cc : ByteArray) (nL : Nat) (ret : Option FieldType) (fr lo mc ms : Nat) (av : List Value) (n : Nat) (h : aw_H) (Q : Option Value → Nat → aw_H → Prop) : Prop :=
  ∀ (ad : Nat → Nat) (A : Nat → Prop) (sz : Nat), (∀ q, sz ≤ q → A q) →
    Met l y (.code y cc nL ret :: aw_gw) { frames := fr, cells := mc, slots := ms, locals := lo } (fun v U => v = (av.map (aw_mv ad)).toArray ∧ U.heap.size = sz ∧ aw_K D tc U ∧ va_P D vwCl (aw_ws tc ad n h) U.heap ∧ va_D A (aw_ws tc ad n h)) (aw_Q D tc n ad A Q) mc ms A
theorem aw_blind {D : va_G} {tc : Nat → ClassId} {av : List Value} {ad : Nat → Nat} {A : Nat → Prop} {sz n : Nat} {h : aw_H} : FrameBlind (fun v U => v = (av.map (aw_mv ad)).toArray ∧ U.heap.size = sz ∧ aw_K D tc U ∧ va_P D vwCl (aw_ws tc ad n h) U.heap ∧ va_D A (aw_ws tc ad n h)) :=
  fun _ _ _ _ q => ⟨q.1, q.2.1, aw_K.call q.2.2.1, q.2.2.2.1, q.2.2.2.2⟩
section AWR
variable {l : Launch} {D : va_G} {tc : Nat → ClassId} {own : String} {cc : ByteArray} {nL : Nat} {ret : Option FieldType} {R : Room} {n0 mc ms : Nat} {Q : Option Value → Nat → aw_H → Prop} {pc : Nat} {L : List (Option Value)} {st rest : List Value} {n : Nat} {h : aw_H} {cells slots : Nat}
theorem am_of {y : MethodName} {fr lo : Nat} {av : List Value} (hy : plainName y.cls = true) (hlen : (aw_ar av).length ≤ nL) (hL : aw_ar av ++ List.replicate (nL - (aw_ar av).length) none = L)
    (k : AW l D tc y.cls cc nL ret { frames := fr, cells := mc, slots := ms, locals := lo } n mc ms Q 0 L [] n h 0 0) : AM l D tc y cc nL ret fr lo mc ms av n h Q := by
  intro ad A sz hA
  refine Met.ofW (cc := cc) (maxL := nL) (ret := ret) hy rfl ?_
  intro p e s m args below meth c s₁ B hml hv
  obtain ⟨rfl, hsz, hK, hP, hD⟩ := hv
  subst hsz
  have hl := lv_entry (av.map (aw_mv ad)) (n := nL) (by rw [aw_ar_sl]; exact hlen)
  rw [lg_entry_eq]
  refine k p e s m _ below meth c s.heap [] _ A ad ad ⟨B.exec, B.bytes, B.returns, hml, findClass_of_methodNamed B.named, fun w hw => atoms_spec (ws := .code y cc nL ret :: aw_gw) B.pre w (List.mem_cons_of_mem _ hw), B.notSynchronized, hK, hA⟩ ⟨Nat.le_refl _, fun _ _ => rfl, hP, hD, va_S.rf, hl.1, hl.2.1, fun i v hi => ?_⟩
  subst hL
  by_cases h1 : i < (aw_ar av).length
  · rw [List.getElem?_append_left h1] at hi
    have := hl.2.2 _ (aw_ar_args ad av 0 i v hi)
    simpa using this
  · rw [List.getElem?_append_right (by omega)] at hi
    have := List.mem_of_getElem? hi
    simp at this
theorem aw_pc {pc' : Nat} (e : pc = pc') (k : AW l D tc own cc nL ret R n0 mc ms Q pc' L st n h cells slots) : AW l D tc own cc nL ret R n0 mc ms Q pc L st n h cells slots := e ▸ k

theorem aw_iconst {z : Int} {v : Int32} (d : decode cc pc = .ok (.iconst z, 1)) (hv : Int32.ofInt z = v) (k : AW l D tc own cc nL ret R n0 mc ms Q (pc + 1) (L) (.int v :: rest) n h cells slots) : AW l D tc own cc nL ret R n0 mc ms Q (pc) (L) (rest) n h cells slots :=
  fun p e s m args below meth c H locs ls A ad ad0 X Y => lv_iconst X.1 X.2.1 d hv (k p e s m args below meth c H locs ls A ad ad0 X Y)
theorem aw_bipush {z : Int} {v : Int32} (d : decode cc pc = .ok (.bipush z, 2)) (hv : (Int8.ofInt z).toInt32 = v) (k : AW l D tc own cc nL ret R n0 mc ms Q (pc + 2) (L) (.int v :: rest) n h cells slots) : AW l D tc own cc nL ret R n0 mc ms Q (pc) (L) (rest) n h cells slots :=
  fun p e s m args below meth c H locs ls A ad ad0 X Y => lv_bipush X.1 X.2.1 d hv (k p e s m args below meth c H locs ls A ad ad0 X Y)
theorem aw_sipush {z : Int} {v : Int32} (d : decode cc pc = .ok (.sipush z, 3)) (hv : (Int16.ofInt z).toInt32 = v) (k : AW l D tc own cc nL ret R n0 mc ms Q (pc + 3) (L) (.int v :: rest) n h cells slots) : AW l D tc own cc nL ret R n0 mc ms Q (pc) (L) (rest) n h cells slots :=
  fun p e s m args below meth c H locs ls A ad ad0 X Y => lv_sipush X.1 X.2.1 d hv (k p e s m args below meth c H locs ls A ad ad0 X Y)
theorem aw_lconst {z : Fin 2} {v : Int64} (d : decode cc pc = .ok (.lconst z, 1)) (hv : Int64.ofNat (z : Nat) = v) (k : AW l D tc own cc nL ret R n0 mc ms Q (pc + 1) (L) (.long v :: rest) n h cells slots) : AW l D tc own cc nL ret R n0 mc ms Q (pc) (L) (rest) n h cells slots :=
  fun p e s m args below meth c H locs ls A ad ad0 X Y => lv_lconst X.1 X.2.1 d hv (k p e s m args below meth c H locs ls A ad ad0 X Y)
theorem aw_null  (d : decode cc pc = .ok (.aconst_null, 1)) (k : AW l D tc own cc nL ret R n0 mc ms Q (pc + 1) (L) (.null :: rest) n h cells slots) : AW l D tc own cc nL ret R n0 mc ms Q (pc) (L) (rest) n h cells slots :=
  fun p e s m args below meth c H locs ls A ad ad0 X Y => lv_null X.1 X.2.1 d (k p e s m args below meth c H locs ls A ad ad0 X Y)
theorem aw_ldc2 {idx : Nat} {v : Int64} (d : decode cc pc = .ok (.ldc2_w idx, 3)) (hw : Cond.constantLong own idx v ∈ aw_gw) (k : AW l D tc own cc nL ret R n0 mc ms Q (pc + 3) (L) (.long v :: rest) n h cells slots) : AW l D tc own cc nL ret R n0 mc ms Q (pc) (L) (rest) n h cells slots :=
  fun p e s m args below meth c H locs ls A ad ad0 X Y => lv_ldc2 X.1 X.2.1 X.2.2.2.2.1 (X.2.2.2.2.2.1 _ hw) d (k p e s m args below meth c H locs ls A ad ad0 X Y)
theorem aw_ldcw {idx : Nat} {v : Int32} (d : decode cc pc = .ok (.ldc_w idx, 3)) (hw : Cond.constant own idx v ∈ aw_gw) (k : AW l D tc own cc nL ret R n0 mc ms Q (pc + 3) (L) (.int v :: rest) n h cells slots) : AW l D tc own cc nL ret R n0 mc ms Q (pc) (L) (rest) n h cells slots :=
  fun p e s m args below meth c H locs ls A ad ad0 X Y => lv_ldcw X.1 X.2.1 X.2.2.2.2.1 (X.2.2.2.2.2.1 _ hw) d (k p e s m args below meth c H locs ls A ad ad0 X Y)
theorem aw_iload_n {k0 : Fin 4} {i : Nat} {x : Int32} (d : decode cc pc = .ok (.iload_n k0, 1)) (hi : (k0 : Nat) = i) (hv : L[i]? = some (some (.int x))) (k : AW l D tc own cc nL ret R n0 mc ms Q (pc + 1) (L) (.int x :: rest) n h cells slots) : AW l D tc own cc nL ret R n0 mc ms Q (pc) (L) (rest) n h cells slots :=
  fun p e s m args below meth c H locs ls A ad ad0 X Y => lv_iload_n X.1 X.2.1 d hi (Y.2.2.2.2.2.2.2 _ _ hv) (k p e s m args below meth c H locs ls A ad ad0 X Y)
theorem aw_iload {i : Nat} {x : Int32} (d : decode cc pc = .ok (.iload i, 2)) (hv : L[i]? = some (some (.int x))) (k : AW l D tc own cc nL ret R n0 mc ms Q (pc + 2) (L) (.int x :: rest) n h cells slots) : AW l D tc own cc nL ret R n0 mc ms Q (pc) (L) (rest) n h cells slots :=
  fun p e s m args below meth c H locs ls A ad ad0 X Y => lv_iload X.1 X.2.1 d (Y.2.2.2.2.2.2.2 _ _ hv) (k p e s m args below meth c H locs ls A ad ad0 X Y)
theorem aw_lload_n {k0 : Fin 4} {i : Nat} {x : Int64} (d : decode cc pc = .ok (.lload_n k0, 1)) (hi : (k0 : Nat) = i) (hv : L[i]? = some (some (.long x))) (k : AW l D tc own cc nL ret R n0 mc ms Q (pc + 1) (L) (.long x :: rest) n h cells slots) : AW l D tc own cc nL ret R n0 mc ms Q (pc) (L) (rest) n h cells slots :=
  fun p e s m args below meth c H locs ls A ad ad0 X Y => lv_lload_n X.1 X.2.1 d hi (Y.2.2.2.2.2.2.2 _ _ hv) (k p e s m args below meth c H locs ls A ad ad0 X Y)
theorem aw_lload {i : Nat} {x : Int64} (d : decode cc pc = .ok (.lload i, 2)) (hv : L[i]? = some (some (.long x))) (k : AW l D tc own cc nL ret R n0 mc ms Q (pc + 2) (L) (.long x :: rest) n h cells slots) : AW l D tc own cc nL ret R n0 mc ms Q (pc) (L) (rest) n h cells slots :=
  fun p e s m args below meth c H locs ls A ad ad0 X Y => lv_lload X.1 X.2.1 d (Y.2.2.2.2.2.2.2 _ _ hv) (k p e s m args below meth c H locs ls A ad ad0 X Y)
theorem aw_aload_n {k0 : Fin 4} {i : Nat} {x : Nat} (d : decode cc pc = .ok (.aload_n k0, 1)) (hi : (k0 : Nat) = i) (hv : L[i]? = some (some (.ref x))) (k : AW l D tc own cc nL ret R n0 mc ms Q (pc + 1) (L) (.ref x :: rest) n h cells slots) : AW l D tc own cc nL ret R n0 mc ms Q (pc) (L) (rest) n h cells slots :=
  fun p e s m args below meth c H locs ls A ad ad0 X Y => lv_aload_n X.1 X.2.1 d hi (Y.2.2.2.2.2.2.2 _ _ hv) (k p e s m args below meth c H locs ls A ad ad0 X Y)
theorem aw_aload {i : Nat} {x : Nat} (d : decode cc pc = .ok (.aload i, 2)) (hv : L[i]? = some (some (.ref x))) (k : AW l D tc own cc nL ret R n0 mc ms Q (pc + 2) (L) (.ref x :: rest) n h cells slots) : AW l D tc own cc nL ret R n0 mc ms Q (pc) (L) (rest) n h cells slots :=
  fun p e s m args below meth c H locs ls A ad ad0 X Y => lv_aload X.1 X.2.1 d (Y.2.2.2.2.2.2.2 _ _ hv) (k p e s m args below meth c H locs ls A ad ad0 X Y)
theorem aw_aload_nN {k0 : Fin 4} {i : Nat} (d : decode cc pc = .ok (.aload_n k0, 1)) (hi : (k0 : Nat) = i) (hv : L[i]? = some (some .null)) (k : AW l D tc own cc nL ret R n0 mc ms Q (pc + 1) (L) (.null :: rest) n h cells slots) : AW l D tc own cc nL ret R n0 mc ms Q (pc) (L) (rest) n h cells slots :=
  fun p e s m args below meth c H locs ls A ad ad0 X Y => lv_aload_nN X.1 X.2.1 d hi (Y.2.2.2.2.2.2.2 _ _ hv) (k p e s m args below meth c H locs ls A ad ad0 X Y)
theorem aw_aloadN {i : Nat} (d : decode cc pc = .ok (.aload i, 2)) (hv : L[i]? = some (some .null)) (k : AW l D tc own cc nL ret R n0 mc ms Q (pc + 2) (L) (.null :: rest) n h cells slots) : AW l D tc own cc nL ret R n0 mc ms Q (pc) (L) (rest) n h cells slots :=
  fun p e s m args below meth c H locs ls A ad ad0 X Y => lv_aloadN X.1 X.2.1 d (Y.2.2.2.2.2.2.2 _ _ hv) (k p e s m args below meth c H locs ls A ad ad0 X Y)
theorem aw_istore_n {k0 : Fin 4} {i : Nat} {x : Int32} (d : decode cc pc = .ok (.istore_n k0, 1)) (hi : (k0 : Nat) = i) (hb : i < nL) (ho : aw_ok L i = true) (k : AW l D tc own cc nL ret R n0 mc ms Q (pc + 1) (L.set i (some (.int x))) (rest) n h cells slots) : AW l D tc own cc nL ret R n0 mc ms Q (pc) (L) (.int x :: rest) n h cells slots :=
  fun p e s m args below meth c H locs ls A ad ad0 X Y => lv_istore_n X.1 X.2.1 d hi Y.2.2.2.2.2.has hb rfl (fun ls' h' => k p e s m args below meth c H locs ls' A ad ad0 X ⟨Y.1, Y.2.1, Y.2.2.1, Y.2.2.2.1, Y.2.2.2.2.1, aw_L.store1 (v := .int x) ho h'⟩)
theorem aw_istore {i : Nat} {x : Int32} (d : decode cc pc = .ok (.istore i, 2)) (hb : i < nL) (ho : aw_ok L i = true) (k : AW l D tc own cc nL ret R n0 mc ms Q (pc + 2) (L.set i (some (.int x))) (rest) n h cells slots) : AW l D tc own cc nL ret R n0 mc ms Q (pc) (L) (.int x :: rest) n h cells slots :=
  fun p e s m args below meth c H locs ls A ad ad0 X Y => lv_istore X.1 X.2.1 d Y.2.2.2.2.2.has hb rfl (fun ls' h' => k p e s m args below meth c H locs ls' A ad ad0 X ⟨Y.1, Y.2.1, Y.2.2.1, Y.2.2.2.1, Y.2.2.2.2.1, aw_L.store1 (v := .int x) ho h'⟩)
theorem aw_astore_n {k0 : Fin 4} {i : Nat} {x : Nat} (d : decode cc pc = .ok (.astore_n k0, 1)) (hi : (k0 : Nat) = i) (hb : i < nL) (ho : aw_ok L i = true) (k : AW l D tc own cc nL ret R n0 mc ms Q (pc + 1) (L.set i (some (.ref x))) (rest) n h cells slots) : AW l D tc own cc nL ret R n0 mc ms Q (pc) (L) (.ref x :: rest) n h cells slots :=
  fun p e s m args below meth c H locs ls A ad ad0 X Y => lv_astore_n X.1 X.2.1 d hi Y.2.2.2.2.2.has hb rfl (fun ls' h' => k p e s m args below meth c H locs ls' A ad ad0 X ⟨Y.1, Y.2.1, Y.2.2.1, Y.2.2.2.1, Y.2.2.2.2.1, aw_L.store1 (v := .ref x) ho h'⟩)
theorem aw_astore {i : Nat} {x : Nat} (d : decode cc pc = .ok (.astore i, 2)) (hb : i < nL) (ho : aw_ok L i = true) (k : AW l D tc own cc nL ret R n0 mc ms Q (pc + 2) (L.set i (some (.ref x))) (rest) n h cells slots) : AW l D tc own cc nL ret R n0 mc ms Q (pc) (L) (.ref x :: rest) n h cells slots :=
  fun p e s m args below meth c H locs ls A ad ad0 X Y => lv_astore X.1 X.2.1 d Y.2.2.2.2.2.has hb rfl (fun ls' h' => k p e s m args below meth c H locs ls' A ad ad0 X ⟨Y.1, Y.2.1, Y.2.2.1, Y.2.2.2.1, Y.2.2.2.2.1, aw_L.store1 (v := .ref x) ho h'⟩)
theorem aw_lstore_n {k0 : Fin 4} {i : Nat} {x : Int64} (d : decode cc pc = .ok (.lstore_n k0, 1)) (hi : (k0 : Nat) = i) (hb : i + 1 < nL) (ho : aw_ok L i = true) (k : AW l D tc own cc nL ret R n0 mc ms Q (pc + 1) ((L.set i (some (.long x))).set (i + 1) none) (rest) n h cells slots) : AW l D tc own cc nL ret R n0 mc ms Q (pc) (L) (.long x :: rest) n h cells slots :=
  fun p e s m args below meth c H locs ls A ad ad0 X Y => lv_lstore_n X.1 X.2.1 d hi Y.2.2.2.2.2.has hb rfl (fun ls' h' => k p e s m args below meth c H locs ls' A ad ad0 X ⟨Y.1, Y.2.1, Y.2.2.1, Y.2.2.2.1, Y.2.2.2.2.1, aw_L.store2 (v := .long x) ho h'⟩)
theorem aw_lstore {i : Nat} {x : Int64} (d : decode cc pc = .ok (.lstore i, 2)) (hb : i + 1 < nL) (ho : aw_ok L i = true) (k : AW l D tc own cc nL ret R n0 mc ms Q (pc + 2) ((L.set i (some (.long x))).set (i + 1) none) (rest) n h cells slots) : AW l D tc own cc nL ret R n0 mc ms Q (pc) (L) (.long x :: rest) n h cells slots :=
  fun p e s m args below meth c H locs ls A ad ad0 X Y => lv_lstore X.1 X.2.1 d Y.2.2.2.2.2.has hb rfl (fun ls' h' => k p e s m args below meth c H locs ls' A ad ad0 X ⟨Y.1, Y.2.1, Y.2.2.1, Y.2.2.2.1, Y.2.2.2.2.1, aw_L.store2 (v := .long x) ho h'⟩)
theorem aw_astore_nN {k0 : Fin 4} {i : Nat} (d : decode cc pc = .ok (.astore_n k0, 1)) (hi : (k0 : Nat) = i) (hb : i < nL) (ho : aw_ok L i = true) (k : AW l D tc own cc nL ret R n0 mc ms Q (pc + 1) (L.set i (some .null)) (rest) n h cells slots) : AW l D tc own cc nL ret R n0 mc ms Q (pc) (L) (.null :: rest) n h cells slots :=
  fun p e s m args below meth c H locs ls A ad ad0 X Y => lv_astore_nN X.1 X.2.1 d hi Y.2.2.2.2.2.has hb rfl (fun ls' h' => k p e s m args below meth c H locs ls' A ad ad0 X ⟨Y.1, Y.2.1, Y.2.2.1, Y.2.2.2.1, Y.2.2.2.2.1, aw_L.store1 (v := .null) ho h'⟩)
theorem aw_astoreN {i : Nat} (d : decode cc pc = .ok (.astore i, 2)) (hb : i < nL) (ho : aw_ok L i = true) (k : AW l D tc own cc nL ret R n0 mc ms Q (pc + 2) (L.set i (some .null)) (rest) n h cells slots) : AW l D tc own cc nL ret R n0 mc ms Q (pc) (L) (.null :: rest) n h cells slots :=
  fun p e s m args below meth c H locs ls A ad ad0 X Y => lv_astoreN X.1 X.2.1 d Y.2.2.2.2.2.has hb rfl (fun ls' h' => k p e s m args below meth c H locs ls' A ad ad0 X ⟨Y.1, Y.2.1, Y.2.2.1, Y.2.2.2.1, Y.2.2.2.2.1, aw_L.store1 (v := .null) ho h'⟩)
theorem aw_iinc {i : Nat} {z : Int} {x v : Int32} (d : decode cc pc = .ok (.iinc i z, 3)) (hv : L[i]? = some (some (.int x))) (hz : Int32.ofInt z = v) (hb : i < nL) (ho : aw_ok L i = true) (k : AW l D tc own cc nL ret R n0 mc ms Q (pc + 3) (L.set i (some (.int (x + v)))) (st) n h cells slots) : AW l D tc own cc nL ret R n0 mc ms Q (pc) (L) (st) n h cells slots := by
  subst hz
  intro p e s m args below meth c H locs ls A ad ad0 X Y
  obtain ⟨k9, hk9⟩ := List.getElem?_of_mem (aw_ll_mem (ad := ad) (q := (i, .int x)).mpr ⟨.int x, hv, rfl⟩)
  exact lv_iinc X.1 X.2.1 d Y.2.2.2.2.2.has hk9 rfl hb rfl (fun ls' h' => k p e s m args below meth c H locs ls' A ad ad0 X ⟨Y.1, Y.2.1, Y.2.2.1, Y.2.2.2.1, Y.2.2.2.2.1, aw_L.store1 (v := .int (x + Int32.ofInt z)) ho h'⟩)
theorem aw_iadd {x y : Int32} (d : decode cc pc = .ok (.iadd, 1)) (k : AW l D tc own cc nL ret R n0 mc ms Q (pc + 1) (L) (.int (x + y) :: rest) n h cells slots) : AW l D tc own cc nL ret R n0 mc ms Q (pc) (L) (.int y :: .int x :: rest) n h cells slots :=
  fun p e s m args below meth c H locs ls A ad ad0 X Y => lv_iadd X.1 X.2.1 d (k p e s m args below meth c H locs ls A ad ad0 X Y)
theorem aw_isub {x y : Int32} (d : decode cc pc = .ok (.isub, 1)) (k : AW l D tc own cc nL ret R n0 mc ms Q (pc + 1) (L) (.int (x - y) :: rest) n h cells slots) : AW l D tc own cc nL ret R n0 mc ms Q (pc) (L) (.int y :: .int x :: rest) n h cells slots :=
  fun p e s m args below meth c H locs ls A ad ad0 X Y => lv_isub X.1 X.2.1 d (k p e s m args below meth c H locs ls A ad ad0 X Y)
theorem aw_imul {x y : Int32} (d : decode cc pc = .ok (.imul, 1)) (k : AW l D tc own cc nL ret R n0 mc ms Q (pc + 1) (L) (.int (x * y) :: rest) n h cells slots) : AW l D tc own cc nL ret R n0 mc ms Q (pc) (L) (.int y :: .int x :: rest) n h cells slots :=
  fun p e s m args below meth c H locs ls A ad ad0 X Y => lv_imul X.1 X.2.1 d (k p e s m args below meth c H locs ls A ad ad0 X Y)
theorem aw_iand {x y : Int32} (d : decode cc pc = .ok (.iand, 1)) (k : AW l D tc own cc nL ret R n0 mc ms Q (pc + 1) (L) (.int (x &&& y) :: rest) n h cells slots) : AW l D tc own cc nL ret R n0 mc ms Q (pc) (L) (.int y :: .int x :: rest) n h cells slots :=
  fun p e s m args below meth c H locs ls A ad ad0 X Y => lv_iand X.1 X.2.1 d (k p e s m args below meth c H locs ls A ad ad0 X Y)
theorem aw_ior {x y : Int32} (d : decode cc pc = .ok (.ior, 1)) (k : AW l D tc own cc nL ret R n0 mc ms Q (pc + 1) (L) (.int (x ||| y) :: rest) n h cells slots) : AW l D tc own cc nL ret R n0 mc ms Q (pc) (L) (.int y :: .int x :: rest) n h cells slots :=
  fun p e s m args below meth c H locs ls A ad ad0 X Y => lv_ior X.1 X.2.1 d (k p e s m args below meth c H locs ls A ad ad0 X Y)
theorem aw_ixor {x y : Int32} (d : decode cc pc = .ok (.ixor, 1)) (k : AW l D tc own cc nL ret R n0 mc ms Q (pc + 1) (L) (.int (x ^^^ y) :: rest) n h cells slots) : AW l D tc own cc nL ret R n0 mc ms Q (pc) (L) (.int y :: .int x :: rest) n h cells slots :=
  fun p e s m args below meth c H locs ls A ad ad0 X Y => lv_ixor X.1 X.2.1 d (k p e s m args below meth c H locs ls A ad ad0 X Y)
theorem aw_idiv {x y : Int32} (d : decode cc pc = .ok (.idiv, 1)) (hne : ¬ y = 0) (k : AW l D tc own cc nL ret R n0 mc ms Q (pc + 1) (L) (.int (x / y) :: rest) n h cells slots) : AW l D tc own cc nL ret R n0 mc ms Q (pc) (L) (.int y :: .int x :: rest) n h cells slots :=
  fun p e s m args below meth c H locs ls A ad ad0 X Y => lv_idiv X.1 X.2.1 d hne (k p e s m args below meth c H locs ls A ad ad0 X Y)
theorem aw_irem {x y : Int32} (d : decode cc pc = .ok (.irem, 1)) (hne : ¬ y = 0) (k : AW l D tc own cc nL ret R n0 mc ms Q (pc + 1) (L) (.int (x - x / y * y) :: rest) n h cells slots) : AW l D tc own cc nL ret R n0 mc ms Q (pc) (L) (.int y :: .int x :: rest) n h cells slots :=
  fun p e s m args below meth c H locs ls A ad ad0 X Y => lv_irem X.1 X.2.1 d hne (k p e s m args below meth c H locs ls A ad ad0 X Y)
theorem aw_ishl {x y : Int32} (d : decode cc pc = .ok (.ishl, 1)) (k : AW l D tc own cc nL ret R n0 mc ms Q (pc + 1) (L) (.int (x <<< (y &&& 31)) :: rest) n h cells slots) : AW l D tc own cc nL ret R n0 mc ms Q (pc) (L) (.int y :: .int x :: rest) n h cells slots :=
  fun p e s m args below meth c H locs ls A ad ad0 X Y => lv_ishl X.1 X.2.1 d (k p e s m args below meth c H locs ls A ad ad0 X Y)
theorem aw_ishr {x y : Int32} (d : decode cc pc = .ok (.ishr, 1)) (k : AW l D tc own cc nL ret R n0 mc ms Q (pc + 1) (L) (.int (x >>> (y &&& 31)) :: rest) n h cells slots) : AW l D tc own cc nL ret R n0 mc ms Q (pc) (L) (.int y :: .int x :: rest) n h cells slots :=
  fun p e s m args below meth c H locs ls A ad ad0 X Y => lv_ishr X.1 X.2.1 d (k p e s m args below meth c H locs ls A ad ad0 X Y)
theorem aw_ineg {x : Int32} (d : decode cc pc = .ok (.ineg, 1)) (k : AW l D tc own cc nL ret R n0 mc ms Q (pc + 1) (L) (.int (-x) :: rest) n h cells slots) : AW l D tc own cc nL ret R n0 mc ms Q (pc) (L) (.int x :: rest) n h cells slots :=
  fun p e s m args below meth c H locs ls A ad ad0 X Y => lv_ineg X.1 X.2.1 d (k p e s m args below meth c H locs ls A ad ad0 X Y)
theorem aw_i2b {x : Int32} (d : decode cc pc = .ok (.i2b, 1)) (k : AW l D tc own cc nL ret R n0 mc ms Q (pc + 1) (L) (.int x.toInt8.toInt32 :: rest) n h cells slots) : AW l D tc own cc nL ret R n0 mc ms Q (pc) (L) (.int x :: rest) n h cells slots :=
  fun p e s m args below meth c H locs ls A ad ad0 X Y => lv_i2b X.1 X.2.1 d rfl (k p e s m args below meth c H locs ls A ad ad0 X Y)
theorem aw_i2s {x : Int32} (d : decode cc pc = .ok (.i2s, 1)) (k : AW l D tc own cc nL ret R n0 mc ms Q (pc + 1) (L) (.int x.toInt16.toInt32 :: rest) n h cells slots) : AW l D tc own cc nL ret R n0 mc ms Q (pc) (L) (.int x :: rest) n h cells slots :=
  fun p e s m args below meth c H locs ls A ad ad0 X Y => lv_i2s X.1 X.2.1 d rfl (k p e s m args below meth c H locs ls A ad ad0 X Y)
theorem aw_i2l {x : Int32} (d : decode cc pc = .ok (.i2l, 1)) (k : AW l D tc own cc nL ret R n0 mc ms Q (pc + 1) (L) (.long x.toInt64 :: rest) n h cells slots) : AW l D tc own cc nL ret R n0 mc ms Q (pc) (L) (.int x :: rest) n h cells slots :=
  fun p e s m args below meth c H locs ls A ad ad0 X Y => lv_i2l X.1 X.2.1 d rfl (k p e s m args below meth c H locs ls A ad ad0 X Y)
theorem aw_iushr {x y : Int32} (d : decode cc pc = .ok (.iushr, 1)) (k : AW l D tc own cc nL ret R n0 mc ms Q (pc + 1) (L) (.int (x.toUInt32 >>> (y.toUInt32 &&& Int32.toUInt32 31)).toInt32 :: rest) n h cells slots) : AW l D tc own cc nL ret R n0 mc ms Q (pc) (L) (.int y :: .int x :: rest) n h cells slots :=
  fun p e s m args below meth c H locs ls A ad ad0 X Y => lv_iushr X.1 X.2.1 d rfl (k p e s m args below meth c H locs ls A ad ad0 X Y)
theorem aw_lshl {x : Int64} {y : Int32} (d : decode cc pc = .ok (.lshl, 1)) (k : AW l D tc own cc nL ret R n0 mc ms Q (pc + 1) (L) (.long (x <<< (y.toInt64 &&& 63)) :: rest) n h cells slots) : AW l D tc own cc nL ret R n0 mc ms Q (pc) (L) (.int y :: .long x :: rest) n h cells slots :=
  fun p e s m args below meth c H locs ls A ad ad0 X Y => lv_lshl X.1 X.2.1 d rfl (k p e s m args below meth c H locs ls A ad ad0 X Y)
theorem aw_lrem {x y : Int64} (d : decode cc pc = .ok (.lrem, 1)) (hne : ¬ y = 0) (k : AW l D tc own cc nL ret R n0 mc ms Q (pc + 1) (L) (.long (x - x / y * y) :: rest) n h cells slots) : AW l D tc own cc nL ret R n0 mc ms Q (pc) (L) (.long y :: .long x :: rest) n h cells slots :=
  fun p e s m args below meth c H locs ls A ad ad0 X Y => lv_lrem X.1 X.2.1 d hne (k p e s m args below meth c H locs ls A ad ad0 X Y)
theorem aw_ldiv {x y : Int64} (d : decode cc pc = .ok (.ldiv, 1)) (hne : ¬ y = 0) (k : AW l D tc own cc nL ret R n0 mc ms Q (pc + 1) (L) (.long (x / y) :: rest) n h cells slots) : AW l D tc own cc nL ret R n0 mc ms Q (pc) (L) (.long y :: .long x :: rest) n h cells slots :=
  fun p e s m args below meth c H locs ls A ad ad0 X Y => lv_ldiv X.1 X.2.1 d hne (k p e s m args below meth c H locs ls A ad ad0 X Y)
theorem aw_dup {v : Value} (d : decode cc pc = .ok (.dup, 1)) (hv : v.category = 1) (k : AW l D tc own cc nL ret R n0 mc ms Q (pc + 1) (L) (v :: v :: rest) n h cells slots) : AW l D tc own cc nL ret R n0 mc ms Q (pc) (L) (v :: rest) n h cells slots :=
  fun p e s m args below meth c H locs ls A ad ad0 X Y => lv_dup X.1 X.2.1 d (by rw [aw_mv_cat]; exact hv) (k p e s m args below meth c H locs ls A ad ad0 X Y)
theorem aw_dup2 {v w : Value} (d : decode cc pc = .ok (.dup2, 1)) (hv : v.category = 1) (hw : w.category = 1) (k : AW l D tc own cc nL ret R n0 mc ms Q (pc + 1) (L) (v :: w :: v :: w :: rest) n h cells slots) : AW l D tc own cc nL ret R n0 mc ms Q (pc) (L) (v :: w :: rest) n h cells slots :=
  fun p e s m args below meth c H locs ls A ad ad0 X Y => lv_dup2_11 X.1 X.2.1 d (by rw [aw_mv_cat]; exact hv) (by rw [aw_mv_cat]; exact hw) (k p e s m args below meth c H locs ls A ad ad0 X Y)
theorem aw_icmp_eq {x y : Int32} {off : Int} {tgt : Nat} (d : decode cc pc = .ok (.if_icmp .eq off, 3)) (ht : (pc : Int) + off = (tgt : Int)) (kt : x = y → AW l D tc own cc nL ret R n0 mc ms Q (tgt) (L) (rest) n h cells slots) (kf : ¬ (x = y) → AW l D tc own cc nL ret R n0 mc ms Q (pc + 3) (L) (rest) n h cells slots) : AW l D tc own cc nL ret R n0 mc ms Q (pc) (L) (.int y :: .int x :: rest) n h cells slots :=
  fun p e s m args below meth c H locs ls A ad ad0 X Y => lv_icmp_eq X.1 X.2.1 d ht (fun q => kt q p e s m args below meth c H locs ls A ad ad0 X Y) (fun q => kf q p e s m args below meth c H locs ls A ad ad0 X Y)
theorem aw_if_eq {x : Int32} {off : Int} {tgt : Nat} (d : decode cc pc = .ok (.ifCond .eq off, 3)) (ht : (pc : Int) + off = (tgt : Int)) (kt : x = 0 → AW l D tc own cc nL ret R n0 mc ms Q (tgt) (L) (rest) n h cells slots) (kf : ¬ (x = 0) → AW l D tc own cc nL ret R n0 mc ms Q (pc + 3) (L) (rest) n h cells slots) : AW l D tc own cc nL ret R n0 mc ms Q (pc) (L) (.int x :: rest) n h cells slots :=
  fun p e s m args below meth c H locs ls A ad ad0 X Y => lv_if_eq X.1 X.2.1 d ht (fun q => kt q p e s m args below meth c H locs ls A ad ad0 X Y) (fun q => kf q p e s m args below meth c H locs ls A ad ad0 X Y)
theorem aw_icmp_ne {x y : Int32} {off : Int} {tgt : Nat} (d : decode cc pc = .ok (.if_icmp .ne off, 3)) (ht : (pc : Int) + off = (tgt : Int)) (kt : ¬ x = y → AW l D tc own cc nL ret R n0 mc ms Q (tgt) (L) (rest) n h cells slots) (kf : x = y → AW l D tc own cc nL ret R n0 mc ms Q (pc + 3) (L) (rest) n h cells slots) : AW l D tc own cc nL ret R n0 mc ms Q (pc) (L) (.int y :: .int x :: rest) n h cells slots :=
  fun p e s m args below meth c H locs ls A ad ad0 X Y => lv_icmp_ne X.1 X.2.1 d ht (fun q => kt q p e s m args below meth c H locs ls A ad ad0 X Y) (fun q => kf q p e s m args below meth c H locs ls A ad ad0 X Y)
theorem aw_if_ne {x : Int32} {off : Int} {tgt : Nat} (d : decode cc pc = .ok (.ifCond .ne off, 3)) (ht : (pc : Int) + off = (tgt : Int)) (kt : ¬ x = 0 → AW l D tc own cc nL ret R n0 mc ms Q (tgt) (L) (rest) n h cells slots) (kf : x = 0 → AW l D tc own cc nL ret R n0 mc ms Q (pc + 3) (L) (rest) n h cells slots) : AW l D tc own cc nL ret R n0 mc ms Q (pc) (L) (.int x :: rest) n h cells slots :=
  fun p e s m args below meth c H locs ls A ad ad0 X Y => lv_if_ne X.1 X.2.1 d ht (fun q => kt q p e s m args below meth c H locs ls A ad ad0 X Y) (fun q => kf q p e s m args below meth c H locs ls A ad ad0 X Y)
theorem aw_icmp_lt {x y : Int32} {off : Int} {tgt : Nat} (d : decode cc pc = .ok (.if_icmp .lt off, 3)) (ht : (pc : Int) + off = (tgt : Int)) (kt : x < y → AW l D tc own cc nL ret R n0 mc ms Q (tgt) (L) (rest) n h cells slots) (kf : ¬ (x < y) → AW l D tc own cc nL ret R n0 mc ms Q (pc + 3) (L) (rest) n h cells slots) : AW l D tc own cc nL ret R n0 mc ms Q (pc) (L) (.int y :: .int x :: rest) n h cells slots :=
  fun p e s m args below meth c H locs ls A ad ad0 X Y => lv_icmp_lt X.1 X.2.1 d ht (fun q => kt q p e s m args below meth c H locs ls A ad ad0 X Y) (fun q => kf q p e s m args below meth c H locs ls A ad ad0 X Y)
theorem aw_if_lt {x : Int32} {off : Int} {tgt : Nat} (d : decode cc pc = .ok (.ifCond .lt off, 3)) (ht : (pc : Int) + off = (tgt : Int)) (kt : x < 0 → AW l D tc own cc nL ret R n0 mc ms Q (tgt) (L) (rest) n h cells slots) (kf : ¬ (x < 0) → AW l D tc own cc nL ret R n0 mc ms Q (pc + 3) (L) (rest) n h cells slots) : AW l D tc own cc nL ret R n0 mc ms Q (pc) (L) (.int x :: rest) n h cells slots :=
  fun p e s m args below meth c H locs ls A ad ad0 X Y => lv_if_lt X.1 X.2.1 d ht (fun q => kt q p e s m args below meth c H locs ls A ad ad0 X Y) (fun q => kf q p e s m args below meth c H locs ls A ad ad0 X Y)
theorem aw_icmp_ge {x y : Int32} {off : Int} {tgt : Nat} (d : decode cc pc = .ok (.if_icmp .ge off, 3)) (ht : (pc : Int) + off = (tgt : Int)) (kt : y ≤ x → AW l D tc own cc nL ret R n0 mc ms Q (tgt) (L) (rest) n h cells slots) (kf : ¬ (y ≤ x) → AW l D tc own cc nL ret R n0 mc ms Q (pc + 3) (L) (rest) n h cells slots) : AW l D tc own cc nL ret R n0 mc ms Q (pc) (L) (.int y :: .int x :: rest) n h cells slots :=
  fun p e s m args below meth c H locs ls A ad ad0 X Y => lv_icmp_ge X.1 X.2.1 d ht (fun q => kt q p e s m args below meth c H locs ls A ad ad0 X Y) (fun q => kf q p e s m args below meth c H locs ls A ad ad0 X Y)
theorem aw_if_ge {x : Int32} {off : Int} {tgt : Nat} (d : decode cc pc = .ok (.ifCond .ge off, 3)) (ht : (pc : Int) + off = (tgt : Int)) (kt : 0 ≤ x → AW l D tc own cc nL ret R n0 mc ms Q (tgt) (L) (rest) n h cells slots) (kf : ¬ (0 ≤ x) → AW l D tc own cc nL ret R n0 mc ms Q (pc + 3) (L) (rest) n h cells slots) : AW l D tc own cc nL ret R n0 mc ms Q (pc) (L) (.int x :: rest) n h cells slots :=
  fun p e s m args below meth c H locs ls A ad ad0 X Y => lv_if_ge X.1 X.2.1 d ht (fun q => kt q p e s m args below meth c H locs ls A ad ad0 X Y) (fun q => kf q p e s m args below meth c H locs ls A ad ad0 X Y)
theorem aw_icmp_gt {x y : Int32} {off : Int} {tgt : Nat} (d : decode cc pc = .ok (.if_icmp .gt off, 3)) (ht : (pc : Int) + off = (tgt : Int)) (kt : y < x → AW l D tc own cc nL ret R n0 mc ms Q (tgt) (L) (rest) n h cells slots) (kf : ¬ (y < x) → AW l D tc own cc nL ret R n0 mc ms Q (pc + 3) (L) (rest) n h cells slots) : AW l D tc own cc nL ret R n0 mc ms Q (pc) (L) (.int y :: .int x :: rest) n h cells slots :=
  fun p e s m args below meth c H locs ls A ad ad0 X Y => lv_icmp_gt X.1 X.2.1 d ht (fun q => kt q p e s m args below meth c H locs ls A ad ad0 X Y) (fun q => kf q p e s m args below meth c H locs ls A ad ad0 X Y)
theorem aw_if_gt {x : Int32} {off : Int} {tgt : Nat} (d : decode cc pc = .ok (.ifCond .gt off, 3)) (ht : (pc : Int) + off = (tgt : Int)) (kt : 0 < x → AW l D tc own cc nL ret R n0 mc ms Q (tgt) (L) (rest) n h cells slots) (kf : ¬ (0 < x) → AW l D tc own cc nL ret R n0 mc ms Q (pc + 3) (L) (rest) n h cells slots) : AW l D tc own cc nL ret R n0 mc ms Q (pc) (L) (.int x :: rest) n h cells slots :=
  fun p e s m args below meth c H locs ls A ad ad0 X Y => lv_if_gt X.1 X.2.1 d ht (fun q => kt q p e s m args below meth c H locs ls A ad ad0 X Y) (fun q => kf q p e s m args below meth c H locs ls A ad ad0 X Y)
theorem aw_icmp_le {x y : Int32} {off : Int} {tgt : Nat} (d : decode cc pc = .ok (.if_icmp .le off, 3)) (ht : (pc : Int) + off = (tgt : Int)) (kt : x ≤ y → AW l D tc own cc nL ret R n0 mc ms Q (tgt) (L) (rest) n h cells slots) (kf : ¬ (x ≤ y) → AW l D tc own cc nL ret R n0 mc ms Q (pc + 3) (L) (rest) n h cells slots) : AW l D tc own cc nL ret R n0 mc ms Q (pc) (L) (.int y :: .int x :: rest) n h cells slots :=
  fun p e s m args below meth c H locs ls A ad ad0 X Y => lv_icmp_le X.1 X.2.1 d ht (fun q => kt q p e s m args below meth c H locs ls A ad ad0 X Y) (fun q => kf q p e s m args below meth c H locs ls A ad ad0 X Y)
theorem aw_if_le {x : Int32} {off : Int} {tgt : Nat} (d : decode cc pc = .ok (.ifCond .le off, 3)) (ht : (pc : Int) + off = (tgt : Int)) (kt : x ≤ 0 → AW l D tc own cc nL ret R n0 mc ms Q (tgt) (L) (rest) n h cells slots) (kf : ¬ (x ≤ 0) → AW l D tc own cc nL ret R n0 mc ms Q (pc + 3) (L) (rest) n h cells slots) : AW l D tc own cc nL ret R n0 mc ms Q (pc) (L) (.int x :: rest) n h cells slots :=
  fun p e s m args below meth c H locs ls A ad ad0 X Y => lv_if_le X.1 X.2.1 d ht (fun q => kt q p e s m args below meth c H locs ls A ad ad0 X Y) (fun q => kf q p e s m args below meth c H locs ls A ad ad0 X Y)
theorem aw_goto {off : Int} {tgt : Nat} (d : decode cc pc = .ok (.goto off, 3)) (ht : (pc : Int) + off = (tgt : Int)) (k : AW l D tc own cc nL ret R n0 mc ms Q (tgt) (L) (st) n h cells slots) : AW l D tc own cc nL ret R n0 mc ms Q (pc) (L) (st) n h cells slots :=
  fun p e s m args below meth c H locs ls A ad ad0 X Y => lv_goto X.1 X.2.1 d ht (k p e s m args below meth c H locs ls A ad ad0 X Y)
theorem aw_ifnonnull {x : Nat} {off : Int} {tgt : Nat} (d : decode cc pc = .ok (.ifnonnull off, 3)) (ht : (pc : Int) + off = (tgt : Int)) (k : AW l D tc own cc nL ret R n0 mc ms Q (tgt) (L) (rest) n h cells slots) : AW l D tc own cc nL ret R n0 mc ms Q (pc) (L) (.ref x :: rest) n h cells slots :=
  fun p e s m args below meth c H locs ls A ad ad0 X Y => lv_ifnonnull X.1 X.2.1 d ht (k p e s m args below meth c H locs ls A ad ad0 X Y)
theorem aw_ifnonnullN {off : Int} (d : decode cc pc = .ok (.ifnonnull off, 3)) (k : AW l D tc own cc nL ret R n0 mc ms Q (pc + 3) (L) (rest) n h cells slots) : AW l D tc own cc nL ret R n0 mc ms Q (pc) (L) (.null :: rest) n h cells slots :=
  fun p e s m args below meth c H locs ls A ad ad0 X Y => lv_ifnonnullN X.1 X.2.1 d (k p e s m args below meth c H locs ls A ad ad0 X Y)
theorem aw_ifnull {x : Nat} {off : Int} (d : decode cc pc = .ok (.ifnull off, 3)) (k : AW l D tc own cc nL ret R n0 mc ms Q (pc + 3) (L) (rest) n h cells slots) : AW l D tc own cc nL ret R n0 mc ms Q (pc) (L) (.ref x :: rest) n h cells slots :=
  fun p e s m args below meth c H locs ls A ad ad0 X Y => lv_ifnull X.1 X.2.1 d (k p e s m args below meth c H locs ls A ad ad0 X Y)
theorem aw_ifnullN {off : Int} {tgt : Nat} (d : decode cc pc = .ok (.ifnull off, 3)) (ht : (pc : Int) + off = (tgt : Int)) (k : AW l D tc own cc nL ret R n0 mc ms Q (tgt) (L) (rest) n h cells slots) : AW l D tc own cc nL ret R n0 mc ms Q (pc) (L) (.null :: rest) n h cells slots :=
  fun p e s m args below meth c H locs ls A ad ad0 X Y => lv_ifnullN X.1 X.2.1 d ht (k p e s m args below meth c H locs ls A ad ad0 X Y)
theorem aw_tableOut {dflt lo hi : Int} {offs : Array Int} {len : Nat} {x : Int32} {tgt : Nat} (d : decode cc pc = .ok (.tableswitch dflt lo hi offs, len)) (hx : x.toInt < lo ∨ hi < x.toInt) (ht : (pc : Int) + dflt = (tgt : Int)) (k : AW l D tc own cc nL ret R n0 mc ms Q (tgt) (L) (rest) n h cells slots) : AW l D tc own cc nL ret R n0 mc ms Q (pc) (L) (.int x :: rest) n h cells slots :=
  fun p e s m args below meth c H locs ls A ad ad0 X Y => lv_tableOut X.1 X.2.1 d hx ht (k p e s m args below meth c H locs ls A ad ad0 X Y)
theorem aw_tableIn {dflt lo hi : Int} {offs : Array Int} {len : Nat} {x : Int32} {off : Int} {tgt : Nat} (d : decode cc pc = .ok (.tableswitch dflt lo hi offs, len)) (h1 : ¬ x.toInt < lo) (h2 : ¬ hi < x.toInt) (ho : offs[(x.toInt - lo).toNat]? = some off) (ht : (pc : Int) + off = (tgt : Int)) (k : AW l D tc own cc nL ret R n0 mc ms Q (tgt) (L) (rest) n h cells slots) : AW l D tc own cc nL ret R n0 mc ms Q (pc) (L) (.int x :: rest) n h cells slots :=
  fun p e s m args below meth c H locs ls A ad ad0 X Y => lv_tableIn X.1 X.2.1 d h1 h2 ho ht (k p e s m args below meth c H locs ls A ad ad0 X Y)
theorem aw_lookup {dflt : Int} {ps : Array (Int × Int)} {len : Nat} {x : Int32} {off : Int} {tgt : Nat} (d : decode cc pc = .ok (.lookupswitch dflt ps, len)) (hp : (ps.toList.zip (ps.toList.drop 1)).all (fun (a, next) => a.1 < next.1) = true) (ho : Op.lookupswitch.offset ps.toList dflt x.toInt = off) (ht : (pc : Int) + off = (tgt : Int)) (k : AW l D tc own cc nL ret R n0 mc ms Q (tgt) (L) (rest) n h cells slots) : AW l D tc own cc nL ret R n0 mc ms Q (pc) (L) (.int x :: rest) n h cells slots :=
  fun p e s m args below meth c H locs ls A ad ad0 X Y => lv_lookup X.1 X.2.1 d hp ho ht (k p e s m args below meth c H locs ls A ad ad0 X Y)
theorem aw_iret {v : Int32} (d : decode cc pc = .ok (.ireturn, 1)) (hc : cells ≤ mc) (hs : slots ≤ ms) (hq : Q (some (.int v)) n h) : AW l D tc own cc nL (some .int) R n0 mc ms Q pc L [.int v] n h cells slots := by
  intro p e s m args below meth c H locs ls A ad ad0 X Y
  obtain ⟨hx, hb, hr, hml, hown, hts, hlocks, hK, hA⟩ := X
  obtain ⟨hn, had, hP, hD, hS, hL⟩ := Y
  refine W.widen hc hs ?_
  exact W.iret hx hb hr (fun t ht hW => ⟨⟨(some (.int v)), n, h, ad, rfl, hq, hn, had, by rw [ht]; exact hP, hD⟩, hS.F ht⟩) hS.2.2 d hlocks
theorem aw_zret {v : Int32} (d : decode cc pc = .ok (.ireturn, 1)) (hn9 : narrow .boolean (.int v) = .int v) (hc : cells ≤ mc) (hs : slots ≤ ms) (hq : Q (some (.int v)) n h) : AW l D tc own cc nL (some .boolean) R n0 mc ms Q pc L [.int v] n h cells slots := by
  intro p e s m args below meth c H locs ls A ad ad0 X Y
  obtain ⟨hx, hb, hr, hml, hown, hts, hlocks, hK, hA⟩ := X
  obtain ⟨hn, had, hP, hD, hS, hL⟩ := Y
  refine W.widen hc hs ?_
  exact W.zret hx hb hr hn9 (fun t ht hW => ⟨⟨(some (.int v)), n, h, ad, rfl, hq, hn, had, by rw [ht]; exact hP, hD⟩, hS.F ht⟩) hS.2.2 d hlocks
theorem aw_lret {v : Int64} (d : decode cc pc = .ok (.lreturn, 1)) (hc : cells ≤ mc) (hs : slots ≤ ms) (hq : Q (some (.long v)) n h) : AW l D tc own cc nL (some .long) R n0 mc ms Q pc L [.long v] n h cells slots := by
  intro p e s m args below meth c H locs ls A ad ad0 X Y
  obtain ⟨hx, hb, hr, hml, hown, hts, hlocks, hK, hA⟩ := X
  obtain ⟨hn, had, hP, hD, hS, hL⟩ := Y
  refine W.widen hc hs ?_
  exact W.lret hx hb hr (fun t ht hW => ⟨⟨(some (.long v)), n, h, ad, rfl, hq, hn, had, by rw [ht]; exact hP, hD⟩, hS.F ht⟩) hS.2.2 d hlocks
theorem aw_vret  (d : decode cc pc = .ok (.return_, 1)) (hc : cells ≤ mc) (hs : slots ≤ ms) (hq : Q none n h) : AW l D tc own cc nL none R n0 mc ms Q pc L [] n h cells slots := by
  intro p e s m args below meth c H locs ls A ad ad0 X Y
  obtain ⟨hx, hb, hr, hml, hown, hts, hlocks, hK, hA⟩ := X
  obtain ⟨hn, had, hP, hD, hS, hL⟩ := Y
  refine W.widen hc hs ?_
  exact W.vret hx hb hr (fun t ht hW => ⟨⟨none, n, h, ad, rfl, hq, hn, had, by rw [ht]; exact hP, hD⟩, hS.F ht⟩) hS.2.2 d hlocks
theorem aw_aret {rt : FieldType} {v : Value} (d : decode cc pc = .ok (.areturn, 1)) (hrt : (∃ z, rt = .object z) ∨ ∃ t, rt = .array t) (hv : v = .null ∨ ∃ a, v = .ref a) (hc : cells ≤ mc) (hs : slots ≤ ms) (hq : Q (some v) n h) : AW l D tc own cc nL (some rt) R n0 mc ms Q pc L [v] n h cells slots := by
  intro p e s m args below meth c H locs ls A ad ad0 X Y
  obtain ⟨hx, hb, hr, hml, hown, hts, hlocks, hK, hA⟩ := X
  obtain ⟨hn, had, hP, hD, hS, hL⟩ := Y
  refine W.widen hc hs ?_
  exact W.aret (v := aw_mv ad v) hx hb hr hrt (by rcases hv with rfl | ⟨a, rfl⟩; exact Or.inl rfl; exact Or.inr ⟨_, rfl⟩) (fun t ht hW => ⟨⟨some v, n, h, ad, rfl, hq, hn, had, by rw [ht]; exact hP, hD⟩, hS.F ht⟩) hS.2.2 d hlocks
/-- a field of a reference's place: the tables' words of it -/
def aw_fd (own : String) (idx ci k : Nat) (C : String) (T : u_T) (N : Nat) : Prop := (∀ w ∈ u_ws C T N, w ∈ aw_gw) ∧ vwCl[ci]? = some (C, T, N) ∧ k < N ∧ Cond.fieldLink own idx (T k).1 (T k).2.1 (T k).2.2.1 ∈ aw_gw
theorem aw_get {o idx ci k0 : Nat} {C : String} {T : u_T} {N : Nat} {fs : List Value} {v : Value} (hf : aw_fd own idx ci k0 C T N) (d : decode cc pc = .ok (.getfield idx, 3)) (ho : o < n) (he : h o = .inr (ci, fs)) (hv : fs[k0]? = some v) (k : AW l D tc own cc nL ret R n0 mc ms Q (pc + 3) (L) (v :: rest) n h cells slots) : AW l D tc own cc nL ret R n0 mc ms Q (pc) (L) (.ref o :: rest) n h cells slots := by
  intro p e s m args below meth c H locs ls A ad ad0 X Y
  have hw := aw_ws_at (tc := tc) (ad := ad) (h := h) ho
  rw [he] at hw
  exact va_get X.1 X.2.1 X.2.2.2.2.2.1 hf.1 X.2.2.2.2.1 X.2.2.2.2.2.2.2.1.1 Y.2.2.1 o hw hf.2.1 k0 hf.2.2.1 (X.2.2.2.2.2.1 _ hf.2.2.2) (fun _ h9 => h9) (by rw [List.getElem?_map, hv]; rfl) d (k p e s m args below meth c H locs ls A ad ad0 X Y)
def aw_fp (own : String) (idx ci k : Nat) (C : String) (T : u_T) (N : Nat) (ty : FieldType) : Prop := aw_fd own idx ci k C T N ∧ (∃ ty0 : Nat → FieldType, ∀ k, k < N → parseFieldDescriptor (T k).2.2.1 = some (ty0 k)) ∧ (∀ a, a < N → ∀ b, b < N → a ≠ b → (T a).2.1 ≠ (T b).2.1) ∧ (T k).2.2.2 = false ∧ parseFieldDescriptor (T k).2.2.1 = some ty
theorem aw_put {o idx ci k0 : Nat} {C : String} {T : u_T} {N : Nat} {ty : FieldType} {fs : List Value} {x : Int32} {h' : aw_H} (hf : aw_fp own idx ci k0 C T N ty) (d : decode cc pc = .ok (.putfield idx, 3)) (ho : o < n) (he : h o = .inr (ci, fs)) (hn9 : narrow ty (.int x) = .int x) (hfit : fits ty (.int x) = true) (hl : k0 < fs.length) (hh : aw_up h o (.inr (ci, fs.set k0 (.int x))) = h') (k : AW l D tc own cc nL ret R n0 mc ms Q (pc + 3) L rest n h' cells slots) : AW l D tc own cc nL ret R n0 mc ms Q (pc) (L) (.int x :: .ref o :: rest) n h cells slots := by
  subst hh
  intro p e s m args below meth c H locs ls A ad ad0 X Y
  have hw := aw_ws_at (tc := tc) (ad := ad) (h := h) ho
  rw [he] at hw
  obtain ⟨hfd, ⟨ty0, hty⟩, hnm, hfin, hd⟩ := hf
  have hset : (aw_ws tc ad n h).set o (ad o, .inr (ci, (fs.map (aw_mv ad)).set k0 (.int x))) = aw_ws tc ad n (aw_up h o (.inr (ci, fs.set k0 (.int x)))) := by
    rw [← aw_ws_set]
    show _ = (aw_ws tc ad n h).set o (ad o, Sum.inr (ci, (fs.set k0 (.int x)).map (aw_mv ad)))
    rw [List.map_set]
    rfl
  refine va_put X.1 X.2.1 X.2.2.2.2.2.1 hfd.1 ty0 hty hnm X.2.2.2.2.1 X.2.2.2.2.2.2.2.1.1 Y.2.2.1 Y.2.2.2.1 Y.2.2.2.2.1 o hw hfd.2.1 k0 hfd.2.2.1 (X.2.2.2.2.2.1 _ hfd.2.2.2) (fun _ h9 => h9) hfin hd hn9 hfit (by rw [List.length_map]; exact hl) d (fun H1 locs1 hP1 hD1 hS1 => ?_)
  have hP1 := (show va_P D vwCl (aw_ws tc ad n _) H1 by rw [← hset]; exact hP1)
  have hD1 := (show va_D A (aw_ws tc ad n _) by rw [← hset]; exact hD1)
  exact k p e s m args below meth c H1 locs1 ls A ad ad0 X ⟨Y.1, Y.2.1, hP1, hD1, hS1, Y.2.2.2.2.2⟩
theorem aw_iald {o len : Nat} {f : Nat → Int32} {i : Int32} (d : decode cc pc = .ok (.iaload, 1)) (ho : o < n) (he : h o = .inl (0, len, .inl f)) (hin : vp_in i len) (k : AW l D tc own cc nL ret R n0 mc ms Q (pc + 1) (L) (.int (f i.toNatClampNeg) :: rest) n h cells slots) : AW l D tc own cc nL ret R n0 mc ms Q (pc) (L) (.int i :: .ref o :: rest) n h cells slots := by
  intro p e s m args below meth c H locs ls A ad ad0 X Y
  have hw := aw_ws_at (tc := tc) (ad := ad) (h := h) ho
  rw [he] at hw
  exact va_iald X.1 X.2.1 X.2.2.2.2.2.2.2.1.1 Y.2.2.1 o 0 hw rfl hin d (k p e s m args below meth c H locs ls A ad ad0 X Y)
theorem aw_zald {o len : Nat} {f : Nat → Int32} {i : Int32} (d : decode cc pc = .ok (.baload, 1)) (ho : o < n) (he : h o = .inl (1, len, .inl f)) (hin : vp_in i len) (k : AW l D tc own cc nL ret R n0 mc ms Q (pc + 1) (L) (.int (f i.toNatClampNeg) :: rest) n h cells slots) : AW l D tc own cc nL ret R n0 mc ms Q (pc) (L) (.int i :: .ref o :: rest) n h cells slots := by
  intro p e s m args below meth c H locs ls A ad ad0 X Y
  have hw := aw_ws_at (tc := tc) (ad := ad) (h := h) ho
  rw [he] at hw
  exact va_zald X.1 X.2.1 X.2.2.2.2.2.2.2.1.1 Y.2.2.1 o 1 hw rfl hin d (k p e s m args below meth c H locs ls A ad ad0 X Y)
theorem aw_iast {o len : Nat} {f : Nat → Int32} {i x : Int32} {h' : aw_H} (d : decode cc pc = .ok (.iastore, 1)) (ho : o < n) (he : h o = .inl (0, len, .inl f)) (hin : vp_in i len) (hh : aw_up h o (.inl (0, len, .inl (upd f i.toNatClampNeg x))) = h') (k : AW l D tc own cc nL ret R n0 mc ms Q (pc + 1) L rest n h' cells slots) : AW l D tc own cc nL ret R n0 mc ms Q (pc) (L) (.int x :: .int i :: .ref o :: rest) n h cells slots := by
  subst hh
  intro p e s m args below meth c H locs ls A ad ad0 X Y
  have hw := aw_ws_at (tc := tc) (ad := ad) (h := h) ho
  rw [he] at hw
  refine va_iast X.1 X.2.1 X.2.2.2.2.2.2.2.1.1 Y.2.2.1 Y.2.2.2.1 Y.2.2.2.2.1 o 0 hw rfl hin d (fun H1 locs1 hP1 hD1 hS1 => ?_)
  have hset : (aw_ws tc ad n h).set o (ad o, .inl (tc 0, len, .inl (upd f i.toNatClampNeg x))) = aw_ws tc ad n (aw_up h o (.inl (0, len, .inl (upd f i.toNatClampNeg x)))) := (aw_ws_set (e := .inl (0, len, .inl (upd f i.toNatClampNeg x))))
  have hP1 := (show va_P D vwCl (aw_ws tc ad n _) H1 by rw [← hset]; exact hP1)
  have hD1 := (show va_D A (aw_ws tc ad n _) by rw [← hset]; exact hD1)
  exact k p e s m args below meth c H1 locs1 ls A ad ad0 X ⟨Y.1, Y.2.1, hP1, hD1, hS1, Y.2.2.2.2.2⟩
theorem aw_zast {o len : Nat} {f : Nat → Int32} {i x : Int32} {h' : aw_H} (d : decode cc pc = .ok (.bastore, 1)) (ho : o < n) (he : h o = .inl (1, len, .inl f)) (hin : vp_in i len) (hh : aw_up h o (.inl (1, len, .inl (upd f i.toNatClampNeg (vp_nar .boolean x)))) = h') (k : AW l D tc own cc nL ret R n0 mc ms Q (pc + 1) L rest n h' cells slots) : AW l D tc own cc nL ret R n0 mc ms Q (pc) (L) (.int x :: .int i :: .ref o :: rest) n h cells slots := by
  subst hh
  intro p e s m args below meth c H locs ls A ad ad0 X Y
  have hw := aw_ws_at (tc := tc) (ad := ad) (h := h) ho
  rw [he] at hw
  refine va_zast X.1 X.2.1 X.2.2.2.2.2.2.2.1.1 Y.2.2.1 Y.2.2.2.1 Y.2.2.2.2.1 o 1 hw rfl hin d (fun H1 locs1 hP1 hD1 hS1 => ?_)
  have hset : (aw_ws tc ad n h).set o (ad o, .inl (tc 1, len, .inl (upd f i.toNatClampNeg (vp_nar .boolean x)))) = aw_ws tc ad n (aw_up h o (.inl (1, len, .inl (upd f i.toNatClampNeg (vp_nar .boolean x))))) := (aw_ws_set (e := .inl (1, len, .inl (upd f i.toNatClampNeg (vp_nar .boolean x)))))
  have hP1 := (show va_P D vwCl (aw_ws tc ad n _) H1 by rw [← hset]; exact hP1)
  have hD1 := (show va_D A (aw_ws tc ad n _) by rw [← hset]; exact hD1)
  exact k p e s m args below meth c H1 locs1 ls A ad ad0 X ⟨Y.1, Y.2.1, hP1, hD1, hS1, Y.2.2.2.2.2⟩
theorem aw_rf (ad : Nat → Nat) (r : Option Nat) : va_rf (r.map ad) = aw_mv ad (va_rf r) := by cases r <;> rfl
theorem aw_aald2 {o len : Nat} {f : Nat → Option Nat} {i : Int32} (d : decode cc pc = .ok (.aaload, 1)) (ho : o < n) (he : h o = .inl (2, len, .inr (.inr (.inr (.inr f))))) (hin : vp_in i len) (k : AW l D tc own cc nL ret R n0 mc ms Q (pc + 1) (L) (va_rf (f i.toNatClampNeg) :: rest) n h cells slots) : AW l D tc own cc nL ret R n0 mc ms Q (pc) (L) (.int i :: .ref o :: rest) n h cells slots := by
  intro p e s m args below meth c H locs ls A ad ad0 X Y
  have hw := aw_ws_at (tc := tc) (ad := ad) (h := h) ho
  rw [he] at hw
  refine va_aldq X.1 X.2.1 X.2.2.2.2.2.2.2.1.1 Y.2.2.1 o 2 (C := RX6) hw rfl hin d ?_
  show W _ _ _ _ _ _ _ _ _ _ _ _ _ _ _ (F0 m (pc + 1) ls (va_rf ((f i.toNatClampNeg).map ad) :: rest.map (aw_mv ad)))
  rw [aw_rf]
  exact (k p e s m args below meth c H locs ls A ad ad0 X Y)
theorem aw_aald3 {o len : Nat} {f : Nat → Option Nat} {i : Int32} (d : decode cc pc = .ok (.aaload, 1)) (ho : o < n) (he : h o = .inl (3, len, .inr (.inr (.inr (.inr f))))) (hin : vp_in i len) (k : AW l D tc own cc nL ret R n0 mc ms Q (pc + 1) (L) (va_rf (f i.toNatClampNeg) :: rest) n h cells slots) : AW l D tc own cc nL ret R n0 mc ms Q (pc) (L) (.int i :: .ref o :: rest) n h cells slots := by
  intro p e s m args below meth c H locs ls A ad ad0 X Y
  have hw := aw_ws_at (tc := tc) (ad := ad) (h := h) ho
  rw [he] at hw
  refine va_aldq X.1 X.2.1 X.2.2.2.2.2.2.2.1.1 Y.2.2.1 o 3 (C := RX3) hw rfl hin d ?_
  show W _ _ _ _ _ _ _ _ _ _ _ _ _ _ _ (F0 m (pc + 1) ls (va_rf ((f i.toNatClampNeg).map ad) :: rest.map (aw_mv ad)))
  rw [aw_rf]
  exact (k p e s m args below meth c H locs ls A ad ad0 X Y)
theorem aw_aald4 {o len : Nat} {f : Nat → Option Nat} {i : Int32} (d : decode cc pc = .ok (.aaload, 1)) (ho : o < n) (he : h o = .inl (4, len, .inr (.inr (.inr (.inr f))))) (hin : vp_in i len) (k : AW l D tc own cc nL ret R n0 mc ms Q (pc + 1) (L) (va_rf (f i.toNatClampNeg) :: rest) n h cells slots) : AW l D tc own cc nL ret R n0 mc ms Q (pc) (L) (.int i :: .ref o :: rest) n h cells slots := by
  intro p e s m args below meth c H locs ls A ad ad0 X Y
  have hw := aw_ws_at (tc := tc) (ad := ad) (h := h) ho
  rw [he] at hw
  have hlt : i.toNatClampNeg < len := Nat.not_le.mp fun q => hin (Or.inr q)
  refine W.aald (v := va_rf ((f i.toNatClampNeg).map ad)) (ty := .array .int) X.1 X.2.1 (Y.2.2.1 o _ hw) ((X.2.2.2.2.2.2.2.1.1.2 4 _ rfl).1 len (fun j => va_rf ((f j).map ad))) rfl (fun q => by cases q) (by show ¬ (i < 0 ∨ (arrV _ _ _).slots.size ≤ _); rw [arrV_size]; exact hin) (by show (arrV _ _ _).slots[_]? = _; rw [arrV_read _ _ hlt]) rfl rfl d ?_
  rw [aw_rf]
  exact (k p e s m args below meth c H locs ls A ad ad0 X Y)
theorem aw_alen {o len : Nat} {f : Nat → Int32} {v : Int32} (d : decode cc pc = .ok (.arraylength, 1)) (ho : o < n) (he : h o = .inl (0, len, .inl f)) (hv : Int32.ofNat len = v) (k : AW l D tc own cc nL ret R n0 mc ms Q (pc + 1) (L) (.int v :: rest) n h cells slots) : AW l D tc own cc nL ret R n0 mc ms Q (pc) (L) (.ref o :: rest) n h cells slots := by
  intro p e s m args below meth c H locs ls A ad ad0 X Y
  have hw := aw_ws_at (tc := tc) (ad := ad) (h := h) ho
  rw [he] at hw
  exact va_alen X.1 X.2.1 X.2.2.2.2.2.2.2.1.1 Y.2.2.1 o 0 hw rfl hv d (k p e s m args below meth c H locs ls A ad ad0 X Y)
end AWR
section AWC
variable {p : Program} {l : Launch} {e : Env} {R : Room} {s : State} {m : MethodId} {args args' : Array Value} {below : List Frame} {meth : Method} {c : Code} {H : Heap} {locs : List Loc} {cells slots mc' ms' : Nat} {QQ : State → Prop} {D : va_G} {tc : Nat → ClassId} {pc : Nat} {ls : Array Slot} {st0 rest' : List Value} {n : Nat} {ad : Nat → Nat} {A : Nat → Prop} {Q' : Option Value → Nat → aw_H → Prop}
theorem aw_cont (hr : va_Run p l e R s m args below meth c H locs cells slots mc' ms' (F0 m pc ls st0) rest' (aw_Q D tc n ad A Q' args') A) (hS : va_S A s.heap H locs)
    (kk : ∀ (v : Option Value) (n1 : Nat) (h1 : aw_H) (ad1 : Nat → Nat) (H1 : Heap) (locs1 : List Loc), Q' v n1 h1 → n ≤ n1 → (∀ k, ¬ (n ≤ k ∧ k < n1) → ad1 k = ad k) → va_P D vwCl (aw_ws tc ad1 n1 h1) H1 → va_D A (aw_ws tc ad1 n1 h1) → va_S A s.heap H1 locs1 →
      W p l e R s m args below meth c H1 locs1 (cells + mc') (slots + ms') QQ (F0 m (pc + 3) ls ((v.map (aw_mv ad1)).toList ++ rest'))) : W p l e R s m args below meth c H locs cells slots QQ (F0 m pc ls st0) := by
  intro T hT X
  obtain ⟨v, st₀, t, T', L, h0, X', hL, e1, e2, ⟨⟨v', n1, h1, ad1, hv, hq, hn, had, hP, hD⟩, hz, hk⟩, st⟩ := hr T hT X
  cases hv
  rw [h0] at hz hk
  obtain ⟨t2, a1, b1⟩ := kk v' n1 h1 ad1 T'.heap (locs ++ L) hq hn had (by rw [e1]; exact hP) hD
    ⟨Nat.le_trans hS.1 (by rw [e1]; exact hz), fun q g1 g2 => by rw [e1, hk q (Nat.lt_of_lt_of_le g1 hS.1) g2]; exact hS.2.1 q g1 g2, fun q hq => by
      rcases List.mem_append.mp hq with g | g
      · exact hS.2.2 q g
      · exact hL q g⟩ T' rfl X'
  exact ⟨t2, st t2 a1, b1⟩
end AWC
section AWK
variable {l : Launch} {D : va_G} {tc : Nat → ClassId} {own : String} {cc : ByteArray} {nL : Nat} {ret : Option FieldType} {R : Room} {n0 mc ms : Nat} {Q : Option Value → Nat → aw_H → Prop} {pc : Nat} {L : List (Option Value)} {st rest : List Value} {n : Nat} {h : aw_H} {cells slots : Nat}
/-- the words of a method that is called -/
def aw_cw (y : MethodName) (cc' : ByteArray) (nL' : Nat) (ret' : Option FieldType) (nA : Nat) : Prop := Cond.initialized y.cls ∈ aw_gw ∧ Cond.code y cc' nL' ret' ∈ aw_gw ∧ y.cls ≠ "java/lang/invoke/MethodHandle" ∧ y.cls ≠ "java/lang/invoke/VarHandle" ∧ (parseMethodDescriptor y.desc).map (fun d => d.parameters.length) = some nA
theorem aw_cats (ad : Nat → Nat) (r : List Value) : ((r.map (aw_mv ad)).map fun v => v.category) = r.map fun v => v.category := by
  rw [List.map_map]
  exact List.map_congr_left (fun v _ => aw_mv_cat ad v)
theorem aw_stk (ad : Nat → Nat) (v : Option Value) (r : List Value) : (v.map (aw_mv ad)).toList ++ r.map (aw_mv ad) = (v.toList ++ r).map (aw_mv ad) := by cases v <;> simp
theorem aw_callS {y : MethodName} {cc' : ByteArray} {nL' nA fr' lo' idx : Nat} {ret' : Option FieldType} {Q' : Option Value → aw_H → Prop} {av : List Value} (hcw : aw_cw y cc' nL' ret' nA) (hl : Cond.methodLink own idx y ∈ aw_gw) (hs : Cond.static y ∈ aw_gw) (hM : AM l D tc y cc' nL' ret' fr' lo' 0 0 av n h (fun v n1 h1 => n1 = n ∧ Q' v h1)) (hR : fr' + 1 ≤ R.frames ∧ 8 + (nL' + 11) + lo' ≤ R.locals) (hc : cells ≤ R.cells ∧ slots ≤ R.slots) (hn : av.length = nA) (hst : av.reverse ++ rest = st) (hw : (rest.map fun v => v.category).sum ≤ 8) (d : decode cc pc = .ok (.invokestatic idx, 3)) (k : ∀ (v : Option Value) (h1 : aw_H), Q' v h1 → AW l D tc own cc nL ret R n0 mc ms Q (pc + 3) L (v.toList ++ rest) n h1 cells slots) : AW l D tc own cc nL ret R n0 mc ms Q (pc) (L) (st) n h cells slots := by
  subst hst
  intro p e s m args below meth c H locs ls A ad ad0 X Y
  obtain ⟨hx, hb, hr0, hml, hown, hts, hlk, hK, hA⟩ := id X
  obtain ⟨hn0, had, hP, hD, hS, hL⟩ := Y
  obtain ⟨w3, w4, g1, g2, g3⟩ := hcw
  have hM' := hM ad A H.size (fun q hq => hA q (Nat.le_trans hS.1 hq))
  have hB := callB_of (R := R) (own := own) (index := idx) (mc := 0) (ms := 0) (rm := { frames := fr', cells := 0, slots := 0, locals := lo' }) nA hts (aw_good w4) rfl rfl rfl (hts _ w3) (hts _ hl) ⟨g1, g2, g3⟩ hR
  have hr := va_runS (R := R) (e := e) (below := below) (meth := meth) (locs := locs) (cells := cells) (slots := slots) (As := av.map (aw_mv ad)) (rest := rest.map (aw_mv ad)) (g := F0 m pc ls ((av.reverse ++ rest).map (aw_mv ad))) ⟨hx, hb, hml, hown, hts⟩ hM' ⟨hB, hts _ hs⟩ ⟨aw_blind, fun U hU hW => ⟨rfl, by rw [hU], aw_K.warm hW hK, by rw [hU]; exact hP, hD⟩⟩ rfl (by rw [List.length_map]; exact hn) hL.1 (by simp [List.map_reverse]) (lv_room (by rw [aw_cats]; exact hw)) d ⟨hc.1, hc.2⟩
  refine aw_cont hr hS (fun v n1 h1 ad1 H1 locs1 hq hn1 had1 hP1 hD1 hS1 => ?_)
  obtain ⟨e9, hq⟩ := hq
  subst e9
  have e8 : ad1 = ad := funext fun k9 => had1 k9 (fun q => by omega)
  subst e8
  rw [aw_stk]
  exact k v h1 hq p e s m args below meth c H1 locs1 ls A ad1 ad0 X ⟨hn0, had, hP1, hD1, hS1, hL⟩
theorem aw_callSN {y : MethodName} {cc' : ByteArray} {nL' nA fr' lo' idx : Nat} {ret' : Option FieldType} {Q' : Option Value → aw_H → Prop} {av : List Value} {host : String} (hcw : aw_cw y cc' nL' ret' nA) (hl : Cond.methodLinkNest own idx y host ∈ aw_nw) (hs : Cond.static y ∈ aw_gw) (hM : AM l D tc y cc' nL' ret' fr' lo' 0 0 av n h (fun v n1 h1 => n1 = n ∧ Q' v h1)) (hR : fr' + 1 ≤ R.frames ∧ 8 + (nL' + 11) + lo' ≤ R.locals) (hc : cells ≤ R.cells ∧ slots ≤ R.slots) (hn : av.length = nA) (hst : av.reverse ++ rest = st) (hw : (rest.map fun v => v.category).sum ≤ 8) (d : decode cc pc = .ok (.invokestatic idx, 3)) (k : ∀ (v : Option Value) (h1 : aw_H), Q' v h1 → AW l D tc own cc nL ret R n0 mc ms Q (pc + 3) L (v.toList ++ rest) n h1 cells slots) : AW l D tc own cc nL ret R n0 mc ms Q (pc) (L) (st) n h cells slots := by
  subst hst
  intro p e s m args below meth c H locs ls A ad ad0 X Y
  obtain ⟨hx, hb, hr0, hml, hown, hts, hlk, hK, hA⟩ := id X
  obtain ⟨hn0, had, hP, hD, hS, hL⟩ := Y
  obtain ⟨w3, w4, g1, g2, g3⟩ := hcw
  have hM' := hM ad A H.size (fun q hq => hA q (Nat.le_trans hS.1 hq))
  have hB := va_cnB (R := R) (own := own) (index := idx) (host := host) (mc := 0) (ms := 0) (rm := { frames := fr', cells := 0, slots := 0, locals := lo' }) nA hts (aw_good w4) rfl rfl rfl (hK.2.1 _ hl) (hts _ w3) ⟨g1, g2, g3⟩ hR
  have hr := va_runSN (R := R) (e := e) (below := below) (meth := meth) (locs := locs) (cells := cells) (slots := slots) (As := av.map (aw_mv ad)) (rest := rest.map (aw_mv ad)) (g := F0 m pc ls ((av.reverse ++ rest).map (aw_mv ad))) ⟨hx, hb, hml, hown, hts⟩ hM' ⟨hB, hts _ hs, trivial⟩ ⟨aw_blind, fun U hU hW => ⟨rfl, by rw [hU], aw_K.warm hW hK, by rw [hU]; exact hP, hD⟩⟩ rfl (by rw [List.length_map]; exact hn) hL.1 (by simp [List.map_reverse]) (lv_room (by rw [aw_cats]; exact hw)) d ⟨hc.1, hc.2⟩
  refine aw_cont hr hS (fun v n1 h1 ad1 H1 locs1 hq hn1 had1 hP1 hD1 hS1 => ?_)
  obtain ⟨e9, hq⟩ := hq
  subst e9
  have e8 : ad1 = ad := funext fun k9 => had1 k9 (fun q => by omega)
  subst e8
  rw [aw_stk]
  exact k v h1 hq p e s m args below meth c H1 locs1 ls A ad1 ad0 X ⟨hn0, had, hP1, hD1, hS1, hL⟩
theorem aw_callV {y : MethodName} {cc' : ByteArray} {nL' nA fr' lo' idx : Nat} {ret' : Option FieldType} {Q' : Option Value → aw_H → Prop} {av : List Value} {o ci : Nat} {C : String} {T : u_T} {N : Nat} {fs : List Value} (hcw : aw_cw y cc' nL' ret' nA) (hl : Cond.methodLink own idx y ∈ aw_gw) (hi : Cond.instanceMethod y ∈ aw_gw) (hs : Cond.selects C y y ∈ aw_gw) (hcl : vwCl[ci]? = some (C, T, N)) (ho : o < n) (he : h o = .inr (ci, fs)) (hM : AM l D tc y cc' nL' ret' fr' lo' 0 0 (.ref o :: av) n h (fun v n1 h1 => n1 = n ∧ Q' v h1)) (hR : fr' + 1 ≤ R.frames ∧ 8 + (nL' + 11) + lo' ≤ R.locals) (hc : cells ≤ R.cells ∧ slots ≤ R.slots) (hn : av.length = nA) (hst : av.reverse ++ .ref o :: rest = st) (hw : (rest.map fun v => v.category).sum ≤ 8) (d : decode cc pc = .ok (.invokevirtual idx, 3)) (k : ∀ (v : Option Value) (h1 : aw_H), Q' v h1 → AW l D tc own cc nL ret R n0 mc ms Q (pc + 3) L (v.toList ++ rest) n h1 cells slots) : AW l D tc own cc nL ret R n0 mc ms Q (pc) (L) (st) n h cells slots := by
  subst hst
  intro p e s m args below meth c H locs ls A ad ad0 X Y
  obtain ⟨hx, hb, hr0, hml, hown, hts, hlk, hK, hA⟩ := id X
  obtain ⟨hn0, had, hP, hD, hS, hL⟩ := Y
  obtain ⟨w3, w4, g1, g2, g3⟩ := hcw
  have hM' := hM ad A H.size (fun q hq => hA q (Nat.le_trans hS.1 hq))
  have hw9 := aw_ws_at (tc := tc) (ad := ad) (h := h) ho
  rw [he] at hw9
  have hB := callB_of (R := R) (own := own) (index := idx) (mc := 0) (ms := 0) (rm := { frames := fr', cells := 0, slots := 0, locals := lo' }) nA hts (aw_good w4) rfl rfl rfl (hts _ w3) (hts _ hl) ⟨g1, g2, g3⟩ hR
  have hr := va_runV (C := C) (b := ad o) (R := R) (e := e) (below := below) (meth := meth) (locs := locs) (cells := cells) (slots := slots) (As := av.map (aw_mv ad)) (rest := rest.map (aw_mv ad)) (g := F0 m pc ls ((av.reverse ++ .ref o :: rest).map (aw_mv ad))) ⟨hx, hb, hml, hown, hts⟩ hM' ⟨hB, hts _ hi, hts _ hs⟩ ⟨aw_blind, va_recv hK.1 hP hcl hw9, fun U hU hW => ⟨rfl, by rw [hU], aw_K.warm hW hK, by rw [hU]; exact hP, hD⟩⟩ rfl (by rw [List.length_map]; exact hn) hL.1 (by simp [List.map_reverse, aw_mv]) (lv_room (by rw [aw_cats]; exact hw)) d ⟨hc.1, hc.2⟩
  refine aw_cont hr hS (fun v n1 h1 ad1 H1 locs1 hq hn1 had1 hP1 hD1 hS1 => ?_)
  obtain ⟨e9, hq⟩ := hq
  subst e9
  have e8 : ad1 = ad := funext fun k9 => had1 k9 (fun q => by omega)
  subst e8
  rw [aw_stk]
  exact k v h1 hq p e s m args below meth c H1 locs1 ls A ad1 ad0 X ⟨hn0, had, hP1, hD1, hS1, hL⟩
/-- a call whose named method x is another than the one y that runs (owner: who declares x) -/
theorem aw_callO {y : MethodName} {cc' : ByteArray} {nL' nA fr' lo' idx : Nat} {ret' : Option FieldType} {Q' : Option Value → aw_H → Prop} {x : MethodName} {owner : String} {b0 : ByteArray} {m0 : Nat} {r0 : Option FieldType} {av : List Value} {o ci : Nat} {C : String} {T : u_T} {N : Nat} {fs : List Value} (hcw : aw_cw y cc' nL' ret' nA) (hl : Cond.methodLink own idx x ∈ aw_gw) (hsm : Cond.sameMethod x.cls owner x.name x.desc ∈ aw_gw) (hi0 : Cond.instanceMethod ⟨owner, x.name, x.desc⟩ ∈ aw_gw) (h0 : Cond.code ⟨owner, x.name, x.desc⟩ b0 m0 r0 ∈ aw_gw) (hi : Cond.instanceMethod y ∈ aw_gw) (hs : Cond.selects C x y ∈ aw_gw) (ho1 : owner ≠ "java/lang/invoke/MethodHandle" ∧ owner ≠ "java/lang/invoke/VarHandle" ∧ (parseMethodDescriptor x.desc).map (fun d => d.parameters.length) = some nA) (hcl : vwCl[ci]? = some (C, T, N)) (ho : o < n) (he : h o = .inr (ci, fs)) (hM : AM l D tc y cc' nL' ret' fr' lo' 0 0 (.ref o :: av) n h (fun v n1 h1 => n1 = n ∧ Q' v h1)) (hR : fr' + 1 ≤ R.frames ∧ 8 + (nL' + 11) + lo' ≤ R.locals) (hc : cells ≤ R.cells ∧ slots ≤ R.slots) (hn : av.length = nA) (hst : av.reverse ++ .ref o :: rest = st) (hw : (rest.map fun v => v.category).sum ≤ 8) (d : decode cc pc = .ok (.invokevirtual idx, 3)) (k : ∀ (v : Option Value) (h1 : aw_H), Q' v h1 → AW l D tc own cc nL ret R n0 mc ms Q (pc + 3) L (v.toList ++ rest) n h1 cells slots) : AW l D tc own cc nL ret R n0 mc ms Q (pc) (L) (st) n h cells slots := by
  subst hst
  intro p e s m args below meth c H locs ls A ad ad0 X Y
  obtain ⟨hx, hb, hr0, hml, hown, hts, hlk, hK, hA⟩ := id X
  obtain ⟨hn0, had, hP, hD, hS, hL⟩ := Y
  obtain ⟨w3, w4, g1, g2, g3⟩ := hcw
  have hM' := hM ad A H.size (fun q hq => hA q (Nat.le_trans hS.1 hq))
  have hw9 := aw_ws_at (tc := tc) (ad := ad) (h := h) ho
  rw [he] at hw9
  have hG : GoodIn aw_gw (va_wsO own idx C owner x y (Cond.code y cc' nL' ret' :: aw_gw)) := by
    intro w hw1
    have hm : w ∈ aw_gw := by
      unfold va_wsO at hw1
      simp only [List.cons_append, List.nil_append, List.mem_cons] at hw1
      rcases hw1 with rfl | rfl | rfl | rfl | rfl | rfl | rfl | hw1
      all_goals assumption
    exact ⟨hm, good_of_word (List.mem_filter.mp hm).2⟩
  have hB := va_cwO (R := R) (own := own) (index := idx) (C := C) (owner := owner) (x := x) (y := y) (mc := 0) (ms := 0) (rm := { frames := fr', cells := 0, slots := 0, locals := lo' }) nA hts hG rfl rfl rfl h0 ho1 hR
  have hr := va_runU (C := C) (b := ad o) (R := R) (e := e) (below := below) (meth := meth) (locs := locs) (cells := cells) (slots := slots) (As := av.map (aw_mv ad)) (rest := rest.map (aw_mv ad)) (g := F0 m pc ls ((av.reverse ++ .ref o :: rest).map (aw_mv ad))) ⟨hx, hb, hml, hown, hts⟩ hM' hB ⟨aw_blind, va_recv hK.1 hP hcl hw9, fun U hU hW => ⟨rfl, by rw [hU], aw_K.warm hW hK, by rw [hU]; exact hP, hD⟩⟩ rfl (by rw [List.length_map]; exact hn) hL.1 (by simp [List.map_reverse, aw_mv]) (lv_room (by rw [aw_cats]; exact hw)) d ⟨hc.1, hc.2⟩
  refine aw_cont hr hS (fun v n1 h1 ad1 H1 locs1 hq hn1 had1 hP1 hD1 hS1 => ?_)
  obtain ⟨e9, hq⟩ := hq
  subst e9
  have e8 : ad1 = ad := funext fun k9 => had1 k9 (fun q => by omega)
  subst e8
  rw [aw_stk]
  exact k v h1 hq p e s m args below meth c H1 locs1 ls A ad1 ad0 X ⟨hn0, had, hP1, hD1, hS1, hL⟩
end AWK
end
