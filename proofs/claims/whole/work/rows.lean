section
-- ===== PART A: goes FIRST, ahead of the names: the tables' words, and 'selects' of the private methods out of them =====
/-- a private method of a class that the tables say can be made, by its rows of tables_1 -/
def lw_okq (q : MethodName × Nat) : Prop := (q.1.cls ≠ "java/lang/invoke/MethodHandle" ∧ q.1.cls ≠ "java/lang/invoke/VarHandle") ∧ Cond.instantiable q.1.cls q.2 ∈ tables_1 ∧ Cond.privateMethod q.1 ∈ tables_1 ∧ Cond.instanceMethod q.1 ∈ tables_1
theorem lw_p0 : lw_okq (⟨"TenForOne", "isHouse", "(I)Z"⟩, 20) := ⟨⟨by decide +kernel, by decide +kernel⟩, List.mem_of_getElem? (i := 22) (by decide +kernel), List.mem_of_getElem? (i := 249) (by decide +kernel), List.mem_of_getElem? (i := 250) (by decide +kernel)⟩
theorem lw_p1 : lw_okq (⟨"TenForOne", "mayBeFather", "(II)Z"⟩, 20) := ⟨⟨by decide +kernel, by decide +kernel⟩, List.mem_of_getElem? (i := 22) (by decide +kernel), List.mem_of_getElem? (i := 253) (by decide +kernel), List.mem_of_getElem? (i := 254) (by decide +kernel)⟩
theorem lw_p2 : lw_okq (⟨"TenForOne", "personAt", "(I)LTenForOne$Person;"⟩, 20) := ⟨⟨by decide +kernel, by decide +kernel⟩, List.mem_of_getElem? (i := 22) (by decide +kernel), List.mem_of_getElem? (i := 257) (by decide +kernel), List.mem_of_getElem? (i := 258) (by decide +kernel)⟩
theorem lw_p3 : lw_okq (⟨"TenForOne", "owedOfAll", "(I)I"⟩, 20) := ⟨⟨by decide +kernel, by decide +kernel⟩, List.mem_of_getElem? (i := 22) (by decide +kernel), List.mem_of_getElem? (i := 337) (by decide +kernel), List.mem_of_getElem? (i := 338) (by decide +kernel)⟩
theorem lw_p4 : lw_okq (⟨"TenForOne", "partDebtsOf", "(I)V"⟩, 20) := ⟨⟨by decide +kernel, by decide +kernel⟩, List.mem_of_getElem? (i := 22) (by decide +kernel), List.mem_of_getElem? (i := 341) (by decide +kernel), List.mem_of_getElem? (i := 342) (by decide +kernel)⟩
theorem lw_p5 : lw_okq (⟨"TenForOne", "part", "(LTenForOne$Plea;I)Z"⟩, 20) := ⟨⟨by decide +kernel, by decide +kernel⟩, List.mem_of_getElem? (i := 22) (by decide +kernel), List.mem_of_getElem? (i := 345) (by decide +kernel), List.mem_of_getElem? (i := 346) (by decide +kernel)⟩
theorem lw_p6 : lw_okq (⟨"TenForOne", "weightOfAll", "(LTenForOne$Plea;)I"⟩, 20) := ⟨⟨by decide +kernel, by decide +kernel⟩, List.mem_of_getElem? (i := 22) (by decide +kernel), List.mem_of_getElem? (i := 349) (by decide +kernel), List.mem_of_getElem? (i := 350) (by decide +kernel)⟩
theorem lw_p7 : lw_okq (⟨"TenForOne", "mayBear", "(LTenForOne$Plea;I)Z"⟩, 20) := ⟨⟨by decide +kernel, by decide +kernel⟩, List.mem_of_getElem? (i := 22) (by decide +kernel), List.mem_of_getElem? (i := 353) (by decide +kernel), List.mem_of_getElem? (i := 354) (by decide +kernel)⟩
theorem lw_p8 : lw_okq (⟨"TenForOne", "giveOneMore", "(LTenForOne$Plea;)V"⟩, 20) := ⟨⟨by decide +kernel, by decide +kernel⟩, List.mem_of_getElem? (i := 22) (by decide +kernel), List.mem_of_getElem? (i := 361) (by decide +kernel), List.mem_of_getElem? (i := 362) (by decide +kernel)⟩
theorem lw_p9 : lw_okq (⟨"TenForOne$Person", "isAwayOn", "(I)Z"⟩, 10) := ⟨⟨by decide +kernel, by decide +kernel⟩, List.mem_of_getElem? (i := 260) (by decide +kernel), List.mem_of_getElem? (i := 409) (by decide +kernel), List.mem_of_getElem? (i := 410) (by decide +kernel)⟩
theorem lw_p10 : lw_okq (⟨"TenForOne", "areKin", "(II)Z"⟩, 20) := ⟨⟨by decide +kernel, by decide +kernel⟩, List.mem_of_getElem? (i := 22) (by decide +kernel), List.mem_of_getElem? (i := 417) (by decide +kernel), List.mem_of_getElem? (i := 418) (by decide +kernel)⟩
theorem lw_p11 : lw_okq (⟨"TenForOne$Tape", "readClause", "(LTenForOne$Laws;)Z"⟩, 4) := ⟨⟨by decide +kernel, by decide +kernel⟩, List.mem_of_getElem? (i := 54) (by decide +kernel), List.mem_of_getElem? (i := 441) (by decide +kernel), List.mem_of_getElem? (i := 442) (by decide +kernel)⟩
theorem lw_p12 : lw_okq (⟨"TenForOne$Tape", "nextSign", "()I"⟩, 4) := ⟨⟨by decide +kernel, by decide +kernel⟩, List.mem_of_getElem? (i := 54) (by decide +kernel), List.mem_of_getElem? (i := 445) (by decide +kernel), List.mem_of_getElem? (i := 446) (by decide +kernel)⟩
theorem lw_p13 : lw_okq (⟨"TenForOne$Tape", "fault", "(I)Z"⟩, 4) := ⟨⟨by decide +kernel, by decide +kernel⟩, List.mem_of_getElem? (i := 54) (by decide +kernel), List.mem_of_getElem? (i := 534) (by decide +kernel), List.mem_of_getElem? (i := 535) (by decide +kernel)⟩
theorem lw_p14 : lw_okq (⟨"TenForOne$Tape", "readAges", "(LTenForOne$Laws;I)Z"⟩, 4) := ⟨⟨by decide +kernel, by decide +kernel⟩, List.mem_of_getElem? (i := 54) (by decide +kernel), List.mem_of_getElem? (i := 538) (by decide +kernel), List.mem_of_getElem? (i := 539) (by decide +kernel)⟩
theorem lw_p15 : lw_okq (⟨"TenForOne$Tape", "readNumber", "(II)I"⟩, 4) := ⟨⟨by decide +kernel, by decide +kernel⟩, List.mem_of_getElem? (i := 54) (by decide +kernel), List.mem_of_getElem? (i := 542) (by decide +kernel), List.mem_of_getElem? (i := 543) (by decide +kernel)⟩
def lw_privs_1 : List (MethodName × Nat) := [(⟨"TenForOne", "isHouse", "(I)Z"⟩, 20), (⟨"TenForOne", "mayBeFather", "(II)Z"⟩, 20), (⟨"TenForOne", "personAt", "(I)LTenForOne$Person;"⟩, 20), (⟨"TenForOne", "owedOfAll", "(I)I"⟩, 20), (⟨"TenForOne", "partDebtsOf", "(I)V"⟩, 20), (⟨"TenForOne", "part", "(LTenForOne$Plea;I)Z"⟩, 20), (⟨"TenForOne", "weightOfAll", "(LTenForOne$Plea;)I"⟩, 20), (⟨"TenForOne", "mayBear", "(LTenForOne$Plea;I)Z"⟩, 20), (⟨"TenForOne", "giveOneMore", "(LTenForOne$Plea;)V"⟩, 20), (⟨"TenForOne$Person", "isAwayOn", "(I)Z"⟩, 10), (⟨"TenForOne", "areKin", "(II)Z"⟩, 20), (⟨"TenForOne$Tape", "readClause", "(LTenForOne$Laws;)Z"⟩, 4), (⟨"TenForOne$Tape", "nextSign", "()I"⟩, 4), (⟨"TenForOne$Tape", "fault", "(I)Z"⟩, 4), (⟨"TenForOne$Tape", "readAges", "(LTenForOne$Laws;I)Z"⟩, 4), (⟨"TenForOne$Tape", "readNumber", "(II)I"⟩, 4)]
theorem lw_r1 : ∀ q ∈ lw_privs_1, lw_okq q := List.forall_mem_cons.mpr ⟨lw_p0, List.forall_mem_cons.mpr ⟨lw_p1, List.forall_mem_cons.mpr ⟨lw_p2, List.forall_mem_cons.mpr ⟨lw_p3, List.forall_mem_cons.mpr ⟨lw_p4, List.forall_mem_cons.mpr ⟨lw_p5, List.forall_mem_cons.mpr ⟨lw_p6, List.forall_mem_cons.mpr ⟨lw_p7, List.forall_mem_cons.mpr ⟨lw_p8, List.forall_mem_cons.mpr ⟨lw_p9, List.forall_mem_cons.mpr ⟨lw_p10, List.forall_mem_cons.mpr ⟨lw_p11, List.forall_mem_cons.mpr ⟨lw_p12, List.forall_mem_cons.mpr ⟨lw_p13, List.forall_mem_cons.mpr ⟨lw_p14, List.forall_mem_cons.mpr ⟨lw_p15, fun _ h => absurd h List.not_mem_nil⟩⟩⟩⟩⟩⟩⟩⟩⟩⟩⟩⟩⟩⟩⟩⟩
theorem lw_p16 : lw_okq (⟨"TenForOne", "mustBeSworn", "(LTenForOne$Person;I)Z"⟩, 20) := ⟨⟨by decide +kernel, by decide +kernel⟩, List.mem_of_getElem? (i := 22) (by decide +kernel), List.mem_of_getElem? (i := 555) (by decide +kernel), List.mem_of_getElem? (i := 556) (by decide +kernel)⟩
theorem lw_p17 : lw_okq (⟨"TenForOne", "isGroup", "(I)Z"⟩, 20) := ⟨⟨by decide +kernel, by decide +kernel⟩, List.mem_of_getElem? (i := 22) (by decide +kernel), List.mem_of_getElem? (i := 579) (by decide +kernel), List.mem_of_getElem? (i := 580) (by decide +kernel)⟩
theorem lw_p18 : lw_okq (⟨"TenForOne", "membersOf", "(II)I"⟩, 20) := ⟨⟨by decide +kernel, by decide +kernel⟩, List.mem_of_getElem? (i := 22) (by decide +kernel), List.mem_of_getElem? (i := 587) (by decide +kernel), List.mem_of_getElem? (i := 588) (by decide +kernel)⟩
theorem lw_p19 : lw_okq (⟨"TenForOne", "beginSpell", "(LTenForOne$Person;II)V"⟩, 20) := ⟨⟨by decide +kernel, by decide +kernel⟩, List.mem_of_getElem? (i := 22) (by decide +kernel), List.mem_of_getElem? (i := 600) (by decide +kernel), List.mem_of_getElem? (i := 601) (by decide +kernel)⟩
theorem lw_p20 : lw_okq (⟨"TenForOne", "isWanting", "(LTenForOne$Person;II)Z"⟩, 20) := ⟨⟨by decide +kernel, by decide +kernel⟩, List.mem_of_getElem? (i := 22) (by decide +kernel), List.mem_of_getElem? (i := 651) (by decide +kernel), List.mem_of_getElem? (i := 652) (by decide +kernel)⟩
theorem lw_p21 : lw_okq (⟨"TenForOne", "isUnsworn", "(LTenForOne$Person;I)Z"⟩, 20) := ⟨⟨by decide +kernel, by decide +kernel⟩, List.mem_of_getElem? (i := 22) (by decide +kernel), List.mem_of_getElem? (i := 655) (by decide +kernel), List.mem_of_getElem? (i := 656) (by decide +kernel)⟩
theorem lw_p22 : lw_okq (⟨"TenForOne", "isIdle", "(LTenForOne$Person;I)Z"⟩, 20) := ⟨⟨by decide +kernel, by decide +kernel⟩, List.mem_of_getElem? (i := 22) (by decide +kernel), List.mem_of_getElem? (i := 659) (by decide +kernel), List.mem_of_getElem? (i := 660) (by decide +kernel)⟩
theorem lw_p23 : lw_okq (⟨"TenForOne", "lodgesOnOrBehind", "(II)Z"⟩, 20) := ⟨⟨by decide +kernel, by decide +kernel⟩, List.mem_of_getElem? (i := 22) (by decide +kernel), List.mem_of_getElem? (i := 671) (by decide +kernel), List.mem_of_getElem? (i := 672) (by decide +kernel)⟩
theorem lw_p24 : lw_okq (⟨"TenForOne", "groupCharged", "(ILTenForOne$Person;I)I"⟩, 20) := ⟨⟨by decide +kernel, by decide +kernel⟩, List.mem_of_getElem? (i := 22) (by decide +kernel), List.mem_of_getElem? (i := 701) (by decide +kernel), List.mem_of_getElem? (i := 702) (by decide +kernel)⟩
theorem lw_p25 : lw_okq (⟨"TenForOne", "stayOn", "(II)LTenForOne$Stay;"⟩, 20) := ⟨⟨by decide +kernel, by decide +kernel⟩, List.mem_of_getElem? (i := 22) (by decide +kernel), List.mem_of_getElem? (i := 705) (by decide +kernel), List.mem_of_getElem? (i := 706) (by decide +kernel)⟩
theorem lw_p26 : lw_okq (⟨"TenForOne", "hasLodgedLong", "(LTenForOne$Stay;I)Z"⟩, 20) := ⟨⟨by decide +kernel, by decide +kernel⟩, List.mem_of_getElem? (i := 22) (by decide +kernel), List.mem_of_getElem? (i := 709) (by decide +kernel), List.mem_of_getElem? (i := 710) (by decide +kernel)⟩
theorem lw_p27 : lw_okq (⟨"TenForOne", "gatherUnsworn", "(I)Z"⟩, 20) := ⟨⟨by decide +kernel, by decide +kernel⟩, List.mem_of_getElem? (i := 22) (by decide +kernel), List.mem_of_getElem? (i := 722) (by decide +kernel), List.mem_of_getElem? (i := 723) (by decide +kernel)⟩
theorem lw_p28 : lw_okq (⟨"TenForOne", "offerGroup", "(II)V"⟩, 20) := ⟨⟨by decide +kernel, by decide +kernel⟩, List.mem_of_getElem? (i := 22) (by decide +kernel), List.mem_of_getElem? (i := 739) (by decide +kernel), List.mem_of_getElem? (i := 740) (by decide +kernel)⟩
theorem lw_p29 : lw_okq (⟨"TenForOne", "askedOf", "(III)I"⟩, 20) := ⟨⟨by decide +kernel, by decide +kernel⟩, List.mem_of_getElem? (i := 22) (by decide +kernel), List.mem_of_getElem? (i := 743) (by decide +kernel), List.mem_of_getElem? (i := 744) (by decide +kernel)⟩
theorem lw_p30 : lw_okq (⟨"TenForOne", "hasKinIn", "(III)Z"⟩, 20) := ⟨⟨by decide +kernel, by decide +kernel⟩, List.mem_of_getElem? (i := 22) (by decide +kernel), List.mem_of_getElem? (i := 750) (by decide +kernel), List.mem_of_getElem? (i := 751) (by decide +kernel)⟩
theorem lw_p31 : lw_okq (⟨"TenForOne", "hasWealth", "(II)Z"⟩, 20) := ⟨⟨by decide +kernel, by decide +kernel⟩, List.mem_of_getElem? (i := 22) (by decide +kernel), List.mem_of_getElem? (i := 754) (by decide +kernel), List.mem_of_getElem? (i := 755) (by decide +kernel)⟩
def lw_privs_2 : List (MethodName × Nat) := [(⟨"TenForOne", "mustBeSworn", "(LTenForOne$Person;I)Z"⟩, 20), (⟨"TenForOne", "isGroup", "(I)Z"⟩, 20), (⟨"TenForOne", "membersOf", "(II)I"⟩, 20), (⟨"TenForOne", "beginSpell", "(LTenForOne$Person;II)V"⟩, 20), (⟨"TenForOne", "isWanting", "(LTenForOne$Person;II)Z"⟩, 20), (⟨"TenForOne", "isUnsworn", "(LTenForOne$Person;I)Z"⟩, 20), (⟨"TenForOne", "isIdle", "(LTenForOne$Person;I)Z"⟩, 20), (⟨"TenForOne", "lodgesOnOrBehind", "(II)Z"⟩, 20), (⟨"TenForOne", "groupCharged", "(ILTenForOne$Person;I)I"⟩, 20), (⟨"TenForOne", "stayOn", "(II)LTenForOne$Stay;"⟩, 20), (⟨"TenForOne", "hasLodgedLong", "(LTenForOne$Stay;I)Z"⟩, 20), (⟨"TenForOne", "gatherUnsworn", "(I)Z"⟩, 20), (⟨"TenForOne", "offerGroup", "(II)V"⟩, 20), (⟨"TenForOne", "askedOf", "(III)I"⟩, 20), (⟨"TenForOne", "hasKinIn", "(III)Z"⟩, 20), (⟨"TenForOne", "hasWealth", "(II)Z"⟩, 20)]
theorem lw_r2 : ∀ q ∈ lw_privs_2, lw_okq q := List.forall_mem_cons.mpr ⟨lw_p16, List.forall_mem_cons.mpr ⟨lw_p17, List.forall_mem_cons.mpr ⟨lw_p18, List.forall_mem_cons.mpr ⟨lw_p19, List.forall_mem_cons.mpr ⟨lw_p20, List.forall_mem_cons.mpr ⟨lw_p21, List.forall_mem_cons.mpr ⟨lw_p22, List.forall_mem_cons.mpr ⟨lw_p23, List.forall_mem_cons.mpr ⟨lw_p24, List.forall_mem_cons.mpr ⟨lw_p25, List.forall_mem_cons.mpr ⟨lw_p26, List.forall_mem_cons.mpr ⟨lw_p27, List.forall_mem_cons.mpr ⟨lw_p28, List.forall_mem_cons.mpr ⟨lw_p29, List.forall_mem_cons.mpr ⟨lw_p30, List.forall_mem_cons.mpr ⟨lw_p31, fun _ h => absurd h List.not_mem_nil⟩⟩⟩⟩⟩⟩⟩⟩⟩⟩⟩⟩⟩⟩⟩⟩
theorem lw_p32 : lw_okq (⟨"TenForOne$Filling", "addUp", "(I)V"⟩, 6) := ⟨⟨by decide +kernel, by decide +kernel⟩, List.mem_of_getElem? (i := 122) (by decide +kernel), List.mem_of_getElem? (i := 762) (by decide +kernel), List.mem_of_getElem? (i := 763) (by decide +kernel)⟩
theorem lw_p33 : lw_okq (⟨"TenForOne$Filling", "strikeOut", "(IZ)V"⟩, 6) := ⟨⟨by decide +kernel, by decide +kernel⟩, List.mem_of_getElem? (i := 122) (by decide +kernel), List.mem_of_getElem? (i := 769) (by decide +kernel), List.mem_of_getElem? (i := 770) (by decide +kernel)⟩
theorem lw_p34 : lw_okq (⟨"TenForOne$Filling", "improve", "(II)V"⟩, 6) := ⟨⟨by decide +kernel, by decide +kernel⟩, List.mem_of_getElem? (i := 122) (by decide +kernel), List.mem_of_getElem? (i := 779) (by decide +kernel), List.mem_of_getElem? (i := 780) (by decide +kernel)⟩
theorem lw_p35 : lw_okq (⟨"TenForOne$Filling", "leastWay", "()I"⟩, 6) := ⟨⟨by decide +kernel, by decide +kernel⟩, List.mem_of_getElem? (i := 122) (by decide +kernel), List.mem_of_getElem? (i := 788) (by decide +kernel), List.mem_of_getElem? (i := 789) (by decide +kernel)⟩
theorem lw_p36 : lw_okq (⟨"TenForOne", "settle", "(I)V"⟩, 20) := ⟨⟨by decide +kernel, by decide +kernel⟩, List.mem_of_getElem? (i := 22) (by decide +kernel), List.mem_of_getElem? (i := 792) (by decide +kernel), List.mem_of_getElem? (i := 793) (by decide +kernel)⟩
theorem lw_p37 : lw_okq (⟨"TenForOne", "hasPlea", "(II)Z"⟩, 20) := ⟨⟨by decide +kernel, by decide +kernel⟩, List.mem_of_getElem? (i := 22) (by decide +kernel), List.mem_of_getElem? (i := 812) (by decide +kernel), List.mem_of_getElem? (i := 813) (by decide +kernel)⟩
theorem lw_p38 : lw_okq (⟨"TenForOne", "callToAnswer", "(LTenForOne$Plea;)V"⟩, 20) := ⟨⟨by decide +kernel, by decide +kernel⟩, List.mem_of_getElem? (i := 22) (by decide +kernel), List.mem_of_getElem? (i := 856) (by decide +kernel), List.mem_of_getElem? (i := 857) (by decide +kernel)⟩
theorem lw_p39 : lw_okq (⟨"TenForOne", "borneBy", "(I)I"⟩, 20) := ⟨⟨by decide +kernel, by decide +kernel⟩, List.mem_of_getElem? (i := 22) (by decide +kernel), List.mem_of_getElem? (i := 894) (by decide +kernel), List.mem_of_getElem? (i := 895) (by decide +kernel)⟩
theorem lw_p40 : lw_okq (⟨"TenForOne", "borneByHeads", "(II)I"⟩, 20) := ⟨⟨by decide +kernel, by decide +kernel⟩, List.mem_of_getElem? (i := 22) (by decide +kernel), List.mem_of_getElem? (i := 898) (by decide +kernel), List.mem_of_getElem? (i := 899) (by decide +kernel)⟩
theorem lw_p41 : lw_okq (⟨"TenForOne", "bearsTooMuch", "(II)Z"⟩, 20) := ⟨⟨by decide +kernel, by decide +kernel⟩, List.mem_of_getElem? (i := 22) (by decide +kernel), List.mem_of_getElem? (i := 902) (by decide +kernel), List.mem_of_getElem? (i := 903) (by decide +kernel)⟩
theorem lw_p42 : lw_okq (⟨"TenForOne", "refusalOfSheet", "(II)I"⟩, 20) := ⟨⟨by decide +kernel, by decide +kernel⟩, List.mem_of_getElem? (i := 22) (by decide +kernel), List.mem_of_getElem? (i := 938) (by decide +kernel), List.mem_of_getElem? (i := 939) (by decide +kernel)⟩
theorem lw_p43 : lw_okq (⟨"TenForOneModel", "mayFather", "(II)Z"⟩, 67) := ⟨⟨by decide +kernel, by decide +kernel⟩, List.mem_of_getElem? (i := 977) (by decide +kernel), List.mem_of_getElem? (i := 1197) (by decide +kernel), List.mem_of_getElem? (i := 1198) (by decide +kernel)⟩
theorem lw_p44 : lw_okq (⟨"TenForOneModel", "isOne", "(I)Z"⟩, 67) := ⟨⟨by decide +kernel, by decide +kernel⟩, List.mem_of_getElem? (i := 977) (by decide +kernel), List.mem_of_getElem? (i := 1201) (by decide +kernel), List.mem_of_getElem? (i := 1202) (by decide +kernel)⟩
theorem lw_p45 : lw_okq (⟨"TenForOneModel", "isDead", "(I)Z"⟩, 67) := ⟨⟨by decide +kernel, by decide +kernel⟩, List.mem_of_getElem? (i := 977) (by decide +kernel), List.mem_of_getElem? (i := 1209) (by decide +kernel), List.mem_of_getElem? (i := 1210) (by decide +kernel)⟩
theorem lw_p46 : lw_okq (⟨"TenForOneModel", "isAway", "(I)Z"⟩, 67) := ⟨⟨by decide +kernel, by decide +kernel⟩, List.mem_of_getElem? (i := 977) (by decide +kernel), List.mem_of_getElem? (i := 1224) (by decide +kernel), List.mem_of_getElem? (i := 1225) (by decide +kernel)⟩
theorem lw_p47 : lw_okq (⟨"TenForOneModel", "lastFlight", "(I)I"⟩, 67) := ⟨⟨by decide +kernel, by decide +kernel⟩, List.mem_of_getElem? (i := 977) (by decide +kernel), List.mem_of_getElem? (i := 1228) (by decide +kernel), List.mem_of_getElem? (i := 1229) (by decide +kernel)⟩
def lw_privs_3 : List (MethodName × Nat) := [(⟨"TenForOne$Filling", "addUp", "(I)V"⟩, 6), (⟨"TenForOne$Filling", "strikeOut", "(IZ)V"⟩, 6), (⟨"TenForOne$Filling", "improve", "(II)V"⟩, 6), (⟨"TenForOne$Filling", "leastWay", "()I"⟩, 6), (⟨"TenForOne", "settle", "(I)V"⟩, 20), (⟨"TenForOne", "hasPlea", "(II)Z"⟩, 20), (⟨"TenForOne", "callToAnswer", "(LTenForOne$Plea;)V"⟩, 20), (⟨"TenForOne", "borneBy", "(I)I"⟩, 20), (⟨"TenForOne", "borneByHeads", "(II)I"⟩, 20), (⟨"TenForOne", "bearsTooMuch", "(II)Z"⟩, 20), (⟨"TenForOne", "refusalOfSheet", "(II)I"⟩, 20), (⟨"TenForOneModel", "mayFather", "(II)Z"⟩, 67), (⟨"TenForOneModel", "isOne", "(I)Z"⟩, 67), (⟨"TenForOneModel", "isDead", "(I)Z"⟩, 67), (⟨"TenForOneModel", "isAway", "(I)Z"⟩, 67), (⟨"TenForOneModel", "lastFlight", "(I)I"⟩, 67)]
theorem lw_r3 : ∀ q ∈ lw_privs_3, lw_okq q := List.forall_mem_cons.mpr ⟨lw_p32, List.forall_mem_cons.mpr ⟨lw_p33, List.forall_mem_cons.mpr ⟨lw_p34, List.forall_mem_cons.mpr ⟨lw_p35, List.forall_mem_cons.mpr ⟨lw_p36, List.forall_mem_cons.mpr ⟨lw_p37, List.forall_mem_cons.mpr ⟨lw_p38, List.forall_mem_cons.mpr ⟨lw_p39, List.forall_mem_cons.mpr ⟨lw_p40, List.forall_mem_cons.mpr ⟨lw_p41, List.forall_mem_cons.mpr ⟨lw_p42, List.forall_mem_cons.mpr ⟨lw_p43, List.forall_mem_cons.mpr ⟨lw_p44, List.forall_mem_cons.mpr ⟨lw_p45, List.forall_mem_cons.mpr ⟨lw_p46, List.forall_mem_cons.mpr ⟨lw_p47, fun _ h => absurd h List.not_mem_nil⟩⟩⟩⟩⟩⟩⟩⟩⟩⟩⟩⟩⟩⟩⟩⟩
theorem lw_p48 : lw_okq (⟨"TenForOneModel", "isBehind", "(II)Z"⟩, 67) := ⟨⟨by decide +kernel, by decide +kernel⟩, List.mem_of_getElem? (i := 977) (by decide +kernel), List.mem_of_getElem? (i := 1232) (by decide +kernel), List.mem_of_getElem? (i := 1233) (by decide +kernel)⟩
theorem lw_p49 : lw_okq (⟨"TenForOneModel", "isThere", "(II)Z"⟩, 67) := ⟨⟨by decide +kernel, by decide +kernel⟩, List.mem_of_getElem? (i := 977) (by decide +kernel), List.mem_of_getElem? (i := 1244) (by decide +kernel), List.mem_of_getElem? (i := 1245) (by decide +kernel)⟩
theorem lw_p50 : lw_okq (⟨"TenForOneModel", "areKin", "(II)Z"⟩, 67) := ⟨⟨by decide +kernel, by decide +kernel⟩, List.mem_of_getElem? (i := 977) (by decide +kernel), List.mem_of_getElem? (i := 1252) (by decide +kernel), List.mem_of_getElem? (i := 1253) (by decide +kernel)⟩
theorem lw_p51 : lw_okq (⟨"TenForOneModel", "readClause", "()V"⟩, 67) := ⟨⟨by decide +kernel, by decide +kernel⟩, List.mem_of_getElem? (i := 977) (by decide +kernel), List.mem_of_getElem? (i := 1265) (by decide +kernel), List.mem_of_getElem? (i := 1266) (by decide +kernel)⟩
theorem lw_p52 : lw_okq (⟨"TenForOneModel", "skip", "()V"⟩, 67) := ⟨⟨by decide +kernel, by decide +kernel⟩, List.mem_of_getElem? (i := 977) (by decide +kernel), List.mem_of_getElem? (i := 1269) (by decide +kernel), List.mem_of_getElem? (i := 1270) (by decide +kernel)⟩
theorem lw_p53 : lw_okq (⟨"TenForOneModel", "faultAt", "(I)V"⟩, 67) := ⟨⟨by decide +kernel, by decide +kernel⟩, List.mem_of_getElem? (i := 977) (by decide +kernel), List.mem_of_getElem? (i := 1276) (by decide +kernel), List.mem_of_getElem? (i := 1277) (by decide +kernel)⟩
theorem lw_p54 : lw_okq (⟨"TenForOneModel", "readNumber", "()V"⟩, 67) := ⟨⟨by decide +kernel, by decide +kernel⟩, List.mem_of_getElem? (i := 977) (by decide +kernel), List.mem_of_getElem? (i := 1280) (by decide +kernel), List.mem_of_getElem? (i := 1281) (by decide +kernel)⟩
theorem lw_p55 : lw_okq (⟨"TenForOneModel", "readByte", "(I)V"⟩, 67) := ⟨⟨by decide +kernel, by decide +kernel⟩, List.mem_of_getElem? (i := 977) (by decide +kernel), List.mem_of_getElem? (i := 1284) (by decide +kernel), List.mem_of_getElem? (i := 1285) (by decide +kernel)⟩
theorem lw_p56 : lw_okq (⟨"TenForOneModel", "mustBe", "(II)Z"⟩, 67) := ⟨⟨by decide +kernel, by decide +kernel⟩, List.mem_of_getElem? (i := 977) (by decide +kernel), List.mem_of_getElem? (i := 1292) (by decide +kernel), List.mem_of_getElem? (i := 1293) (by decide +kernel)⟩
theorem lw_p57 : lw_okq (⟨"TenForOneModel", "isGroup", "(I)Z"⟩, 67) := ⟨⟨by decide +kernel, by decide +kernel⟩, List.mem_of_getElem? (i := 977) (by decide +kernel), List.mem_of_getElem? (i := 1308) (by decide +kernel), List.mem_of_getElem? (i := 1309) (by decide +kernel)⟩
theorem lw_p58 : lw_okq (⟨"TenForOneModel", "isBound", "(II)Z"⟩, 67) := ⟨⟨by decide +kernel, by decide +kernel⟩, List.mem_of_getElem? (i := 977) (by decide +kernel), List.mem_of_getElem? (i := 1312) (by decide +kernel), List.mem_of_getElem? (i := 1313) (by decide +kernel)⟩
theorem lw_p59 : lw_okq (⟨"TenForOneModel", "membersOf", "(II)I"⟩, 67) := ⟨⟨by decide +kernel, by decide +kernel⟩, List.mem_of_getElem? (i := 977) (by decide +kernel), List.mem_of_getElem? (i := 1316) (by decide +kernel), List.mem_of_getElem? (i := 1317) (by decide +kernel)⟩
theorem lw_p60 : lw_okq (⟨"TenForOneModel", "isMember", "(III)Z"⟩, 67) := ⟨⟨by decide +kernel, by decide +kernel⟩, List.mem_of_getElem? (i := 977) (by decide +kernel), List.mem_of_getElem? (i := 1320) (by decide +kernel), List.mem_of_getElem? (i := 1321) (by decide +kernel)⟩
theorem lw_p61 : lw_okq (⟨"TenForOneModel", "spellAt", "(II)I"⟩, 67) := ⟨⟨by decide +kernel, by decide +kernel⟩, List.mem_of_getElem? (i := 977) (by decide +kernel), List.mem_of_getElem? (i := 1324) (by decide +kernel), List.mem_of_getElem? (i := 1325) (by decide +kernel)⟩
theorem lw_p62 : lw_okq (⟨"TenForOneModel", "begin", "(III)V"⟩, 67) := ⟨⟨by decide +kernel, by decide +kernel⟩, List.mem_of_getElem? (i := 977) (by decide +kernel), List.mem_of_getElem? (i := 1328) (by decide +kernel), List.mem_of_getElem? (i := 1329) (by decide +kernel)⟩
theorem lw_p63 : lw_okq (⟨"TenForOneModel", "isWant", "(III)Z"⟩, 67) := ⟨⟨by decide +kernel, by decide +kernel⟩, List.mem_of_getElem? (i := 977) (by decide +kernel), List.mem_of_getElem? (i := 1352) (by decide +kernel), List.mem_of_getElem? (i := 1353) (by decide +kernel)⟩
def lw_privs_4 : List (MethodName × Nat) := [(⟨"TenForOneModel", "isBehind", "(II)Z"⟩, 67), (⟨"TenForOneModel", "isThere", "(II)Z"⟩, 67), (⟨"TenForOneModel", "areKin", "(II)Z"⟩, 67), (⟨"TenForOneModel", "readClause", "()V"⟩, 67), (⟨"TenForOneModel", "skip", "()V"⟩, 67), (⟨"TenForOneModel", "faultAt", "(I)V"⟩, 67), (⟨"TenForOneModel", "readNumber", "()V"⟩, 67), (⟨"TenForOneModel", "readByte", "(I)V"⟩, 67), (⟨"TenForOneModel", "mustBe", "(II)Z"⟩, 67), (⟨"TenForOneModel", "isGroup", "(I)Z"⟩, 67), (⟨"TenForOneModel", "isBound", "(II)Z"⟩, 67), (⟨"TenForOneModel", "membersOf", "(II)I"⟩, 67), (⟨"TenForOneModel", "isMember", "(III)Z"⟩, 67), (⟨"TenForOneModel", "spellAt", "(II)I"⟩, 67), (⟨"TenForOneModel", "begin", "(III)V"⟩, 67), (⟨"TenForOneModel", "isWant", "(III)Z"⟩, 67)]
theorem lw_r4 : ∀ q ∈ lw_privs_4, lw_okq q := List.forall_mem_cons.mpr ⟨lw_p48, List.forall_mem_cons.mpr ⟨lw_p49, List.forall_mem_cons.mpr ⟨lw_p50, List.forall_mem_cons.mpr ⟨lw_p51, List.forall_mem_cons.mpr ⟨lw_p52, List.forall_mem_cons.mpr ⟨lw_p53, List.forall_mem_cons.mpr ⟨lw_p54, List.forall_mem_cons.mpr ⟨lw_p55, List.forall_mem_cons.mpr ⟨lw_p56, List.forall_mem_cons.mpr ⟨lw_p57, List.forall_mem_cons.mpr ⟨lw_p58, List.forall_mem_cons.mpr ⟨lw_p59, List.forall_mem_cons.mpr ⟨lw_p60, List.forall_mem_cons.mpr ⟨lw_p61, List.forall_mem_cons.mpr ⟨lw_p62, List.forall_mem_cons.mpr ⟨lw_p63, fun _ h => absurd h List.not_mem_nil⟩⟩⟩⟩⟩⟩⟩⟩⟩⟩⟩⟩⟩⟩⟩⟩
theorem lw_p64 : lw_okq (⟨"TenForOneModel", "chargedFor", "(II)I"⟩, 67) := ⟨⟨by decide +kernel, by decide +kernel⟩, List.mem_of_getElem? (i := 977) (by decide +kernel), List.mem_of_getElem? (i := 1368) (by decide +kernel), List.mem_of_getElem? (i := 1369) (by decide +kernel)⟩
theorem lw_p65 : lw_okq (⟨"TenForOneModel", "nightsOf", "(II)I"⟩, 67) := ⟨⟨by decide +kernel, by decide +kernel⟩, List.mem_of_getElem? (i := 977) (by decide +kernel), List.mem_of_getElem? (i := 1372) (by decide +kernel), List.mem_of_getElem? (i := 1373) (by decide +kernel)⟩
theorem lw_p66 : lw_okq (⟨"TenForOneModel", "isFair", "(I)Z"⟩, 67) := ⟨⟨by decide +kernel, by decide +kernel⟩, List.mem_of_getElem? (i := 977) (by decide +kernel), List.mem_of_getElem? (i := 1376) (by decide +kernel), List.mem_of_getElem? (i := 1377) (by decide +kernel)⟩
theorem lw_p67 : lw_okq (⟨"TenForOneModel", "groupOfHouse", "(II)I"⟩, 67) := ⟨⟨by decide +kernel, by decide +kernel⟩, List.mem_of_getElem? (i := 977) (by decide +kernel), List.mem_of_getElem? (i := 1380) (by decide +kernel), List.mem_of_getElem? (i := 1381) (by decide +kernel)⟩
theorem lw_p68 : lw_okq (⟨"TenForOneModel", "isComer", "(II)Z"⟩, 67) := ⟨⟨by decide +kernel, by decide +kernel⟩, List.mem_of_getElem? (i := 977) (by decide +kernel), List.mem_of_getElem? (i := 1388) (by decide +kernel), List.mem_of_getElem? (i := 1389) (by decide +kernel)⟩
theorem lw_p69 : lw_okq (⟨"TenForOneModel", "findAsked", "(I)V"⟩, 67) := ⟨⟨by decide +kernel, by decide +kernel⟩, List.mem_of_getElem? (i := 977) (by decide +kernel), List.mem_of_getElem? (i := 1392) (by decide +kernel), List.mem_of_getElem? (i := 1393) (by decide +kernel)⟩
theorem lw_p70 : lw_okq (⟨"TenForOneModel", "hasKin", "(III)Z"⟩, 67) := ⟨⟨by decide +kernel, by decide +kernel⟩, List.mem_of_getElem? (i := 977) (by decide +kernel), List.mem_of_getElem? (i := 1396) (by decide +kernel), List.mem_of_getElem? (i := 1397) (by decide +kernel)⟩
theorem lw_p71 : lw_okq (⟨"TenForOneModel", "findBest", "()I"⟩, 67) := ⟨⟨by decide +kernel, by decide +kernel⟩, List.mem_of_getElem? (i := 977) (by decide +kernel), List.mem_of_getElem? (i := 1400) (by decide +kernel), List.mem_of_getElem? (i := 1401) (by decide +kernel)⟩
theorem lw_p72 : lw_okq (⟨"TenForOneModel", "isGood", "()Z"⟩, 67) := ⟨⟨by decide +kernel, by decide +kernel⟩, List.mem_of_getElem? (i := 977) (by decide +kernel), List.mem_of_getElem? (i := 1404) (by decide +kernel), List.mem_of_getElem? (i := 1405) (by decide +kernel)⟩
theorem lw_p73 : lw_okq (⟨"TenForOneModel", "groupAhead", "(I)I"⟩, 67) := ⟨⟨by decide +kernel, by decide +kernel⟩, List.mem_of_getElem? (i := 977) (by decide +kernel), List.mem_of_getElem? (i := 1416) (by decide +kernel), List.mem_of_getElem? (i := 1417) (by decide +kernel)⟩
theorem lw_p74 : lw_okq (⟨"TenForOneModel", "isBrought", "(I)Z"⟩, 67) := ⟨⟨by decide +kernel, by decide +kernel⟩, List.mem_of_getElem? (i := 977) (by decide +kernel), List.mem_of_getElem? (i := 1424) (by decide +kernel), List.mem_of_getElem? (i := 1425) (by decide +kernel)⟩
theorem lw_p75 : lw_okq (⟨"TenForOneModel", "isPartedAmong", "(II)Z"⟩, 67) := ⟨⟨by decide +kernel, by decide +kernel⟩, List.mem_of_getElem? (i := 977) (by decide +kernel), List.mem_of_getElem? (i := 1432) (by decide +kernel), List.mem_of_getElem? (i := 1433) (by decide +kernel)⟩
theorem lw_p76 : lw_okq (⟨"TenForOneModel", "takesPart", "(II)Z"⟩, 67) := ⟨⟨by decide +kernel, by decide +kernel⟩, List.mem_of_getElem? (i := 977) (by decide +kernel), List.mem_of_getElem? (i := 1436) (by decide +kernel), List.mem_of_getElem? (i := 1437) (by decide +kernel)⟩
theorem lw_p77 : lw_okq (⟨"TenForOneModel", "weightOf", "(I)I"⟩, 67) := ⟨⟨by decide +kernel, by decide +kernel⟩, List.mem_of_getElem? (i := 977) (by decide +kernel), List.mem_of_getElem? (i := 1440) (by decide +kernel), List.mem_of_getElem? (i := 1441) (by decide +kernel)⟩
theorem lw_p78 : lw_okq (⟨"TenForOneModel", "owesAll", "(I)I"⟩, 67) := ⟨⟨by decide +kernel, by decide +kernel⟩, List.mem_of_getElem? (i := 977) (by decide +kernel), List.mem_of_getElem? (i := 1448) (by decide +kernel), List.mem_of_getElem? (i := 1449) (by decide +kernel)⟩
theorem lw_p79 : lw_okq (⟨"TenForOneModel", "borneBy", "(I)I"⟩, 67) := ⟨⟨by decide +kernel, by decide +kernel⟩, List.mem_of_getElem? (i := 977) (by decide +kernel), List.mem_of_getElem? (i := 1465) (by decide +kernel), List.mem_of_getElem? (i := 1466) (by decide +kernel)⟩
def lw_privs_5 : List (MethodName × Nat) := [(⟨"TenForOneModel", "chargedFor", "(II)I"⟩, 67), (⟨"TenForOneModel", "nightsOf", "(II)I"⟩, 67), (⟨"TenForOneModel", "isFair", "(I)Z"⟩, 67), (⟨"TenForOneModel", "groupOfHouse", "(II)I"⟩, 67), (⟨"TenForOneModel", "isComer", "(II)Z"⟩, 67), (⟨"TenForOneModel", "findAsked", "(I)V"⟩, 67), (⟨"TenForOneModel", "hasKin", "(III)Z"⟩, 67), (⟨"TenForOneModel", "findBest", "()I"⟩, 67), (⟨"TenForOneModel", "isGood", "()Z"⟩, 67), (⟨"TenForOneModel", "groupAhead", "(I)I"⟩, 67), (⟨"TenForOneModel", "isBrought", "(I)Z"⟩, 67), (⟨"TenForOneModel", "isPartedAmong", "(II)Z"⟩, 67), (⟨"TenForOneModel", "takesPart", "(II)Z"⟩, 67), (⟨"TenForOneModel", "weightOf", "(I)I"⟩, 67), (⟨"TenForOneModel", "owesAll", "(I)I"⟩, 67), (⟨"TenForOneModel", "borneBy", "(I)I"⟩, 67)]
theorem lw_r5 : ∀ q ∈ lw_privs_5, lw_okq q := List.forall_mem_cons.mpr ⟨lw_p64, List.forall_mem_cons.mpr ⟨lw_p65, List.forall_mem_cons.mpr ⟨lw_p66, List.forall_mem_cons.mpr ⟨lw_p67, List.forall_mem_cons.mpr ⟨lw_p68, List.forall_mem_cons.mpr ⟨lw_p69, List.forall_mem_cons.mpr ⟨lw_p70, List.forall_mem_cons.mpr ⟨lw_p71, List.forall_mem_cons.mpr ⟨lw_p72, List.forall_mem_cons.mpr ⟨lw_p73, List.forall_mem_cons.mpr ⟨lw_p74, List.forall_mem_cons.mpr ⟨lw_p75, List.forall_mem_cons.mpr ⟨lw_p76, List.forall_mem_cons.mpr ⟨lw_p77, List.forall_mem_cons.mpr ⟨lw_p78, List.forall_mem_cons.mpr ⟨lw_p79, fun _ h => absurd h List.not_mem_nil⟩⟩⟩⟩⟩⟩⟩⟩⟩⟩⟩⟩⟩⟩⟩⟩
theorem lw_p80 : lw_okq (⟨"TenForOneModel", "byHeads", "(II)I"⟩, 67) := ⟨⟨by decide +kernel, by decide +kernel⟩, List.mem_of_getElem? (i := 977) (by decide +kernel), List.mem_of_getElem? (i := 1469) (by decide +kernel), List.mem_of_getElem? (i := 1470) (by decide +kernel)⟩
theorem lw_p81 : lw_okq (⟨"TenForOneModel", "leftOutOf", "(I)I"⟩, 67) := ⟨⟨by decide +kernel, by decide +kernel⟩, List.mem_of_getElem? (i := 977) (by decide +kernel), List.mem_of_getElem? (i := 1499) (by decide +kernel), List.mem_of_getElem? (i := 1500) (by decide +kernel)⟩
def lw_privs_6 : List (MethodName × Nat) := [(⟨"TenForOneModel", "byHeads", "(II)I"⟩, 67), (⟨"TenForOneModel", "leftOutOf", "(I)I"⟩, 67)]
theorem lw_r6 : ∀ q ∈ lw_privs_6, lw_okq q := List.forall_mem_cons.mpr ⟨lw_p80, List.forall_mem_cons.mpr ⟨lw_p81, fun _ h => absurd h List.not_mem_nil⟩⟩
def lw_privs : List (MethodName × Nat) := lw_privs_1 ++ (lw_privs_2 ++ (lw_privs_3 ++ (lw_privs_4 ++ (lw_privs_5 ++ (lw_privs_6)))))
def lw_tbl : List Cond := k2_sels lw_privs ++ tables_1
theorem lw_privs_ok : ∀ q ∈ lw_privs, lw_okq q := by
  show ∀ q ∈ lw_privs_1 ++ (lw_privs_2 ++ (lw_privs_3 ++ (lw_privs_4 ++ (lw_privs_5 ++ (lw_privs_6))))), lw_okq q
  exact List.forall_mem_append.mpr ⟨lw_r1, List.forall_mem_append.mpr ⟨lw_r2, List.forall_mem_append.mpr ⟨lw_r3, List.forall_mem_append.mpr ⟨lw_r4, List.forall_mem_append.mpr ⟨lw_r5, lw_r6⟩⟩⟩⟩⟩
end
section
def RX0 : String := "TenForOne$Fairs"
def TX0 : u_T := fun k => match k with
  | 0 => ("TenForOne$Fairs", "from", "[I", true)
  | 1 => ("TenForOne$Fairs", "to", "[I", true)
  | _ => ("TenForOne$Fairs", "size", "I", false)
def tyX0 : Nat → FieldType := fun k => match k with
  | 0 => .array .int
  | 1 => .array .int
  | _ => .int
abbrev wsX00 : List Cond := u_ws RX0 TX0 3
theorem nmX0 : ∀ a, a < 3 → ∀ b, b < 3 → a ≠ b → (TX0 a).2.1 ≠ (TX0 b).2.1 := by decide +kernel
theorem tyX0_ok : ∀ k, k < 3 → parseFieldDescriptor (TX0 k).2.2.1 = some (tyX0 k) := by decide +kernel
abbrev cX0_init : ByteArray := prog_2_method_1_code
def yX0_init : MethodName := ⟨RX0, "<init>", "()V"⟩
abbrev cX0_put : ByteArray := prog_2_method_2_code
def yX0_put : MethodName := ⟨RX0, "put", "(II)V"⟩
abbrev cX0_endAround : ByteArray := prog_2_method_3_code
def yX0_endAround : MethodName := ⟨RX0, "endAround", "(I)I"⟩
def RX1 : String := "TenForOne$Filling"
def TX1 : u_T := fun k => match k with
  | 0 => ("TenForOne$Filling", "who", "[I", true)
  | 1 => ("TenForOne$Filling", "asked", "[I", true)
  | 2 => ("TenForOne$Filling", "size", "I", false)
  | 3 => ("TenForOne$Filling", "poorSet", "I", false)
  | 4 => ("TenForOne$Filling", "intoGroup", "[I", true)
  | _ => ("TenForOne$Filling", "best", "[I", true)
def tyX1 : Nat → FieldType := fun k => match k with
  | 0 => .array .int
  | 1 => .array .int
  | 2 => .int
  | 3 => .int
  | 4 => .array .int
  | _ => .array .int
abbrev wsX10 : List Cond := u_ws RX1 TX1 6
theorem nmX1 : ∀ a, a < 6 → ∀ b, b < 6 → a ≠ b → (TX1 a).2.1 ≠ (TX1 b).2.1 := by decide +kernel
theorem tyX1_ok : ∀ k, k < 6 → parseFieldDescriptor (TX1 k).2.2.1 = some (tyX1 k) := by decide +kernel
abbrev cX1_init : ByteArray := prog_3_method_1_code
def yX1_init : MethodName := ⟨RX1, "<init>", "()V"⟩
abbrev cX1_clear : ByteArray := prog_3_method_2_code
def yX1_clear : MethodName := ⟨RX1, "clear", "()V"⟩
abbrev cX1_put : ByteArray := prog_3_method_3_code
def yX1_put : MethodName := ⟨RX1, "put", "(IZ)V"⟩
abbrev cX1_begin : ByteArray := prog_3_method_4_code
def yX1_begin : MethodName := ⟨RX1, "begin", "()V"⟩
abbrev cX1_offer : ByteArray := prog_3_method_5_code
def yX1_offer : MethodName := ⟨RX1, "offer", "(IIZ)V"⟩
abbrev cX1_addUp : ByteArray := prog_3_method_6_code
def yX1_addUp : MethodName := ⟨RX1, "addUp", "(I)V"⟩
abbrev cX1_strikeOut : ByteArray := prog_3_method_7_code
def yX1_strikeOut : MethodName := ⟨RX1, "strikeOut", "(IZ)V"⟩
abbrev cX1_improve : ByteArray := prog_3_method_8_code
def yX1_improve : MethodName := ⟨RX1, "improve", "(II)V"⟩
abbrev cX1_leastWay : ByteArray := prog_3_method_9_code
def yX1_leastWay : MethodName := ⟨RX1, "leastWay", "()I"⟩
abbrev cX1_isPossible : ByteArray := prog_3_method_10_code
def yX1_isPossible : MethodName := ⟨RX1, "isPossible", "()Z"⟩
abbrev cX1_leastAsked : ByteArray := prog_3_method_11_code
def yX1_leastAsked : MethodName := ⟨RX1, "leastAsked", "()I"⟩
abbrev cX1_groupFor : ByteArray := prog_3_method_12_code
def yX1_groupFor : MethodName := ⟨RX1, "groupFor", "(I)I"⟩
abbrev cX1_shiftOf : ByteArray := prog_3_method_13_code
def yX1_shiftOf : MethodName := ⟨RX1, "shiftOf", "(I)I"⟩
def RX2 : String := "TenForOne$Flight"
def TX2 : u_T := fun k => match k with
  | 0 => ("TenForOne$Flight", "from", "I", true)
  | 1 => ("TenForOne$Flight", "earlier", "LTenForOne$Flight;", true)
  | _ => ("TenForOne$Flight", "back", "I", false)
def tyX2 : Nat → FieldType := fun k => match k with
  | 0 => .int
  | 1 => .object "TenForOne$Flight"
  | _ => .int
abbrev wsX20 : List Cond := u_ws RX2 TX2 3
theorem nmX2 : ∀ a, a < 3 → ∀ b, b < 3 → a ≠ b → (TX2 a).2.1 ≠ (TX2 b).2.1 := by decide +kernel
theorem tyX2_ok : ∀ k, k < 3 → parseFieldDescriptor (TX2 k).2.2.1 = some (tyX2 k) := by decide +kernel
abbrev cX2_init : ByteArray := prog_4_method_1_code
def yX2_init : MethodName := ⟨RX2, "<init>", "(ILTenForOne$Flight;)V"⟩
def RX3 : String := "TenForOne$Laws"
def TX3 : u_T := fun k => match k with
  | 0 => ("TenForOne$Laws", "least", "[I", true)
  | 1 => ("TenForOne$Laws", "most", "[I", true)
  | _ => ("TenForOne$Laws", "nights", "I", false)
def tyX3 : Nat → FieldType := fun k => match k with
  | 0 => .array .int
  | 1 => .array .int
  | _ => .int
abbrev wsX30 : List Cond := u_ws RX3 TX3 3
theorem nmX3 : ∀ a, a < 3 → ∀ b, b < 3 → a ≠ b → (TX3 a).2.1 ≠ (TX3 b).2.1 := by decide +kernel
theorem tyX3_ok : ∀ k, k < 3 → parseFieldDescriptor (TX3 k).2.2.1 = some (tyX3 k) := by decide +kernel
abbrev cX3_init : ByteArray := prog_5_method_1_code
def yX3_init : MethodName := ⟨RX3, "<init>", "()V"⟩
abbrev cX3_clear : ByteArray := prog_5_method_2_code
def yX3_clear : MethodName := ⟨RX3, "clear", "()V"⟩
abbrev cX3_setAges : ByteArray := prog_5_method_3_code
def yX3_setAges : MethodName := ⟨RX3, "setAges", "(III)V"⟩
abbrev cX3_bind : ByteArray := prog_5_method_4_code
def yX3_bind : MethodName := ⟨RX3, "bind", "(II)Z"⟩
def RX4 : String := "TenForOne$Person"
def TX4 : u_T := fun k => match k with
  | 0 => ("TenForOne$Person", "kind", "I", true)
  | 1 => ("TenForOne$Person", "born", "I", true)
  | 2 => ("TenForOne$Person", "name", "I", true)
  | 3 => ("TenForOne$Person", "house", "I", true)
  | 4 => ("TenForOne$Person", "isPoor", "Z", true)
  | 5 => ("TenForOne$Person", "father", "I", true)
  | 6 => ("TenForOne$Person", "death", "I", false)
  | 7 => ("TenForOne$Person", "cameInto", "I", false)
  | 8 => ("TenForOne$Person", "latestFlight", "LTenForOne$Flight;", false)
  | _ => ("TenForOne$Person", "latestSpell", "LTenForOne$Spell;", false)
def tyX4 : Nat → FieldType := fun k => match k with
  | 0 => .int
  | 1 => .int
  | 2 => .int
  | 3 => .int
  | 4 => .boolean
  | 5 => .int
  | 6 => .int
  | 7 => .int
  | 8 => .object "TenForOne$Flight"
  | _ => .object "TenForOne$Spell"
abbrev wsX40 : List Cond := u_ws RX4 TX4 10
theorem nmX4 : ∀ a, a < 10 → ∀ b, b < 10 → a ≠ b → (TX4 a).2.1 ≠ (TX4 b).2.1 := by decide +kernel
theorem tyX4_ok : ∀ k, k < 10 → parseFieldDescriptor (TX4 k).2.2.1 = some (tyX4 k) := by decide +kernel
abbrev cX4_init : ByteArray := prog_6_method_1_code
def yX4_init : MethodName := ⟨RX4, "<init>", "(IIIIZI)V"⟩
abbrev cX4_ageOn : ByteArray := prog_6_method_2_code
def yX4_ageOn : MethodName := ⟨RX4, "ageOn", "(I)I"⟩
abbrev cX4_weight : ByteArray := prog_6_method_3_code
def yX4_weight : MethodName := ⟨RX4, "weight", "()I"⟩
abbrev cX4_isDead : ByteArray := prog_6_method_4_code
def yX4_isDead : MethodName := ⟨RX4, "isDead", "()Z"⟩
abbrev cX4_isAway : ByteArray := prog_6_method_5_code
def yX4_isAway : MethodName := ⟨RX4, "isAway", "()Z"⟩
abbrev cX4_latestMove : ByteArray := prog_6_method_6_code
def yX4_latestMove : MethodName := ⟨RX4, "latestMove", "()I"⟩
abbrev cX4_isThereOn : ByteArray := prog_6_method_7_code
def yX4_isThereOn : MethodName := ⟨RX4, "isThereOn", "(I)Z"⟩
abbrev cX4_isAwayOn : ByteArray := prog_6_method_8_code
def yX4_isAwayOn : MethodName := ⟨RX4, "isAwayOn", "(I)Z"⟩
abbrev cX4_mayJoin : ByteArray := prog_6_method_9_code
def yX4_mayJoin : MethodName := ⟨RX4, "mayJoin", "(I)Z"⟩
abbrev cX4_spellOn : ByteArray := prog_6_method_10_code
def yX4_spellOn : MethodName := ⟨RX4, "spellOn", "(I)LTenForOne$Spell;"⟩
abbrev cX4_groupOn : ByteArray := prog_6_method_11_code
def yX4_groupOn : MethodName := ⟨RX4, "groupOn", "(I)I"⟩
def RX5 : String := "TenForOne$Plea"
def TX5 : u_T := fun k => match k with
  | 0 => ("TenForOne$Plea", "who", "I", true)
  | 1 => ("TenForOne$Plea", "flight", "LTenForOne$Flight;", true)
  | 2 => ("TenForOne$Plea", "group", "I", true)
  | 3 => ("TenForOne$Plea", "fine", "I", true)
  | 4 => ("TenForOne$Plea", "answers", "[Z", true)
  | 5 => ("TenForOne$Plea", "owed", "[I", true)
  | 6 => ("TenForOne$Plea", "answererCount", "I", false)
  | 7 => ("TenForOne$Plea", "isParted", "Z", false)
  | _ => ("TenForOne$Plea", "isBorne", "Z", false)
def tyX5 : Nat → FieldType := fun k => match k with
  | 0 => .int
  | 1 => .object "TenForOne$Flight"
  | 2 => .int
  | 3 => .int
  | 4 => .array .boolean
  | 5 => .array .int
  | 6 => .int
  | 7 => .boolean
  | _ => .boolean
abbrev wsX50 : List Cond := u_ws RX5 TX5 9
theorem nmX5 : ∀ a, a < 9 → ∀ b, b < 9 → a ≠ b → (TX5 a).2.1 ≠ (TX5 b).2.1 := by decide +kernel
theorem tyX5_ok : ∀ k, k < 9 → parseFieldDescriptor (TX5 k).2.2.1 = some (tyX5 k) := by decide +kernel
abbrev cX5_init : ByteArray := prog_7_method_1_code
def yX5_init : MethodName := ⟨RX5, "<init>", "(ILTenForOne$Flight;II)V"⟩
abbrev cX5_isBrought : ByteArray := prog_7_method_2_code
def yX5_isBrought : MethodName := ⟨RX5, "isBrought", "()Z"⟩
abbrev cX5_isDueOn : ByteArray := prog_7_method_3_code
def yX5_isDueOn : MethodName := ⟨RX5, "isDueOn", "(I)Z"⟩
abbrev cX5_state : ByteArray := prog_7_method_4_code
def yX5_state : MethodName := ⟨RX5, "state", "()I"⟩
def RX6 : String := "TenForOne$Roll"
def TX6 : u_T := fun k => match k with
  | 0 => ("TenForOne$Roll", "listed", "[I", true)
  | 1 => ("TenForOne$Roll", "borneNames", "[I", true)
  | 2 => ("TenForOne$Roll", "isMember", "[Z", true)
  | _ => ("TenForOne$Roll", "isTold", "Z", false)
def tyX6 : Nat → FieldType := fun k => match k with
  | 0 => .array .int
  | 1 => .array .int
  | 2 => .array .boolean
  | _ => .boolean
abbrev wsX60 : List Cond := u_ws RX6 TX6 4
theorem nmX6 : ∀ a, a < 4 → ∀ b, b < 4 → a ≠ b → (TX6 a).2.1 ≠ (TX6 b).2.1 := by decide +kernel
theorem tyX6_ok : ∀ k, k < 4 → parseFieldDescriptor (TX6 k).2.2.1 = some (tyX6 k) := by decide +kernel
abbrev cX6_init : ByteArray := prog_8_method_1_code
def yX6_init : MethodName := ⟨RX6, "<init>", "()V"⟩
abbrev cX6_begin : ByteArray := prog_8_method_2_code
def yX6_begin : MethodName := ⟨RX6, "begin", "(LTenForOne$Sheet;)V"⟩
abbrev cX6_putMember : ByteArray := prog_8_method_3_code
def yX6_putMember : MethodName := ⟨RX6, "putMember", "(II)V"⟩
abbrev cX6_leftOutOf : ByteArray := prog_8_method_4_code
def yX6_leftOutOf : MethodName := ⟨RX6, "leftOutOf", "(I)I"⟩
abbrev cX6_leftOutOfAll : ByteArray := prog_8_method_5_code
def yX6_leftOutOfAll : MethodName := ⟨RX6, "leftOutOfAll", "()I"⟩
def RX7 : String := "TenForOne$Sheet"
def TX7 : u_T := fun k => match k with
  | 0 => ("TenForOne$Sheet", "items", "[I", true)
  | 1 => ("TenForOne$Sheet", "lane", "I", false)
  | _ => ("TenForOne$Sheet", "size", "I", false)
def tyX7 : Nat → FieldType := fun k => match k with
  | 0 => .array .int
  | 1 => .int
  | _ => .int
abbrev wsX70 : List Cond := u_ws RX7 TX7 3
theorem nmX7 : ∀ a, a < 3 → ∀ b, b < 3 → a ≠ b → (TX7 a).2.1 ≠ (TX7 b).2.1 := by decide +kernel
theorem tyX7_ok : ∀ k, k < 3 → parseFieldDescriptor (TX7 k).2.2.1 = some (tyX7 k) := by decide +kernel
abbrev cX7_init : ByteArray := prog_9_method_1_code
def yX7_init : MethodName := ⟨RX7, "<init>", "()V"⟩
abbrev cX7_isNothing : ByteArray := prog_9_method_2_code
def yX7_isNothing : MethodName := ⟨RX7, "isNothing", "()Z"⟩
abbrev cX7_renew : ByteArray := prog_9_method_3_code
def yX7_renew : MethodName := ⟨RX7, "renew", "(II)V"⟩
abbrev cX7_put : ByteArray := prog_9_method_4_code
def yX7_put : MethodName := ⟨RX7, "put", "(II)V"⟩
def RX8 : String := "TenForOne$Spell"
def TX8 : u_T := fun k => match k with
  | 0 => ("TenForOne$Spell", "group", "I", true)
  | 1 => ("TenForOne$Spell", "from", "I", true)
  | 2 => ("TenForOne$Spell", "earlier", "LTenForOne$Spell;", true)
  | _ => ("TenForOne$Spell", "end", "I", false)
def tyX8 : Nat → FieldType := fun k => match k with
  | 0 => .int
  | 1 => .int
  | 2 => .object "TenForOne$Spell"
  | _ => .int
abbrev wsX80 : List Cond := u_ws RX8 TX8 4
theorem nmX8 : ∀ a, a < 4 → ∀ b, b < 4 → a ≠ b → (TX8 a).2.1 ≠ (TX8 b).2.1 := by decide +kernel
theorem tyX8_ok : ∀ k, k < 4 → parseFieldDescriptor (TX8 k).2.2.1 = some (tyX8 k) := by decide +kernel
abbrev cX8_init : ByteArray := prog_10_method_1_code
def yX8_init : MethodName := ⟨RX8, "<init>", "(IILTenForOne$Spell;)V"⟩
def RX9 : String := "TenForOne$Stay"
def TX9 : u_T := fun k => match k with
  | 0 => ("TenForOne$Stay", "who", "I", true)
  | 1 => ("TenForOne$Stay", "house", "I", true)
  | 2 => ("TenForOne$Stay", "from", "I", true)
  | _ => ("TenForOne$Stay", "to", "I", true)
def tyX9 : Nat → FieldType := fun k => match k with
  | 0 => .int
  | 1 => .int
  | 2 => .int
  | _ => .int
abbrev wsX90 : List Cond := u_ws RX9 TX9 4
theorem nmX9 : ∀ a, a < 4 → ∀ b, b < 4 → a ≠ b → (TX9 a).2.1 ≠ (TX9 b).2.1 := by decide +kernel
theorem tyX9_ok : ∀ k, k < 4 → parseFieldDescriptor (TX9 k).2.2.1 = some (tyX9 k) := by decide +kernel
abbrev cX9_init : ByteArray := prog_11_method_1_code
def yX9_init : MethodName := ⟨RX9, "<init>", "(IIII)V"⟩
def RX10 : String := "TenForOne$Tape"
def TX10 : u_T := fun k => match k with
  | 0 => ("TenForOne$Tape", "signs", "[B", true)
  | 1 => ("TenForOne$Tape", "length", "I", false)
  | 2 => ("TenForOne$Tape", "place", "I", false)
  | _ => ("TenForOne$Tape", "faultPlace", "I", false)
def tyX10 : Nat → FieldType := fun k => match k with
  | 0 => .array .byte
  | 1 => .int
  | 2 => .int
  | _ => .int
abbrev wsX100 : List Cond := u_ws RX10 TX10 4
theorem nmX10 : ∀ a, a < 4 → ∀ b, b < 4 → a ≠ b → (TX10 a).2.1 ≠ (TX10 b).2.1 := by decide +kernel
theorem tyX10_ok : ∀ k, k < 4 → parseFieldDescriptor (TX10 k).2.2.1 = some (tyX10 k) := by decide +kernel
abbrev cX10_init : ByteArray := prog_12_method_1_code
def yX10_init : MethodName := ⟨RX10, "<init>", "()V"⟩
abbrev cX10_put : ByteArray := prog_12_method_2_code
def yX10_put : MethodName := ⟨RX10, "put", "(I)V"⟩
abbrev cX10_readInto : ByteArray := prog_12_method_3_code
def yX10_readInto : MethodName := ⟨RX10, "readInto", "(LTenForOne$Laws;)I"⟩
abbrev cX10_readClause : ByteArray := prog_12_method_4_code
def yX10_readClause : MethodName := ⟨RX10, "readClause", "(LTenForOne$Laws;)Z"⟩
abbrev cX10_readAges : ByteArray := prog_12_method_5_code
def yX10_readAges : MethodName := ⟨RX10, "readAges", "(LTenForOne$Laws;I)Z"⟩
abbrev cX10_readNumber : ByteArray := prog_12_method_6_code
def yX10_readNumber : MethodName := ⟨RX10, "readNumber", "(II)I"⟩
abbrev cX10_nextSign : ByteArray := prog_12_method_7_code
def yX10_nextSign : MethodName := ⟨RX10, "nextSign", "()I"⟩
abbrev cX10_isDigit : ByteArray := prog_12_method_8_code
def yX10_isDigit : MethodName := ⟨RX10, "isDigit", "(I)Z"⟩
abbrev cX10_fault : ByteArray := prog_12_method_9_code
def yX10_fault : MethodName := ⟨RX10, "fault", "(I)Z"⟩
def RX11 : String := "TenForOne"
def TX11 : u_T := fun k => match k with
  | 0 => ("TenForOne", "houseLanes", "[I", true)
  | 1 => ("TenForOne", "houseCount", "I", false)
  | 2 => ("TenForOne", "people", "[LTenForOne$Person;", true)
  | 3 => ("TenForOne", "personCount", "I", false)
  | 4 => ("TenForOne", "groupLanes", "[I", true)
  | 5 => ("TenForOne", "groupCount", "I", false)
  | 6 => ("TenForOne", "fairs", "LTenForOne$Fairs;", true)
  | 7 => ("TenForOne", "stays", "[LTenForOne$Stay;", true)
  | 8 => ("TenForOne", "stayCount", "I", false)
  | 9 => ("TenForOne", "pleas", "[LTenForOne$Plea;", true)
  | 10 => ("TenForOne", "pleaCount", "I", false)
  | 11 => ("TenForOne", "lost", "I", false)
  | 12 => ("TenForOne", "tape", "LTenForOne$Tape;", true)
  | 13 => ("TenForOne", "laws", "LTenForOne$Laws;", false)
  | 14 => ("TenForOne", "draft", "LTenForOne$Laws;", false)
  | 15 => ("TenForOne", "sheets", "[LTenForOne$Sheet;", true)
  | 16 => ("TenForOne", "roll", "LTenForOne$Roll;", true)
  | 17 => ("TenForOne", "filling", "LTenForOne$Filling;", true)
  | 18 => ("TenForOne", "rests", "[I", true)
  | _ => ("TenForOne", "kept", "I", false)
def tyX11 : Nat → FieldType := fun k => match k with
  | 0 => .array .int
  | 1 => .int
  | 2 => .array (.object "TenForOne$Person")
  | 3 => .int
  | 4 => .array .int
  | 5 => .int
  | 6 => .object "TenForOne$Fairs"
  | 7 => .array (.object "TenForOne$Stay")
  | 8 => .int
  | 9 => .array (.object "TenForOne$Plea")
  | 10 => .int
  | 11 => .int
  | 12 => .object "TenForOne$Tape"
  | 13 => .object "TenForOne$Laws"
  | 14 => .object "TenForOne$Laws"
  | 15 => .array (.object "TenForOne$Sheet")
  | 16 => .object "TenForOne$Roll"
  | 17 => .object "TenForOne$Filling"
  | 18 => .array .int
  | _ => .int
abbrev wsX110 : List Cond := u_ws RX11 TX11 20
theorem nmX11 : ∀ a, a < 20 → ∀ b, b < 20 → a ≠ b → (TX11 a).2.1 ≠ (TX11 b).2.1 := by decide +kernel
theorem tyX11_ok : ∀ k, k < 20 → parseFieldDescriptor (TX11 k).2.2.1 = some (tyX11 k) := by decide +kernel
abbrev cX11_init : ByteArray := prog_1_method_1_code
def yX11_init : MethodName := ⟨RX11, "<init>", "()V"⟩
abbrev cX11_house : ByteArray := prog_1_method_2_code
def yX11_house : MethodName := ⟨RX11, "house", "(I)I"⟩
abbrev cX11_person : ByteArray := prog_1_method_3_code
def yX11_person : MethodName := ⟨RX11, "person", "(IIIIZI)I"⟩
abbrev cX11_told : ByteArray := prog_1_method_4_code
def yX11_told : MethodName := ⟨RX11, "told", "(II)I"⟩
abbrev cX11_age : ByteArray := prog_1_method_5_code
def yX11_age : MethodName := ⟨RX11, "age", "(II)I"⟩
abbrev cX11_dies : ByteArray := prog_1_method_6_code
def yX11_dies : MethodName := ⟨RX11, "dies", "(II)I"⟩
abbrev cX11_flees : ByteArray := prog_1_method_7_code
def yX11_flees : MethodName := ⟨RX11, "flees", "(II)I"⟩
abbrev cX11_back : ByteArray := prog_1_method_8_code
def yX11_back : MethodName := ⟨RX11, "back", "(II)I"⟩
abbrev cX11_there : ByteArray := prog_1_method_9_code
def yX11_there : MethodName := ⟨RX11, "there", "(II)I"⟩
abbrev cX11_kin : ByteArray := prog_1_method_10_code
def yX11_kin : MethodName := ⟨RX11, "kin", "(II)I"⟩
abbrev cX11_type : ByteArray := prog_1_method_11_code
def yX11_type : MethodName := ⟨RX11, "type", "(JI)I"⟩
abbrev cX11_laws : ByteArray := prog_1_method_12_code
def yX11_laws : MethodName := ⟨RX11, "laws", "()I"⟩
abbrev cX11_must : ByteArray := prog_1_method_13_code
def yX11_must : MethodName := ⟨RX11, "must", "(II)I"⟩
abbrev cX11_fair : ByteArray := prog_1_method_14_code
def yX11_fair : MethodName := ⟨RX11, "fair", "(II)I"⟩
abbrev cX11_group : ByteArray := prog_1_method_15_code
def yX11_group : MethodName := ⟨RX11, "group", "(I)I"⟩
abbrev cX11_joins : ByteArray := prog_1_method_16_code
def yX11_joins : MethodName := ⟨RX11, "joins", "(III)I"⟩
abbrev cX11_leaves : ByteArray := prog_1_method_17_code
def yX11_leaves : MethodName := ⟨RX11, "leaves", "(II)I"⟩
abbrev cX11_groupOf : ByteArray := prog_1_method_18_code
def yX11_groupOf : MethodName := ⟨RX11, "groupOf", "(II)I"⟩
abbrev cX11_members : ByteArray := prog_1_method_19_code
def yX11_members : MethodName := ⟨RX11, "members", "(II)I"⟩
abbrev cX11_head : ByteArray := prog_1_method_20_code
def yX11_head : MethodName := ⟨RX11, "head", "(II)I"⟩
abbrev cX11_wants : ByteArray := prog_1_method_21_code
def yX11_wants : MethodName := ⟨RX11, "wants", "(II)I"⟩
abbrev cX11_wantsAt : ByteArray := prog_1_method_22_code
def yX11_wantsAt : MethodName := ⟨RX11, "wantsAt", "(III)I"⟩
abbrev cX11_stay : ByteArray := prog_1_method_23_code
def yX11_stay : MethodName := ⟨RX11, "stay", "(IIII)I"⟩
abbrev cX11_charged : ByteArray := prog_1_method_24_code
def yX11_charged : MethodName := ⟨RX11, "charged", "(II)I"⟩
abbrev cX11_whole : ByteArray := prog_1_method_25_code
def yX11_whole : MethodName := ⟨RX11, "whole", "(I)I"⟩
abbrev cX11_came : ByteArray := prog_1_method_26_code
def yX11_came : MethodName := ⟨RX11, "came", "(I)I"⟩
abbrev cX11_plea : ByteArray := prog_1_method_27_code
def yX11_plea : MethodName := ⟨RX11, "plea", "(II)I"⟩
abbrev cX11_about : ByteArray := prog_1_method_28_code
def yX11_about : MethodName := ⟨RX11, "about", "(II)I"⟩
abbrev cX11_judge : ByteArray := prog_1_method_29_code
def yX11_judge : MethodName := ⟨RX11, "judge", "(I)I"⟩
abbrev cX11_owes : ByteArray := prog_1_method_30_code
def yX11_owes : MethodName := ⟨RX11, "owes", "(II)I"⟩
abbrev cX11_pays : ByteArray := prog_1_method_31_code
def yX11_pays : MethodName := ⟨RX11, "pays", "(II)I"⟩
abbrev cX11_borne : ByteArray := prog_1_method_32_code
def yX11_borne : MethodName := ⟨RX11, "borne", "(III)I"⟩
abbrev cX11_count : ByteArray := prog_1_method_33_code
def yX11_count : MethodName := ⟨RX11, "count", "(I)I"⟩
abbrev cX11_sheet : ByteArray := prog_1_method_34_code
def yX11_sheet : MethodName := ⟨RX11, "sheet", "(III)I"⟩
abbrev cX11_drop : ByteArray := prog_1_method_35_code
def yX11_drop : MethodName := ⟨RX11, "drop", "(I)I"⟩
abbrev cX11_item : ByteArray := prog_1_method_36_code
def yX11_item : MethodName := ⟨RX11, "item", "(IIII)I"⟩
abbrev cX11_roll : ByteArray := prog_1_method_37_code
def yX11_roll : MethodName := ⟨RX11, "roll", "(IIII)I"⟩
abbrev cX11_leftOut : ByteArray := prog_1_method_38_code
def yX11_leftOut : MethodName := ⟨RX11, "leftOut", "(I)I"⟩
abbrev cX11_sure : ByteArray := prog_1_method_39_code
def yX11_sure : MethodName := ⟨RX11, "sure", "(I)I"⟩
abbrev cX11_isDay : ByteArray := prog_1_method_40_code
def yX11_isDay : MethodName := ⟨RX11, "isDay", "(I)Z"⟩
abbrev cX11_isLane : ByteArray := prog_1_method_41_code
def yX11_isLane : MethodName := ⟨RX11, "isLane", "(I)Z"⟩
abbrev cX11_isName : ByteArray := prog_1_method_42_code
def yX11_isName : MethodName := ⟨RX11, "isName", "(I)Z"⟩
abbrev cX11_isSheet : ByteArray := prog_1_method_43_code
def yX11_isSheet : MethodName := ⟨RX11, "isSheet", "(I)Z"⟩
abbrev cX11_isSheetLane : ByteArray := prog_1_method_44_code
def yX11_isSheetLane : MethodName := ⟨RX11, "isSheetLane", "(I)Z"⟩
abbrev cX11_isHouse : ByteArray := prog_1_method_45_code
def yX11_isHouse : MethodName := ⟨RX11, "isHouse", "(I)Z"⟩
abbrev cX11_isGroup : ByteArray := prog_1_method_46_code
def yX11_isGroup : MethodName := ⟨RX11, "isGroup", "(I)Z"⟩
abbrev cX11_personAt : ByteArray := prog_1_method_47_code
def yX11_personAt : MethodName := ⟨RX11, "personAt", "(I)LTenForOne$Person;"⟩
abbrev cX11_mayBeFather : ByteArray := prog_1_method_48_code
def yX11_mayBeFather : MethodName := ⟨RX11, "mayBeFather", "(II)Z"⟩
abbrev cX11_signAt : ByteArray := prog_1_method_49_code
def yX11_signAt : MethodName := ⟨RX11, "signAt", "(JI)I"⟩
abbrev cX11_areKin : ByteArray := prog_1_method_50_code
def yX11_areKin : MethodName := ⟨RX11, "areKin", "(II)Z"⟩
abbrev cX11_mustBeSworn : ByteArray := prog_1_method_51_code
def yX11_mustBeSworn : MethodName := ⟨RX11, "mustBeSworn", "(LTenForOne$Person;I)Z"⟩
abbrev cX11_isUnsworn : ByteArray := prog_1_method_52_code
def yX11_isUnsworn : MethodName := ⟨RX11, "isUnsworn", "(LTenForOne$Person;I)Z"⟩
abbrev cX11_isIdle : ByteArray := prog_1_method_53_code
def yX11_isIdle : MethodName := ⟨RX11, "isIdle", "(LTenForOne$Person;I)Z"⟩
abbrev cX11_isWanting : ByteArray := prog_1_method_54_code
def yX11_isWanting : MethodName := ⟨RX11, "isWanting", "(LTenForOne$Person;II)Z"⟩
abbrev cX11_membersOf : ByteArray := prog_1_method_55_code
def yX11_membersOf : MethodName := ⟨RX11, "membersOf", "(II)I"⟩
abbrev cX11_beginSpell : ByteArray := prog_1_method_56_code
def yX11_beginSpell : MethodName := ⟨RX11, "beginSpell", "(LTenForOne$Person;II)V"⟩
abbrev cX11_lodgesOnOrBehind : ByteArray := prog_1_method_57_code
def yX11_lodgesOnOrBehind : MethodName := ⟨RX11, "lodgesOnOrBehind", "(II)Z"⟩
abbrev cX11_stayOn : ByteArray := prog_1_method_58_code
def yX11_stayOn : MethodName := ⟨RX11, "stayOn", "(II)LTenForOne$Stay;"⟩
abbrev cX11_groupCharged : ByteArray := prog_1_method_59_code
def yX11_groupCharged : MethodName := ⟨RX11, "groupCharged", "(ILTenForOne$Person;I)I"⟩
abbrev cX11_hasLodgedLong : ByteArray := prog_1_method_60_code
def yX11_hasLodgedLong : MethodName := ⟨RX11, "hasLodgedLong", "(LTenForOne$Stay;I)Z"⟩
abbrev cX11_gatherUnsworn : ByteArray := prog_1_method_61_code
def yX11_gatherUnsworn : MethodName := ⟨RX11, "gatherUnsworn", "(I)Z"⟩
abbrev cX11_offerGroup : ByteArray := prog_1_method_62_code
def yX11_offerGroup : MethodName := ⟨RX11, "offerGroup", "(II)V"⟩
abbrev cX11_askedOf : ByteArray := prog_1_method_63_code
def yX11_askedOf : MethodName := ⟨RX11, "askedOf", "(III)I"⟩
abbrev cX11_hasKinIn : ByteArray := prog_1_method_64_code
def yX11_hasKinIn : MethodName := ⟨RX11, "hasKinIn", "(III)Z"⟩
abbrev cX11_hasWealth : ByteArray := prog_1_method_65_code
def yX11_hasWealth : MethodName := ⟨RX11, "hasWealth", "(II)Z"⟩
abbrev cX11_settle : ByteArray := prog_1_method_66_code
def yX11_settle : MethodName := ⟨RX11, "settle", "(I)V"⟩
abbrev cX11_hasPlea : ByteArray := prog_1_method_67_code
def yX11_hasPlea : MethodName := ⟨RX11, "hasPlea", "(II)Z"⟩
abbrev cX11_callToAnswer : ByteArray := prog_1_method_68_code
def yX11_callToAnswer : MethodName := ⟨RX11, "callToAnswer", "(LTenForOne$Plea;)V"⟩
abbrev cX11_mayBear : ByteArray := prog_1_method_69_code
def yX11_mayBear : MethodName := ⟨RX11, "mayBear", "(LTenForOne$Plea;I)Z"⟩
abbrev cX11_weightOfAll : ByteArray := prog_1_method_70_code
def yX11_weightOfAll : MethodName := ⟨RX11, "weightOfAll", "(LTenForOne$Plea;)I"⟩
abbrev cX11_part : ByteArray := prog_1_method_71_code
def yX11_part : MethodName := ⟨RX11, "part", "(LTenForOne$Plea;I)Z"⟩
abbrev cX11_giveOneMore : ByteArray := prog_1_method_72_code
def yX11_giveOneMore : MethodName := ⟨RX11, "giveOneMore", "(LTenForOne$Plea;)V"⟩
abbrev cX11_partDebtsOf : ByteArray := prog_1_method_73_code
def yX11_partDebtsOf : MethodName := ⟨RX11, "partDebtsOf", "(I)V"⟩
abbrev cX11_owedOfAll : ByteArray := prog_1_method_74_code
def yX11_owedOfAll : MethodName := ⟨RX11, "owedOfAll", "(I)I"⟩
abbrev cX11_borneBy : ByteArray := prog_1_method_75_code
def yX11_borneBy : MethodName := ⟨RX11, "borneBy", "(I)I"⟩
abbrev cX11_borneByHeads : ByteArray := prog_1_method_76_code
def yX11_borneByHeads : MethodName := ⟨RX11, "borneByHeads", "(II)I"⟩
abbrev cX11_bearsTooMuch : ByteArray := prog_1_method_77_code
def yX11_bearsTooMuch : MethodName := ⟨RX11, "bearsTooMuch", "(II)Z"⟩
abbrev cX11_refusalOfSheet : ByteArray := prog_1_method_78_code
def yX11_refusalOfSheet : MethodName := ⟨RX11, "refusalOfSheet", "(II)I"⟩
def RX12 : String := "TenForOneModel"
def TX12 : u_T := fun k => match k with
  | 0 => ("TenForOneModel", "houses", "I", false)
  | 1 => ("TenForOneModel", "houseLane", "[I", true)
  | 2 => ("TenForOneModel", "people", "I", false)
  | 3 => ("TenForOneModel", "kinds", "[I", true)
  | 4 => ("TenForOneModel", "born", "[I", true)
  | 5 => ("TenForOneModel", "names", "[I", true)
  | 6 => ("TenForOneModel", "homes", "[I", true)
  | 7 => ("TenForOneModel", "poor", "[Z", true)
  | 8 => ("TenForOneModel", "fathers", "[I", true)
  | 9 => ("TenForOneModel", "death", "[I", true)
  | 10 => ("TenForOneModel", "flights", "I", false)
  | 11 => ("TenForOneModel", "flightOf", "[I", true)
  | 12 => ("TenForOneModel", "flightDay", "[I", true)
  | 13 => ("TenForOneModel", "backDay", "[I", true)
  | 14 => ("TenForOneModel", "tape", "[I", true)
  | 15 => ("TenForOneModel", "taped", "I", false)
  | 16 => ("TenForOneModel", "from", "[I", true)
  | 17 => ("TenForOneModel", "upTo", "[I", true)
  | 18 => ("TenForOneModel", "nights", "I", false)
  | 19 => ("TenForOneModel", "at", "I", false)
  | 20 => ("TenForOneModel", "wrong", "I", false)
  | 21 => ("TenForOneModel", "number", "I", false)
  | 22 => ("TenForOneModel", "numberAt", "I", false)
  | 23 => ("TenForOneModel", "newFrom", "[I", true)
  | 24 => ("TenForOneModel", "newUpTo", "[I", true)
  | 25 => ("TenForOneModel", "newNights", "I", false)
  | 26 => ("TenForOneModel", "fairs", "I", false)
  | 27 => ("TenForOneModel", "fairFrom", "[I", true)
  | 28 => ("TenForOneModel", "fairTo", "[I", true)
  | 29 => ("TenForOneModel", "groups", "I", false)
  | 30 => ("TenForOneModel", "groupLane", "[I", true)
  | 31 => ("TenForOneModel", "spells", "I", false)
  | 32 => ("TenForOneModel", "spellOf", "[I", true)
  | 33 => ("TenForOneModel", "spellGroup", "[I", true)
  | 34 => ("TenForOneModel", "joined", "[I", true)
  | 35 => ("TenForOneModel", "left", "[I", true)
  | 36 => ("TenForOneModel", "stays", "I", false)
  | 37 => ("TenForOneModel", "stayOf", "[I", true)
  | 38 => ("TenForOneModel", "stayHouse", "[I", true)
  | 39 => ("TenForOneModel", "stayFrom", "[I", true)
  | 40 => ("TenForOneModel", "stayTo", "[I", true)
  | 41 => ("TenForOneModel", "comers", "I", false)
  | 42 => ("TenForOneModel", "comer", "[I", true)
  | 43 => ("TenForOneModel", "into", "[I", true)
  | 44 => ("TenForOneModel", "best", "[I", true)
  | 45 => ("TenForOneModel", "asked", "[I", true)
  | 46 => ("TenForOneModel", "had", "[I", true)
  | 47 => ("TenForOneModel", "hasRich", "[Z", true)
  | 48 => ("TenForOneModel", "cameInto", "[I", true)
  | 49 => ("TenForOneModel", "isWhole", "Z", false)
  | 50 => ("TenForOneModel", "pleas", "I", false)
  | 51 => ("TenForOneModel", "pleaFlight", "[I", true)
  | 52 => ("TenForOneModel", "pleaGroup", "[I", true)
  | 53 => ("TenForOneModel", "fines", "[I", true)
  | 54 => ("TenForOneModel", "isParted", "[Z", true)
  | 55 => ("TenForOneModel", "isBorne", "[Z", true)
  | 56 => ("TenForOneModel", "answers", "[Z", true)
  | 57 => ("TenForOneModel", "owed", "[I", true)
  | 58 => ("TenForOneModel", "lost", "I", false)
  | 59 => ("TenForOneModel", "rest", "[I", true)
  | 60 => ("TenForOneModel", "lanes", "[I", true)
  | 61 => ("TenForOneModel", "sheetLong", "[I", true)
  | 62 => ("TenForOneModel", "cells", "[I", true)
  | 63 => ("TenForOneModel", "isRolled", "Z", false)
  | 64 => ("TenForOneModel", "named", "[I", true)
  | 65 => ("TenForOneModel", "rolled", "[I", true)
  | _ => ("TenForOneModel", "wasMember", "[Z", true)
def tyX12 : Nat → FieldType := fun k => match k with
  | 0 => .int
  | 1 => .array .int
  | 2 => .int
  | 3 => .array .int
  | 4 => .array .int
  | 5 => .array .int
  | 6 => .array .int
  | 7 => .array .boolean
  | 8 => .array .int
  | 9 => .array .int
  | 10 => .int
  | 11 => .array .int
  | 12 => .array .int
  | 13 => .array .int
  | 14 => .array .int
  | 15 => .int
  | 16 => .array .int
  | 17 => .array .int
  | 18 => .int
  | 19 => .int
  | 20 => .int
  | 21 => .int
  | 22 => .int
  | 23 => .array .int
  | 24 => .array .int
  | 25 => .int
  | 26 => .int
  | 27 => .array .int
  | 28 => .array .int
  | 29 => .int
  | 30 => .array .int
  | 31 => .int
  | 32 => .array .int
  | 33 => .array .int
  | 34 => .array .int
  | 35 => .array .int
  | 36 => .int
  | 37 => .array .int
  | 38 => .array .int
  | 39 => .array .int
  | 40 => .array .int
  | 41 => .int
  | 42 => .array .int
  | 43 => .array .int
  | 44 => .array .int
  | 45 => .array .int
  | 46 => .array .int
  | 47 => .array .boolean
  | 48 => .array .int
  | 49 => .boolean
  | 50 => .int
  | 51 => .array .int
  | 52 => .array .int
  | 53 => .array .int
  | 54 => .array .boolean
  | 55 => .array .boolean
  | 56 => .array .boolean
  | 57 => .array .int
  | 58 => .int
  | 59 => .array .int
  | 60 => .array .int
  | 61 => .array .int
  | 62 => .array .int
  | 63 => .boolean
  | 64 => .array .int
  | 65 => .array .int
  | _ => .array .boolean
abbrev wsX120 : List Cond := u_ws RX12 TX12 67
theorem nmX12 : ∀ a, a < 67 → ∀ b, b < 67 → a ≠ b → (TX12 a).2.1 ≠ (TX12 b).2.1 := by decide +kernel
theorem tyX12_ok : ∀ k, k < 67 → parseFieldDescriptor (TX12 k).2.2.1 = some (tyX12 k) := by decide +kernel
abbrev cX12_init : ByteArray := prog_14_method_1_code
def yX12_init : MethodName := ⟨RX12, "<init>", "()V"⟩
abbrev cX12_within : ByteArray := prog_14_method_3_code
def yX12_within : MethodName := ⟨RX12, "within", "(III)Z"⟩
abbrev cX12_isDay : ByteArray := prog_14_method_4_code
def yX12_isDay : MethodName := ⟨RX12, "isDay", "(I)Z"⟩
abbrev cX12_isOne : ByteArray := prog_14_method_5_code
def yX12_isOne : MethodName := ⟨RX12, "isOne", "(I)Z"⟩
abbrev cX12_house : ByteArray := prog_14_method_6_code
def yX12_house : MethodName := ⟨RX12, "house", "(I)I"⟩
abbrev cX12_mayFather : ByteArray := prog_14_method_7_code
def yX12_mayFather : MethodName := ⟨RX12, "mayFather", "(II)Z"⟩
abbrev cX12_person : ByteArray := prog_14_method_8_code
def yX12_person : MethodName := ⟨RX12, "person", "(IIIIZI)I"⟩
abbrev cX12_told : ByteArray := prog_14_method_9_code
def yX12_told : MethodName := ⟨RX12, "told", "(II)I"⟩
abbrev cX12_isDead : ByteArray := prog_14_method_10_code
def yX12_isDead : MethodName := ⟨RX12, "isDead", "(I)Z"⟩
abbrev cX12_age : ByteArray := prog_14_method_11_code
def yX12_age : MethodName := ⟨RX12, "age", "(II)I"⟩
abbrev cX12_lastFlight : ByteArray := prog_14_method_12_code
def yX12_lastFlight : MethodName := ⟨RX12, "lastFlight", "(I)I"⟩
abbrev cX12_isBehind : ByteArray := prog_14_method_13_code
def yX12_isBehind : MethodName := ⟨RX12, "isBehind", "(II)Z"⟩
abbrev cX12_isAway : ByteArray := prog_14_method_14_code
def yX12_isAway : MethodName := ⟨RX12, "isAway", "(I)Z"⟩
abbrev cX12_flees : ByteArray := prog_14_method_15_code
def yX12_flees : MethodName := ⟨RX12, "flees", "(II)I"⟩
abbrev cX12_back : ByteArray := prog_14_method_16_code
def yX12_back : MethodName := ⟨RX12, "back", "(II)I"⟩
abbrev cX12_isThere : ByteArray := prog_14_method_17_code
def yX12_isThere : MethodName := ⟨RX12, "isThere", "(II)Z"⟩
abbrev cX12_there : ByteArray := prog_14_method_18_code
def yX12_there : MethodName := ⟨RX12, "there", "(II)I"⟩
abbrev cX12_areKin : ByteArray := prog_14_method_19_code
def yX12_areKin : MethodName := ⟨RX12, "areKin", "(II)Z"⟩
abbrev cX12_kin : ByteArray := prog_14_method_20_code
def yX12_kin : MethodName := ⟨RX12, "kin", "(II)I"⟩
abbrev cX12_type : ByteArray := prog_14_method_21_code
def yX12_type : MethodName := ⟨RX12, "type", "(JI)I"⟩
abbrev cX12_skip : ByteArray := prog_14_method_22_code
def yX12_skip : MethodName := ⟨RX12, "skip", "()V"⟩
abbrev cX12_faultAt : ByteArray := prog_14_method_23_code
def yX12_faultAt : MethodName := ⟨RX12, "faultAt", "(I)V"⟩
abbrev cX12_readNumber : ByteArray := prog_14_method_24_code
def yX12_readNumber : MethodName := ⟨RX12, "readNumber", "()V"⟩
abbrev cX12_readByte : ByteArray := prog_14_method_25_code
def yX12_readByte : MethodName := ⟨RX12, "readByte", "(I)V"⟩
abbrev cX12_kindOf : ByteArray := prog_14_method_26_code
def yX12_kindOf : MethodName := ⟨RX12, "kindOf", "(I)I"⟩
abbrev cX12_readClause : ByteArray := prog_14_method_27_code
def yX12_readClause : MethodName := ⟨RX12, "readClause", "()V"⟩
abbrev cX12_laws : ByteArray := prog_14_method_28_code
def yX12_laws : MethodName := ⟨RX12, "laws", "()I"⟩
abbrev cX12_mustBe : ByteArray := prog_14_method_29_code
def yX12_mustBe : MethodName := ⟨RX12, "mustBe", "(II)Z"⟩
abbrev cX12_must : ByteArray := prog_14_method_30_code
def yX12_must : MethodName := ⟨RX12, "must", "(II)I"⟩
abbrev cX12_fair : ByteArray := prog_14_method_31_code
def yX12_fair : MethodName := ⟨RX12, "fair", "(II)I"⟩
abbrev cX12_isFair : ByteArray := prog_14_method_32_code
def yX12_isFair : MethodName := ⟨RX12, "isFair", "(I)Z"⟩
abbrev cX12_isGroup : ByteArray := prog_14_method_33_code
def yX12_isGroup : MethodName := ⟨RX12, "isGroup", "(I)Z"⟩
abbrev cX12_group : ByteArray := prog_14_method_34_code
def yX12_group : MethodName := ⟨RX12, "group", "(I)I"⟩
abbrev cX12_spellAt : ByteArray := prog_14_method_35_code
def yX12_spellAt : MethodName := ⟨RX12, "spellAt", "(II)I"⟩
abbrev cX12_isMember : ByteArray := prog_14_method_36_code
def yX12_isMember : MethodName := ⟨RX12, "isMember", "(III)Z"⟩
abbrev cX12_membersOf : ByteArray := prog_14_method_37_code
def yX12_membersOf : MethodName := ⟨RX12, "membersOf", "(II)I"⟩
abbrev cX12_isBound : ByteArray := prog_14_method_38_code
def yX12_isBound : MethodName := ⟨RX12, "isBound", "(II)Z"⟩
abbrev cX12_begin : ByteArray := prog_14_method_39_code
def yX12_begin : MethodName := ⟨RX12, "begin", "(III)V"⟩
abbrev cX12_joins : ByteArray := prog_14_method_40_code
def yX12_joins : MethodName := ⟨RX12, "joins", "(III)I"⟩
abbrev cX12_leaves : ByteArray := prog_14_method_41_code
def yX12_leaves : MethodName := ⟨RX12, "leaves", "(II)I"⟩
abbrev cX12_groupOf : ByteArray := prog_14_method_42_code
def yX12_groupOf : MethodName := ⟨RX12, "groupOf", "(II)I"⟩
abbrev cX12_members : ByteArray := prog_14_method_43_code
def yX12_members : MethodName := ⟨RX12, "members", "(II)I"⟩
abbrev cX12_head : ByteArray := prog_14_method_44_code
def yX12_head : MethodName := ⟨RX12, "head", "(II)I"⟩
abbrev cX12_isWant : ByteArray := prog_14_method_45_code
def yX12_isWant : MethodName := ⟨RX12, "isWant", "(III)Z"⟩
abbrev cX12_wants : ByteArray := prog_14_method_46_code
def yX12_wants : MethodName := ⟨RX12, "wants", "(II)I"⟩
abbrev cX12_wantsAt : ByteArray := prog_14_method_47_code
def yX12_wantsAt : MethodName := ⟨RX12, "wantsAt", "(III)I"⟩
abbrev cX12_stay : ByteArray := prog_14_method_48_code
def yX12_stay : MethodName := ⟨RX12, "stay", "(IIII)I"⟩
abbrev cX12_nightsOf : ByteArray := prog_14_method_49_code
def yX12_nightsOf : MethodName := ⟨RX12, "nightsOf", "(II)I"⟩
abbrev cX12_groupOfHouse : ByteArray := prog_14_method_50_code
def yX12_groupOfHouse : MethodName := ⟨RX12, "groupOfHouse", "(II)I"⟩
abbrev cX12_chargedFor : ByteArray := prog_14_method_51_code
def yX12_chargedFor : MethodName := ⟨RX12, "chargedFor", "(II)I"⟩
abbrev cX12_charged : ByteArray := prog_14_method_52_code
def yX12_charged : MethodName := ⟨RX12, "charged", "(II)I"⟩
abbrev cX12_isComer : ByteArray := prog_14_method_53_code
def yX12_isComer : MethodName := ⟨RX12, "isComer", "(II)Z"⟩
abbrev cX12_hasKin : ByteArray := prog_14_method_54_code
def yX12_hasKin : MethodName := ⟨RX12, "hasKin", "(III)Z"⟩
abbrev cX12_findAsked : ByteArray := prog_14_method_55_code
def yX12_findAsked : MethodName := ⟨RX12, "findAsked", "(I)V"⟩
abbrev cX12_isGood : ByteArray := prog_14_method_56_code
def yX12_isGood : MethodName := ⟨RX12, "isGood", "()Z"⟩
abbrev cX12_findBest : ByteArray := prog_14_method_57_code
def yX12_findBest : MethodName := ⟨RX12, "findBest", "()I"⟩
abbrev cX12_whole : ByteArray := prog_14_method_58_code
def yX12_whole : MethodName := ⟨RX12, "whole", "(I)I"⟩
abbrev cX12_came : ByteArray := prog_14_method_59_code
def yX12_came : MethodName := ⟨RX12, "came", "(I)I"⟩
abbrev cX12_groupAhead : ByteArray := prog_14_method_60_code
def yX12_groupAhead : MethodName := ⟨RX12, "groupAhead", "(I)I"⟩
abbrev cX12_plea : ByteArray := prog_14_method_61_code
def yX12_plea : MethodName := ⟨RX12, "plea", "(II)I"⟩
abbrev cX12_isBrought : ByteArray := prog_14_method_62_code
def yX12_isBrought : MethodName := ⟨RX12, "isBrought", "(I)Z"⟩
abbrev cX12_about : ByteArray := prog_14_method_63_code
def yX12_about : MethodName := ⟨RX12, "about", "(II)I"⟩
abbrev cX12_weightOf : ByteArray := prog_14_method_64_code
def yX12_weightOf : MethodName := ⟨RX12, "weightOf", "(I)I"⟩
abbrev cX12_takesPart : ByteArray := prog_14_method_65_code
def yX12_takesPart : MethodName := ⟨RX12, "takesPart", "(II)Z"⟩
abbrev cX12_isPartedAmong : ByteArray := prog_14_method_66_code
def yX12_isPartedAmong : MethodName := ⟨RX12, "isPartedAmong", "(II)Z"⟩
abbrev cX12_judge : ByteArray := prog_14_method_67_code
def yX12_judge : MethodName := ⟨RX12, "judge", "(I)I"⟩
abbrev cX12_owesAll : ByteArray := prog_14_method_68_code
def yX12_owesAll : MethodName := ⟨RX12, "owesAll", "(I)I"⟩
abbrev cX12_dies : ByteArray := prog_14_method_69_code
def yX12_dies : MethodName := ⟨RX12, "dies", "(II)I"⟩
abbrev cX12_owes : ByteArray := prog_14_method_70_code
def yX12_owes : MethodName := ⟨RX12, "owes", "(II)I"⟩
abbrev cX12_pays : ByteArray := prog_14_method_71_code
def yX12_pays : MethodName := ⟨RX12, "pays", "(II)I"⟩
abbrev cX12_borneBy : ByteArray := prog_14_method_72_code
def yX12_borneBy : MethodName := ⟨RX12, "borneBy", "(I)I"⟩
abbrev cX12_byHeads : ByteArray := prog_14_method_73_code
def yX12_byHeads : MethodName := ⟨RX12, "byHeads", "(II)I"⟩
abbrev cX12_borne : ByteArray := prog_14_method_74_code
def yX12_borne : MethodName := ⟨RX12, "borne", "(III)I"⟩
abbrev cX12_count : ByteArray := prog_14_method_75_code
def yX12_count : MethodName := ⟨RX12, "count", "(I)I"⟩
abbrev cX12_isSheet : ByteArray := prog_14_method_76_code
def yX12_isSheet : MethodName := ⟨RX12, "isSheet", "(I)Z"⟩
abbrev cX12_isLane : ByteArray := prog_14_method_77_code
def yX12_isLane : MethodName := ⟨RX12, "isLane", "(I)Z"⟩
abbrev cX12_sheet : ByteArray := prog_14_method_78_code
def yX12_sheet : MethodName := ⟨RX12, "sheet", "(III)I"⟩
abbrev cX12_drop : ByteArray := prog_14_method_79_code
def yX12_drop : MethodName := ⟨RX12, "drop", "(I)I"⟩
abbrev cX12_item : ByteArray := prog_14_method_80_code
def yX12_item : MethodName := ⟨RX12, "item", "(IIII)I"⟩
abbrev cX12_leftOutOf : ByteArray := prog_14_method_81_code
def yX12_leftOutOf : MethodName := ⟨RX12, "leftOutOf", "(I)I"⟩
abbrev cX12_roll : ByteArray := prog_14_method_82_code
def yX12_roll : MethodName := ⟨RX12, "roll", "(IIII)I"⟩
abbrev cX12_leftOut : ByteArray := prog_14_method_83_code
def yX12_leftOut : MethodName := ⟨RX12, "leftOut", "(I)I"⟩
abbrev cX12_sure : ByteArray := prog_14_method_84_code
def yX12_sure : MethodName := ⟨RX12, "sure", "(I)I"⟩
def RJ6 : String := "java/lang/Integer"
abbrev cJ6_bitCount_0f7a4 : ByteArray := prog_16_method_49_code
def yJ6_bitCount_0f7a4 : MethodName := ⟨RJ6, "bitCount", "(I)I"⟩
def RJ9 : String := "java/lang/Math"
abbrev cJ9_abs_0f7a4 : ByteArray := prog_17_method_59_code
def yJ9_abs_0f7a4 : MethodName := ⟨RJ9, "abs", "(I)I"⟩
abbrev cJ9_max_7cf53 : ByteArray := prog_17_method_65_code
def yJ9_max_7cf53 : MethodName := ⟨RJ9, "max", "(II)I"⟩
abbrev cJ9_min_7cf53 : ByteArray := prog_17_method_69_code
def yJ9_min_7cf53 : MethodName := ⟨RJ9, "min", "(II)I"⟩
def RJ0 : String := "java/lang/String"
abbrev cJ0_length_8abf5 : ByteArray := prog_18_method_54_code
def yJ0_length_8abf5 : MethodName := ⟨RJ0, "length", "()I"⟩
abbrev cJ0_indexOf_0f7a4 : ByteArray := prog_18_method_79_code
def yJ0_indexOf_0f7a4 : MethodName := ⟨RJ0, "indexOf", "(I)I"⟩
abbrev cJ0_indexOf_7cf53 : ByteArray := prog_18_method_80_code
def yJ0_indexOf_7cf53 : MethodName := ⟨RJ0, "indexOf", "(II)I"⟩
abbrev cJ0_coder_7d493 : ByteArray := prog_18_method_152_code
def yJ0_coder_7d493 : MethodName := ⟨RJ0, "coder", "()B"⟩
abbrev cJ0_isLatin1_aae02 : ByteArray := prog_18_method_154_code
def yJ0_isLatin1_aae02 : MethodName := ⟨RJ0, "isLatin1", "()Z"⟩
abbrev cJ0_checkBoundsBeginEnd_23922 : ByteArray := prog_18_method_158_code
def yJ0_checkBoundsBeginEnd_23922 : MethodName := ⟨RJ0, "checkBoundsBeginEnd", "(III)V"⟩
def RJ1 : String := "java/lang/StringLatin1"
abbrev cJ1_canEncode_9a6ad : ByteArray := prog_19_method_4_code
def yJ1_canEncode_9a6ad : MethodName := ⟨RJ1, "canEncode", "(I)Z"⟩
abbrev cJ1_indexOf_4cfef : ByteArray := prog_19_method_22_code
def yJ1_indexOf_4cfef : MethodName := ⟨RJ1, "indexOf", "([BIII)I"⟩
abbrev cJ1_indexOfChar_4cfef : ByteArray := prog_19_method_23_code
def yJ1_indexOfChar_4cfef : MethodName := ⟨RJ1, "indexOfChar", "([BIII)I"⟩
def RL : String := "TenForOneLaw"
abbrev cL_law : ByteArray := code
def yL_law : MethodName := ⟨RL, "law", "([I)Z"⟩
abbrev vwCl : List vw_C := [(RX0, TX0, 3), (RX1, TX1, 6), (RX2, TX2, 3), (RX3, TX3, 3), (RX4, TX4, 10), (RX5, TX5, 9), (RX6, TX6, 4), (RX7, TX7, 3), (RX8, TX8, 4), (RX9, TX9, 4), (RX10, TX10, 4), (RX11, TX11, 20), (RX12, TX12, 67)]
end
section
/-! THE MACHINE AS A SCRIPT'S RUN SEES IT. Addresses: 0 the script, 1 the text of the letters, 2 its bytes, from 3 on the cells that were made since.
zS: (next address, slots made), what a cell is (kind, length), what it holds. zM: a method: name, code, how many words of locals, what it answers, frames and words below it. -/
abbrev zS : Type := (Nat × Nat) × (Nat → Nat × Nat) × (Nat → Nat → Value)
abbrev zM : Type := (MethodName × ByteArray) × Nat × Option FieldType × Nat × Nat
/-- the machine's side: (kinds' numbers, slots), numbers of the rows' kinds, where the script, the text, its bytes lie, where the new cells begin -/
abbrev zW : Type := va_G × (Nat → ClassId) × Nat × Nat × Nat × Nat
abbrev z_B (ω : zW) : Nat := ω.2.2.2.2.2
def zU : Value := .float 0
abbrev vi (z : Int) : Value := .int (Int32.ofInt z)
def z_ad (ω : zW) (a : Nat) : Nat := if a = 0 then ω.2.2.1 else if a = 1 then ω.2.2.2.1 else if a = 2 then ω.2.2.2.2.1 else z_B ω + (a - 3)
def z_e (ω : zW) (v : Value) : Value := match v with
  | .ref a => .ref (z_ad ω a)
  | v => v
theorem z_e_cat (ω : zW) (v : Value) : (z_e ω v).category = v.category := by cases v <;> rfl
def z_isU (v : Value) : Bool := match v with
  | .float _ => true
  | _ => false
def z_nth : List Value → Nat → Value
  | [], _ => zU
  | v :: _, 0 => v
  | _ :: l, n + 1 => z_nth l n
def z_set : List Value → Nat → Value → List Value
  | [], _, _ => []
  | _ :: l, 0, w => w :: l
  | v :: l, n + 1, w => v :: z_set l n w
theorem z_nth_set : ∀ (l : List Value) (k : Nat) (w : Value) (i : Nat), z_nth (z_set l k w) i = z_nth l i ∨ (i = k ∧ z_nth (z_set l k w) i = w)
  | [], _, _, _ => Or.inl rfl
  | _ :: _, 0, _, 0 => Or.inr ⟨rfl, rfl⟩
  | _ :: _, 0, _, _ + 1 => Or.inl rfl
  | _ :: _, _ + 1, _, 0 => Or.inl rfl
  | _ :: l, k + 1, w, i + 1 => by
    rcases z_nth_set l k w i with h | ⟨h1, h2⟩
    · exact Or.inl h
    · exact Or.inr ⟨by rw [h1], h2⟩
theorem z_nth_self : ∀ (l : List Value) (k : Nat) (w : Value), z_nth (z_set l k w) k = w ∨ z_nth (z_set l k w) k = zU
  | [], _, _ => Or.inr rfl
  | _ :: _, 0, _ => Or.inl rfl
  | _ :: l, k + 1, w => z_nth_self l k w
/-- the locals as a list of places -/
def z_al (ω : zW) (nL : Nat) (ls : List Value) : List (Nat × Value) := (List.range nL).filterMap (fun i => if z_isU (z_nth ls i) = true then none else some (i, z_e ω (z_nth ls i)))
theorem z_al_mem {ω : zW} {nL : Nat} {ls : List Value} {q : Nat × Value} : q ∈ z_al ω nL ls ↔ q.1 < nL ∧ z_isU (z_nth ls q.1) = false ∧ q.2 = z_e ω (z_nth ls q.1) := by
  unfold z_al
  rw [List.mem_filterMap]
  constructor
  · rintro ⟨i, hi, h⟩
    by_cases hu : z_isU (z_nth ls i) = true
    · rw [if_pos hu] at h; cases h
    · rw [if_neg hu] at h
      cases h
      exact ⟨List.mem_range.mp hi, by simpa using hu, rfl⟩
  · rintro ⟨h1, h2, h3⟩
    refine ⟨q.1, List.mem_range.mpr h1, ?_⟩
    rw [if_neg (by rw [h2]; decide), ← h3]
def z_L (ω : zW) (nL : Nat) (ls : List Value) (lsR : Array Slot) : Prop := lv_has lsR nL (z_al ω nL ls)
theorem z_L_at {ω : zW} {nL : Nat} {ls : List Value} {lsR : Array Slot} (h : z_L ω nL ls lsR) {k : Nat} {v : Value} (hk : k < nL) (hv : z_nth ls k = v) (hu : z_isU v = false) : lsR[k]? = some (.val (z_e ω v)) := by
  subst hv
  exact h.2.2 (k, z_e ω (z_nth ls k)) (z_al_mem.mpr ⟨hk, hu, rfl⟩)
def z_okset (ls : List Value) (k : Nat) : Bool := (z_nth ls (k - 1)).category != 2
theorem z_L_set {ω : zW} {nL : Nat} {ls : List Value} {lsR : Array Slot} {k : Nat} {v : Value} (hok : z_okset ls k = true) (h : lv_has lsR nL ((k, z_e ω v) :: (z_al ω nL ls).filter (fun q => !(q.1 == k) && !(q.1 + 1 == k && q.2.category == 2)))) : z_L ω nL (z_set ls k v) lsR := by
  refine ⟨h.1, h.2.1, fun q hq => h.2.2 q ?_⟩
  obtain ⟨h1, h2, h3⟩ := z_al_mem.mp hq
  by_cases hqk : q.1 = k
  · rcases z_nth_self ls k v with e | e
    · rw [hqk, e] at h3
      rw [List.mem_cons]
      exact Or.inl (Prod.ext hqk h3)
    · rw [hqk, e] at h2
      cases h2
  · rcases z_nth_set ls k v q.1 with e | ⟨e, -⟩
    · rw [e] at h2 h3
      refine List.mem_cons_of_mem _ (List.mem_filter.mpr ⟨z_al_mem.mpr ⟨h1, h2, h3⟩, ?_⟩)
      have n1 : (q.1 == k) = false := by simpa using hqk
      rw [n1]
      by_cases hk1 : q.1 + 1 = k
      · have : (q.2.category == 2) = false := by
          rw [h3, z_e_cat]
          have h0 : q.1 = k - 1 := by omega
          rw [h0]
          unfold z_okset at hok
          simpa using hok
        rw [this]
        simp
      · have : (q.1 + 1 == k) = false := by simpa using hk1
        rw [this]
        simp
    · exact absurd e hqk
/-! what a run knows of the tables -/
def zTB : List Cond := lw_tbl.filter goodWord
theorem zTB_good {w : Cond} (h : w ∈ zTB) : (w.onTables && w.keeps) = true ∨ ∃ ty, w = .arrayClass ty := good_of_word (List.mem_filter.mp h).2
theorem zTB_of {w : Cond} (h : w ∈ lw_tbl) (hg : goodWord w = true) : w ∈ zTB := List.mem_filter.mpr ⟨h, hg⟩
def zNW : List Cond := tables_1.filter (fun w => match w with | .methodLinkNest _ _ _ _ => true | _ => false)
def zAO : List String := [RX4, RX5, RX7, RX9]
/-- the rows' kinds: 20 int, 21 boolean, 22 byte, 23.. references -/
def z_ty (k : Nat) : FieldType := if k = 20 then .int else if k = 21 then .boolean else if k = 22 then .byte else if k = 23 then .object RX4 else if k = 24 then .object RX5 else if k = 25 then .object RX7 else .object RX9
def z_tys (ω : zW) : List (ClassId × FieldType) := [20, 21, 22, 23, 24, 25, 26].map (fun k => (ω.2.1 k, z_ty k))
def z_K1 (ω : zW) (U : State) : Prop := va_K ω.1 vwCl (z_tys ω) U ∧ (∀ w ∈ zNW, va_Nw w U) ∧ (∀ C ∈ zAO, va_AO C U) ∧ vk_R "TenForOne$Tape" 33 "mcks" ω.2.2.2.1 U
abbrev zX : Type := Nat × (Nat → Int32)
def z_K2 (ω : zW) (X : zX) (U : State) (H : Heap) : Prop := va_Z "java/lang/String" "COMPACT_STRINGS" "Z" (.int 1) (fun q => z_B ω ≤ q) U H ∧ vk_S 1 [4] [[109, 99, 107, 115]] (fun _ => ω.2.2.2.1) (fun _ => ω.2.2.2.2.1) (fun q => z_B ω ≤ q) U H ∧ va_X ω.2.2.1 X.1 X.2 U H ∧ ω.2.2.1 < z_B ω
/-- a cell of the run, in the machine's heap -/
def z_at (ω : zW) (q : Nat) (sp : Nat × Nat) (h : Nat → Value) (H : Heap) : Prop :=
  (sp.1 < 13 → ∃ r : vw_C, vwCl[sp.1]? = some r ∧ t_OB q (ω.1.1 sp.1) r.2.2 (ω.1.2 sp.1) H (fun j => z_e ω (h j))) ∧ (13 ≤ sp.1 → 20 ≤ sp.1 ∧ sp.1 ≤ 26 ∧ H[q]? = some (arrV (ω.2.1 sp.1) sp.2 (fun j => z_e ω (h j))))
def z_H (ω : zW) (σ : zS) (H : Heap) : Prop := 3 ≤ σ.1.1 ∧ H.size + 3 = z_B ω + σ.1.1 ∧ ∀ a, 3 ≤ a → a < σ.1.1 → z_at ω (z_B ω + (a - 3)) (σ.2.1 a) (σ.2.2 a) H
def z_In (mt : zM) (p : Program) (R : Room) (s : State) (m : MethodId) (args : Array Value) (meth : Method) (c : Code) : Prop :=
  p.tables.exec = Jvm.exec ∧ c.code = mt.1.2 ∧ c.maxLocals = mt.2.1 ∧ s.vm.findClass mt.1.1.cls = some m.cls ∧ (∀ w ∈ zTB, w.before args s = true) ∧ mt.2.2.2.1 ≤ R.frames ∧ mt.2.2.2.2 ≤ R.locals ∧ (mt.1.1.name = "<init>" → meth.name = "<init>")
/-- a method's end, with its answer -/
def z_Ret (mt : zM) (pc : Nat) (st : List Value) (r : Option Value) : Prop :=
  (r = none ∧ st = [] ∧ mt.2.2.1 = none ∧ decode mt.1.2 pc = .ok (.return_, 1)) ∨
  (∃ (x : Int32) (ty : FieldType), r = some (.int x) ∧ st = [.int x] ∧ mt.2.2.1 = some ty ∧ narrow ty (.int x) = .int x ∧ decode mt.1.2 pc = .ok (.ireturn, 1)) ∨
  (∃ (v : Value) (rt : FieldType), r = some v ∧ st = [v] ∧ mt.2.2.1 = some rt ∧ ((∃ n, rt = .object n) ∨ ∃ t, rt = .array t) ∧ (v = .null ∨ ∃ a, v = .ref a) ∧ decode mt.1.2 pc = .ok (.areturn, 1))
/-- from pc the method comes to its end with r and the cells of σ' -/
def z_Sem (X : zX) (mt : zM) (pc : Nat) (ls st : List Value) (σ : zS) (r : Option Value) (σ' : zS) : Prop :=
  σ.1.1 ≤ σ'.1.1 ∧ σ.1.2 ≤ σ'.1.2 ∧
  ∀ (ω : zW) (p : Program) (l : Launch) (e : Env) (R : Room) (s : State) (m : MethodId) (args : Array Value) (below : List Frame) (meth : Method) (c : Code) (H : Heap) (locs : List Loc) (cells slots : Nat) (Qf : State → Prop) (lsR : Array Slot),
    z_In mt p R s m args meth c → z_K1 ω s → z_K2 ω X s H → z_H ω σ H → z_L ω mt.2.1 ls lsR → (∀ q ∈ locs, z_B ω ≤ q.base) →
    cells + (σ'.1.1 - σ.1.1) ≤ R.cells → slots + (σ'.1.2 - σ.1.2) ≤ R.slots →
    (∀ (H' : Heap) (locs' : List Loc) (pc' : Nat) (lsR' : Array Slot) (st' : List Value), z_Ret mt pc' st' r → z_K2 ω X s H' → z_H ω σ' H' → (∀ q ∈ locs', z_B ω ≤ q.base) →
      W p l e R s m args below meth c H' locs' (cells + (σ'.1.1 - σ.1.1)) (slots + (σ'.1.2 - σ.1.2)) Qf (F0 m pc' lsR' (st'.map (z_e ω)))) →
    W p l e R s m args below meth c H locs cells slots Qf (F0 m pc lsR (st.map (z_e ω)))
/-- from pc the method comes to its end, and then Q -/
def zE (X : zX) (mt : zM) (pc : Nat) (ls st : List Value) (σ : zS) (Q : Option Value → zS → Prop) : Prop := ∃ (r : Option Value) (σ' : zS), Q r σ' ∧ z_Sem X mt pc ls st σ r σ'
theorem zE.mono {X : zX} {mt : zM} {pc : Nat} {ls st : List Value} {σ : zS} {Q Q' : Option Value → zS → Prop} (h : zE X mt pc ls st σ Q) (hq : ∀ r σ', Q r σ' → Q' r σ') : zE X mt pc ls st σ Q' := by
  obtain ⟨r, σ', h1, h2⟩ := h
  exact ⟨r, σ', hq _ _ h1, h2⟩
/-- an instruction that leaves the cells as they are -/
theorem z_pure {X : zX} {mt : zM} {pc pc' : Nat} {ls ls' st st' : List Value} {σ : zS} {Q : Option Value → zS → Prop}
    (row : ∀ {ω : zW} {p : Program} {l : Launch} {e : Env} {R : Room} {s : State} {m : MethodId} {args : Array Value} {below : List Frame} {meth : Method} {c : Code} {H : Heap} {locs : List Loc} {cells slots : Nat} {Qf : State → Prop} (lsR : Array Slot),
      z_In mt p R s m args meth c → z_K1 ω s → z_K2 ω X s H → z_H ω σ H → z_L ω mt.2.1 ls lsR → (∀ lsR', z_L ω mt.2.1 ls' lsR' → W p l e R s m args below meth c H locs cells slots Qf (F0 m pc' lsR' (st'.map (z_e ω)))) → W p l e R s m args below meth c H locs cells slots Qf (F0 m pc lsR (st.map (z_e ω))))
    (h : zE X mt pc' ls' st' σ Q) : zE X mt pc ls st σ Q := by
  obtain ⟨r, σ', hQ, h1, h2, h3⟩ := h
  refine ⟨r, σ', hQ, h1, h2, ?_⟩
  intro ω p l e R s m args below meth c H locs cells slots Qf lsR hI hK1 hK2 hH hL hlo hc hs k
  exact row lsR hI hK1 hK2 hH hL (fun lsR' hL' => h3 ω p l e R s m args below meth c H locs cells slots Qf lsR' hI hK1 hK2 hH hL' hlo hc hs k)
/-! a decoded instruction, the next place; a jump's goal -/
def zD (cc : ByteArray) (pc : Nat) (i : Instr) (len pc' : Nat) : Prop := decode cc pc = .ok (i, len) ∧ pc + len = pc'
def zJ (cc : ByteArray) (pc : Nat) (i : Instr) (off : Int) (pc' tgt : Nat) : Prop := decode cc pc = .ok (i, 3) ∧ pc + 3 = pc' ∧ (pc : Int) + off = (tgt : Int)
end
section
/-! ROWS OF SINGLE INSTRUCTIONS: nothing of the cells changes -/
theorem z32 {a : Int} (h1 : -2147483648 ≤ a) (h2 : a ≤ 2147483647) : (Int32.ofInt a).toInt = a := Int32.toInt_ofInt_of_le (by omega) (by omega)
abbrev zr (a : Int) : Prop := -2147483648 ≤ a ∧ a ≤ 2147483647
theorem zr_lt {a b : Int} (ha : zr a) (hb : zr b) : Int32.ofInt a < Int32.ofInt b ↔ a < b := by rw [Int32.lt_iff_toInt_lt, z32 ha.1 ha.2, z32 hb.1 hb.2]
theorem zr_le {a b : Int} (ha : zr a) (hb : zr b) : Int32.ofInt a ≤ Int32.ofInt b ↔ a ≤ b := by rw [Int32.le_iff_toInt_le, z32 ha.1 ha.2, z32 hb.1 hb.2]
theorem zr_eq {a b : Int} (ha : zr a) (hb : zr b) : Int32.ofInt a = Int32.ofInt b ↔ a = b := by rw [← Int32.toInt_inj, z32 ha.1 ha.2, z32 hb.1 hb.2]
theorem z_of (x : Int32) : Int32.ofInt x.toInt = x := Int32.ofInt_toInt x
theorem z_tr (x : Int32) : zr x.toInt := ⟨Int32.le_toInt x, by have := Int32.toInt_lt x; omega⟩
section ZR
variable {X : zX} {mt : zM} {pc pc' tgt : Nat} {ls ls' st : List Value} {σ : zS} {Q : Option Value → zS → Prop}
theorem e_iconst {n : Int} (hd : zD mt.1.2 pc (.iconst n) 1 pc') (h : zE X mt pc' ls (vi n :: st) σ Q) : zE X mt pc ls st σ Q := by
  obtain ⟨hd, rfl⟩ := hd
  exact z_pure (fun lsR hI _ _ _ hL k => lv_iconst hI.1 hI.2.1 hd rfl (k lsR hL)) h
theorem e_bipush {n : Int} (hd : zD mt.1.2 pc (.bipush n) 2 pc') (hn : (Int8.ofInt n).toInt32 = Int32.ofInt n) (h : zE X mt pc' ls (vi n :: st) σ Q) : zE X mt pc ls st σ Q := by
  obtain ⟨hd, rfl⟩ := hd
  exact z_pure (fun lsR hI _ _ _ hL k => lv_bipush hI.1 hI.2.1 hd hn (k lsR hL)) h
theorem e_sipush {n : Int} (hd : zD mt.1.2 pc (.sipush n) 3 pc') (hn : (Int16.ofInt n).toInt32 = Int32.ofInt n) (h : zE X mt pc' ls (vi n :: st) σ Q) : zE X mt pc ls st σ Q := by
  obtain ⟨hd, rfl⟩ := hd
  exact z_pure (fun lsR hI _ _ _ hL k => lv_sipush hI.1 hI.2.1 hd hn (k lsR hL)) h
theorem e_ldc {i : Nat} {n : Int} (hd : zD mt.1.2 pc (.ldc i) 2 pc') (hc : Cond.constant mt.1.1.cls i (Int32.ofInt n) ∈ zTB) (h : zE X mt pc' ls (vi n :: st) σ Q) : zE X mt pc ls st σ Q := by
  obtain ⟨hd, rfl⟩ := hd
  exact z_pure (fun lsR hI _ _ _ hL k => lv_ldc hI.1 hI.2.1 hI.2.2.2.1 (hI.2.2.2.2.1 _ hc) hd (k lsR hL)) h
theorem e_ldcw {i : Nat} {n : Int} (hd : zD mt.1.2 pc (.ldc_w i) 3 pc') (hc : Cond.constant mt.1.1.cls i (Int32.ofInt n) ∈ zTB) (h : zE X mt pc' ls (vi n :: st) σ Q) : zE X mt pc ls st σ Q := by
  obtain ⟨hd, rfl⟩ := hd
  exact z_pure (fun lsR hI _ _ _ hL k => lv_ldcw hI.1 hI.2.1 hI.2.2.2.1 (hI.2.2.2.2.1 _ hc) hd (k lsR hL)) h
theorem e_ldc2 {i : Nat} {v : Int64} (hd : zD mt.1.2 pc (.ldc2_w i) 3 pc') (hc : Cond.constantLong mt.1.1.cls i v ∈ zTB) (h : zE X mt pc' ls (.long v :: st) σ Q) : zE X mt pc ls st σ Q := by
  obtain ⟨hd, rfl⟩ := hd
  exact z_pure (fun lsR hI _ _ _ hL k => lv_ldc2 hI.1 hI.2.1 hI.2.2.2.1 (hI.2.2.2.2.1 _ hc) hd (k lsR hL)) h
theorem e_null (hd : zD mt.1.2 pc .aconst_null 1 pc') (h : zE X mt pc' ls (.null :: st) σ Q) : zE X mt pc ls st σ Q := by
  obtain ⟨hd, rfl⟩ := hd
  exact z_pure (fun lsR hI _ _ _ hL k => lv_null hI.1 hI.2.1 hd (k lsR hL)) h
theorem e_iload_n {k : Fin 4} {x : Int} (hd : zD mt.1.2 pc (.iload_n k) 1 pc') (hk : k.val < mt.2.1) (hl : z_nth ls k.val = vi x) (h : zE X mt pc' ls (vi x :: st) σ Q) : zE X mt pc ls st σ Q := by
  obtain ⟨hd, rfl⟩ := hd
  exact z_pure (fun lsR hI _ _ _ hL kk => lv_iload_n hI.1 hI.2.1 hd rfl (z_L_at hL hk hl rfl) (kk lsR hL)) h
theorem e_iload {k : Nat} {x : Int} (hd : zD mt.1.2 pc (.iload k) 2 pc') (hk : k < mt.2.1) (hl : z_nth ls k = vi x) (h : zE X mt pc' ls (vi x :: st) σ Q) : zE X mt pc ls st σ Q := by
  obtain ⟨hd, rfl⟩ := hd
  exact z_pure (fun lsR hI _ _ _ hL kk => lv_iload hI.1 hI.2.1 hd (z_L_at hL hk hl rfl) (kk lsR hL)) h
theorem e_lload_n {k : Fin 4} {x : Int64} (hd : zD mt.1.2 pc (.lload_n k) 1 pc') (hk : k.val < mt.2.1) (hl : z_nth ls k.val = .long x) (h : zE X mt pc' ls (.long x :: st) σ Q) : zE X mt pc ls st σ Q := by
  obtain ⟨hd, rfl⟩ := hd
  exact z_pure (fun lsR hI _ _ _ hL kk => lv_lload_n hI.1 hI.2.1 hd rfl (z_L_at hL hk hl rfl) (kk lsR hL)) h
theorem e_aload_n {k : Fin 4} {x : Nat} (hd : zD mt.1.2 pc (.aload_n k) 1 pc') (hk : k.val < mt.2.1) (hl : z_nth ls k.val = .ref x) (h : zE X mt pc' ls (.ref x :: st) σ Q) : zE X mt pc ls st σ Q := by
  obtain ⟨hd, rfl⟩ := hd
  exact z_pure (fun lsR hI _ _ _ hL kk => lv_aload_n hI.1 hI.2.1 hd rfl (z_L_at hL hk hl rfl) (kk lsR hL)) h
theorem e_aload {k : Nat} {x : Nat} (hd : zD mt.1.2 pc (.aload k) 2 pc') (hk : k < mt.2.1) (hl : z_nth ls k = .ref x) (h : zE X mt pc' ls (.ref x :: st) σ Q) : zE X mt pc ls st σ Q := by
  obtain ⟨hd, rfl⟩ := hd
  exact z_pure (fun lsR hI _ _ _ hL kk => lv_aload hI.1 hI.2.1 hd (z_L_at hL hk hl rfl) (kk lsR hL)) h
theorem e_aload_nN {k : Fin 4} (hd : zD mt.1.2 pc (.aload_n k) 1 pc') (hk : k.val < mt.2.1) (hl : z_nth ls k.val = .null) (h : zE X mt pc' ls (.null :: st) σ Q) : zE X mt pc ls st σ Q := by
  obtain ⟨hd, rfl⟩ := hd
  exact z_pure (fun lsR hI _ _ _ hL kk => lv_aload_nN hI.1 hI.2.1 hd rfl (z_L_at hL hk hl rfl) (kk lsR hL)) h
theorem e_aloadN {k : Nat} (hd : zD mt.1.2 pc (.aload k) 2 pc') (hk : k < mt.2.1) (hl : z_nth ls k = .null) (h : zE X mt pc' ls (.null :: st) σ Q) : zE X mt pc ls st σ Q := by
  obtain ⟨hd, rfl⟩ := hd
  exact z_pure (fun lsR hI _ _ _ hL kk => lv_aloadN hI.1 hI.2.1 hd (z_L_at hL hk hl rfl) (kk lsR hL)) h
theorem e_istore_n {k : Fin 4} {x : Int} (hd : zD mt.1.2 pc (.istore_n k) 1 pc') (hk : k.val < mt.2.1) (hok : z_okset ls k.val = true) (hs : z_set ls k.val (vi x) = ls') (h : zE X mt pc' ls' st σ Q) : zE X mt pc ls (vi x :: st) σ Q := by
  obtain ⟨hd, rfl⟩ := hd
  subst hs
  exact z_pure (fun lsR hI _ _ _ hL kk => lv_istore_n hI.1 hI.2.1 hd rfl hL hk rfl (fun lsR' h' => kk lsR' (z_L_set (v := vi x) hok h'))) h
theorem e_istore {k : Nat} {x : Int} (hd : zD mt.1.2 pc (.istore k) 2 pc') (hk : k < mt.2.1) (hok : z_okset ls k = true) (hs : z_set ls k (vi x) = ls') (h : zE X mt pc' ls' st σ Q) : zE X mt pc ls (vi x :: st) σ Q := by
  obtain ⟨hd, rfl⟩ := hd
  subst hs
  exact z_pure (fun lsR hI _ _ _ hL kk => lv_istore hI.1 hI.2.1 hd hL hk rfl (fun lsR' h' => kk lsR' (z_L_set (v := vi x) hok h'))) h
theorem e_astore_n {k : Fin 4} {x : Nat} (hd : zD mt.1.2 pc (.astore_n k) 1 pc') (hk : k.val < mt.2.1) (hok : z_okset ls k.val = true) (hs : z_set ls k.val (.ref x) = ls') (h : zE X mt pc' ls' st σ Q) : zE X mt pc ls (.ref x :: st) σ Q := by
  obtain ⟨hd, rfl⟩ := hd
  subst hs
  exact z_pure (fun lsR hI _ _ _ hL kk => lv_astore_n hI.1 hI.2.1 hd rfl hL hk rfl (fun lsR' h' => kk lsR' (z_L_set (v := .ref x) hok h'))) h
theorem e_astore {k : Nat} {x : Nat} (hd : zD mt.1.2 pc (.astore k) 2 pc') (hk : k < mt.2.1) (hok : z_okset ls k = true) (hs : z_set ls k (.ref x) = ls') (h : zE X mt pc' ls' st σ Q) : zE X mt pc ls (.ref x :: st) σ Q := by
  obtain ⟨hd, rfl⟩ := hd
  subst hs
  exact z_pure (fun lsR hI _ _ _ hL kk => lv_astore hI.1 hI.2.1 hd hL hk rfl (fun lsR' h' => kk lsR' (z_L_set (v := .ref x) hok h'))) h
theorem e_astore_nN {k : Fin 4} (hd : zD mt.1.2 pc (.astore_n k) 1 pc') (hk : k.val < mt.2.1) (hok : z_okset ls k.val = true) (hs : z_set ls k.val .null = ls') (h : zE X mt pc' ls' st σ Q) : zE X mt pc ls (.null :: st) σ Q := by
  obtain ⟨hd, rfl⟩ := hd
  subst hs
  exact z_pure (fun lsR hI _ _ _ hL kk => lv_astore_nN hI.1 hI.2.1 hd rfl hL hk rfl (fun lsR' h' => kk lsR' (z_L_set (v := .null) hok h'))) h
theorem e_astoreN {k : Nat} (hd : zD mt.1.2 pc (.astore k) 2 pc') (hk : k < mt.2.1) (hok : z_okset ls k = true) (hs : z_set ls k .null = ls') (h : zE X mt pc' ls' st σ Q) : zE X mt pc ls (.null :: st) σ Q := by
  obtain ⟨hd, rfl⟩ := hd
  subst hs
  exact z_pure (fun lsR hI _ _ _ hL kk => lv_astoreN hI.1 hI.2.1 hd hL hk rfl (fun lsR' h' => kk lsR' (z_L_set (v := .null) hok h'))) h
theorem e_iinc {k : Nat} {n x : Int} (hd : zD mt.1.2 pc (.iinc k n) 3 pc') (hk : k < mt.2.1) (hok : z_okset ls k = true) (hl : z_nth ls k = vi x) (hs : z_set ls k (vi (x + n)) = ls') (h : zE X mt pc' ls' st σ Q) : zE X mt pc ls st σ Q := by
  obtain ⟨hd, rfl⟩ := hd
  subst hs
  refine z_pure (@fun ω p l e R s m args below meth c H locs cells slots Qf lsR hI _ _ _ hL kk => ?_) h
  obtain ⟨j, hj⟩ := List.getElem?_of_mem (z_al_mem (ω := ω) (q := (k, vi x)) (nL := mt.2.1) (ls := ls) |>.mpr ⟨hk, by rw [show z_nth ls (k, vi x).1 = vi x from hl]; rfl, by rw [show z_nth ls (k, vi x).1 = vi x from hl]; rfl⟩)
  exact lv_iinc (v := Int32.ofInt (x + n)) hI.1 hI.2.1 hd hL hj (by rw [Int32.ofInt_add]) hk rfl (fun lsR' h' => kk lsR' (z_L_set (v := vi (x + n)) hok h'))
theorem e_iadd {a b : Int} (hd : zD mt.1.2 pc .iadd 1 pc') (h : zE X mt pc' ls (vi (a + b) :: st) σ Q) : zE X mt pc ls (vi b :: vi a :: st) σ Q := by
  obtain ⟨hd, rfl⟩ := hd
  exact z_pure (fun lsR hI _ _ _ hL k => lv_iadd hI.1 hI.2.1 hd (by rw [← Int32.ofInt_add]; exact k lsR hL)) h
theorem e_isub {a b : Int} (hd : zD mt.1.2 pc .isub 1 pc') (h : zE X mt pc' ls (vi (a - b) :: st) σ Q) : zE X mt pc ls (vi b :: vi a :: st) σ Q := by
  obtain ⟨hd, rfl⟩ := hd
  exact z_pure (fun lsR hI _ _ _ hL k => lv_isub hI.1 hI.2.1 hd (by rw [← Int32.ofInt_sub]; exact k lsR hL)) h
theorem e_imul {a b : Int} (hd : zD mt.1.2 pc .imul 1 pc') (h : zE X mt pc' ls (vi (a * b) :: st) σ Q) : zE X mt pc ls (vi b :: vi a :: st) σ Q := by
  obtain ⟨hd, rfl⟩ := hd
  exact z_pure (fun lsR hI _ _ _ hL k => lv_imul hI.1 hI.2.1 hd (by rw [← Int32.ofInt_mul]; exact k lsR hL)) h
theorem e_ineg {a : Int} (hd : zD mt.1.2 pc .ineg 1 pc') (h : zE X mt pc' ls (vi (-a) :: st) σ Q) : zE X mt pc ls (vi a :: st) σ Q := by
  obtain ⟨hd, rfl⟩ := hd
  exact z_pure (fun lsR hI _ _ _ hL k => lv_ineg hI.1 hI.2.1 hd (by rw [← Int32.ofInt_neg]; exact k lsR hL)) h
theorem e_idiv {a b : Int} (hd : zD mt.1.2 pc .idiv 1 pc') (ha : 0 ≤ a ∧ a ≤ 2147483647) (hb : 0 < b ∧ b ≤ 2147483647) (h : zE X mt pc' ls (vi (a / b) :: st) σ Q) : zE X mt pc ls (vi b :: vi a :: st) σ Q := by
  obtain ⟨hd, rfl⟩ := hd
  have e : Int32.ofInt a / Int32.ofInt b = Int32.ofInt (a / b) := by
    apply Int32.toInt_inj.mp
    have h1 : 0 ≤ a / b := Int.ediv_nonneg ha.1 (by omega)
    have h2 : a / b ≤ a := Int.ediv_le_self b ha.1
    rw [Int32.toInt_div, z32 (by omega) ha.2, z32 (by omega) hb.2, z32 (by omega) (by omega), Int.tdiv_eq_ediv_of_nonneg ha.1]
    exact Int.bmod_eq_of_le (by omega) (by omega)
  exact z_pure (fun lsR hI _ _ _ hL k => lv_idiv hI.1 hI.2.1 hd (fun h0 => by rw [show (0 : Int32) = Int32.ofInt 0 from rfl, zr_eq (by constructor <;> omega) (by constructor <;> omega)] at h0; omega) (by rw [e]; exact k lsR hL)) h
theorem e_irem {a b : Int} (hd : zD mt.1.2 pc .irem 1 pc') (ha : 0 ≤ a ∧ a ≤ 2147483647) (hb : 0 < b ∧ b ≤ 2147483647) (h : zE X mt pc' ls (vi (a % b) :: st) σ Q) : zE X mt pc ls (vi b :: vi a :: st) σ Q := by
  obtain ⟨hd, rfl⟩ := hd
  have e : Int32.ofInt a - Int32.ofInt a / Int32.ofInt b * Int32.ofInt b = Int32.ofInt (a % b) := by
    apply Int32.toInt_inj.mp
    have h1 : 0 ≤ a % b := Int.emod_nonneg a (by omega)
    have h2 : a % b < b := Int.emod_lt_of_pos a hb.1
    rw [rem_toInt, z32 (by omega) ha.2, z32 (by omega) hb.2, z32 (by omega) (by omega), Int.tmod_eq_emod_of_nonneg ha.1]
  exact z_pure (fun lsR hI _ _ _ hL k => lv_irem hI.1 hI.2.1 hd (fun h0 => by rw [show (0 : Int32) = Int32.ofInt 0 from rfl, zr_eq (by constructor <;> omega) (by constructor <;> omega)] at h0; omega) (by rw [e]; exact k lsR hL)) h
theorem e_iand {a b : Int} (hd : zD mt.1.2 pc .iand 1 pc') {v : Int} (hv : Int32.ofInt a &&& Int32.ofInt b = Int32.ofInt v) (h : zE X mt pc' ls (vi v :: st) σ Q) : zE X mt pc ls (vi b :: vi a :: st) σ Q := by
  obtain ⟨hd, rfl⟩ := hd
  exact z_pure (fun lsR hI _ _ _ hL k => lv_iand hI.1 hI.2.1 hd (by rw [hv]; exact k lsR hL)) h
theorem e_ior {a b : Int} (hd : zD mt.1.2 pc .ior 1 pc') {v : Int} (hv : Int32.ofInt a ||| Int32.ofInt b = Int32.ofInt v) (h : zE X mt pc' ls (vi v :: st) σ Q) : zE X mt pc ls (vi b :: vi a :: st) σ Q := by
  obtain ⟨hd, rfl⟩ := hd
  exact z_pure (fun lsR hI _ _ _ hL k => lv_ior hI.1 hI.2.1 hd (by rw [hv]; exact k lsR hL)) h
theorem e_ixor {a b : Int} (hd : zD mt.1.2 pc .ixor 1 pc') {v : Int} (hv : Int32.ofInt a ^^^ Int32.ofInt b = Int32.ofInt v) (h : zE X mt pc' ls (vi v :: st) σ Q) : zE X mt pc ls (vi b :: vi a :: st) σ Q := by
  obtain ⟨hd, rfl⟩ := hd
  exact z_pure (fun lsR hI _ _ _ hL k => lv_ixor hI.1 hI.2.1 hd (by rw [hv]; exact k lsR hL)) h
theorem e_ishl {a b : Int} (hd : zD mt.1.2 pc .ishl 1 pc') {v : Int} (hv : Int32.ofInt a <<< (Int32.ofInt b &&& 31) = Int32.ofInt v) (h : zE X mt pc' ls (vi v :: st) σ Q) : zE X mt pc ls (vi b :: vi a :: st) σ Q := by
  obtain ⟨hd, rfl⟩ := hd
  exact z_pure (fun lsR hI _ _ _ hL k => lv_ishl hI.1 hI.2.1 hd (by rw [hv]; exact k lsR hL)) h
theorem e_ishr {a b : Int} (hd : zD mt.1.2 pc .ishr 1 pc') {v : Int} (hv : Int32.ofInt a >>> (Int32.ofInt b &&& 31) = Int32.ofInt v) (h : zE X mt pc' ls (vi v :: st) σ Q) : zE X mt pc ls (vi b :: vi a :: st) σ Q := by
  obtain ⟨hd, rfl⟩ := hd
  exact z_pure (fun lsR hI _ _ _ hL k => lv_ishr hI.1 hI.2.1 hd (by rw [hv]; exact k lsR hL)) h
theorem e_iushr {a b : Int} (hd : zD mt.1.2 pc .iushr 1 pc') {v : Int} (hv : ((Int32.ofInt a).toUInt32 >>> ((Int32.ofInt b).toUInt32 &&& Int32.toUInt32 31)).toInt32 = Int32.ofInt v) (h : zE X mt pc' ls (vi v :: st) σ Q) : zE X mt pc ls (vi b :: vi a :: st) σ Q := by
  obtain ⟨hd, rfl⟩ := hd
  exact z_pure (fun lsR hI _ _ _ hL k => lv_iushr hI.1 hI.2.1 hd hv (k lsR hL)) h
theorem e_i2b {a v : Int} (hd : zD mt.1.2 pc .i2b 1 pc') (hv : (Int32.ofInt a).toInt8.toInt32 = Int32.ofInt v) (h : zE X mt pc' ls (vi v :: st) σ Q) : zE X mt pc ls (vi a :: st) σ Q := by
  obtain ⟨hd, rfl⟩ := hd
  exact z_pure (fun lsR hI _ _ _ hL k => lv_i2b hI.1 hI.2.1 hd hv (k lsR hL)) h
theorem e_i2s {a v : Int} (hd : zD mt.1.2 pc .i2s 1 pc') (hv : (Int32.ofInt a).toInt16.toInt32 = Int32.ofInt v) (h : zE X mt pc' ls (vi v :: st) σ Q) : zE X mt pc ls (vi a :: st) σ Q := by
  obtain ⟨hd, rfl⟩ := hd
  exact z_pure (fun lsR hI _ _ _ hL k => lv_i2s hI.1 hI.2.1 hd hv (k lsR hL)) h
theorem e_i2c {a v : Int} (hd : zD mt.1.2 pc .i2c 1 pc') (hv : ((Int32.ofInt a).toUInt32 % 65536).toInt32 = Int32.ofInt v) (h : zE X mt pc' ls (vi v :: st) σ Q) : zE X mt pc ls (vi a :: st) σ Q := by
  obtain ⟨hd, rfl⟩ := hd
  exact z_pure (fun lsR hI _ _ _ hL k => lv_i2c hI.1 hI.2.1 hd hv (k lsR hL)) h
theorem e_i2l {a : Int} {v : Int64} (hd : zD mt.1.2 pc .i2l 1 pc') (hv : (Int32.ofInt a).toInt64 = v) (h : zE X mt pc' ls (.long v :: st) σ Q) : zE X mt pc ls (vi a :: st) σ Q := by
  obtain ⟨hd, rfl⟩ := hd
  exact z_pure (fun lsR hI _ _ _ hL k => lv_i2l hI.1 hI.2.1 hd hv (k lsR hL)) h
theorem e_l2i {a : Int64} {v : Int} (hd : zD mt.1.2 pc .l2i 1 pc') (hv : a.toInt32 = Int32.ofInt v) (h : zE X mt pc' ls (vi v :: st) σ Q) : zE X mt pc ls (.long a :: st) σ Q := by
  obtain ⟨hd, rfl⟩ := hd
  exact z_pure (fun lsR hI _ _ _ hL k => lv_l2i hI.1 hI.2.1 hd hv (k lsR hL)) h
theorem e_lushr {a v : Int64} {b : Int} (hd : zD mt.1.2 pc .lushr 1 pc') (hv : (a.toUInt64 >>> ((Int32.ofInt b).toInt64.toUInt64 &&& Int64.toUInt64 63)).toInt64 = v) (h : zE X mt pc' ls (.long v :: st) σ Q) : zE X mt pc ls (vi b :: .long a :: st) σ Q := by
  obtain ⟨hd, rfl⟩ := hd
  exact z_pure (fun lsR hI _ _ _ hL k => lv_lushr hI.1 hI.2.1 hd hv (k lsR hL)) h
theorem e_lshr {a v : Int64} {b : Int} (hd : zD mt.1.2 pc .lshr 1 pc') (hv : a >>> ((Int32.ofInt b).toInt64 &&& 63) = v) (h : zE X mt pc' ls (.long v :: st) σ Q) : zE X mt pc ls (vi b :: .long a :: st) σ Q := by
  obtain ⟨hd, rfl⟩ := hd
  exact z_pure (fun lsR hI _ _ _ hL k => lv_lshr hI.1 hI.2.1 hd hv (k lsR hL)) h
theorem e_lshl {a v : Int64} {b : Int} (hd : zD mt.1.2 pc .lshl 1 pc') (hv : a <<< ((Int32.ofInt b).toInt64 &&& 63) = v) (h : zE X mt pc' ls (.long v :: st) σ Q) : zE X mt pc ls (vi b :: .long a :: st) σ Q := by
  obtain ⟨hd, rfl⟩ := hd
  exact z_pure (fun lsR hI _ _ _ hL k => lv_lshl hI.1 hI.2.1 hd hv (k lsR hL)) h
theorem e_land {a b : Int64} (hd : zD mt.1.2 pc .land 1 pc') (h : zE X mt pc' ls (.long (a &&& b) :: st) σ Q) : zE X mt pc ls (.long b :: .long a :: st) σ Q := by
  obtain ⟨hd, rfl⟩ := hd
  exact z_pure (fun lsR hI _ _ _ hL k => lv_land hI.1 hI.2.1 hd (k lsR hL)) h
theorem e_lor {a b : Int64} (hd : zD mt.1.2 pc .lor 1 pc') (h : zE X mt pc' ls (.long (a ||| b) :: st) σ Q) : zE X mt pc ls (.long b :: .long a :: st) σ Q := by
  obtain ⟨hd, rfl⟩ := hd
  exact z_pure (fun lsR hI _ _ _ hL k => lv_lor hI.1 hI.2.1 hd (k lsR hL)) h
theorem e_dup {v : Value} (hd : zD mt.1.2 pc .dup 1 pc') (hv : v.category = 1) (h : zE X mt pc' ls (v :: v :: st) σ Q) : zE X mt pc ls (v :: st) σ Q := by
  obtain ⟨hd, rfl⟩ := hd
  exact z_pure (fun lsR hI _ _ _ hL k => lv_dup hI.1 hI.2.1 hd ((z_e_cat _ v).trans hv) (k lsR hL)) h
theorem e_dup2 {v w : Value} (hd : zD mt.1.2 pc .dup2 1 pc') (hv : v.category = 1) (hw : w.category = 1) (h : zE X mt pc' ls (v :: w :: v :: w :: st) σ Q) : zE X mt pc ls (v :: w :: st) σ Q := by
  obtain ⟨hd, rfl⟩ := hd
  exact z_pure (fun lsR hI _ _ _ hL k => lv_dup2_11 hI.1 hI.2.1 hd ((z_e_cat _ v).trans hv) ((z_e_cat _ w).trans hw) (k lsR hL)) h
theorem e_pop {v : Value} (hd : zD mt.1.2 pc .pop 1 pc') (hv : v.category = 1) (h : zE X mt pc' ls st σ Q) : zE X mt pc ls (v :: st) σ Q := by
  obtain ⟨hd, rfl⟩ := hd
  exact z_pure (fun lsR hI _ _ _ hL k => lv_pop hI.1 hI.2.1 hd ((z_e_cat _ v).trans hv) (k lsR hL)) h
theorem e_goto {off : Int} (hd : zJ mt.1.2 pc (.goto off) off pc' tgt) (h : zE X mt tgt ls st σ Q) : zE X mt pc ls st σ Q :=
  z_pure (fun lsR hI _ _ _ hL k => lv_goto hI.1 hI.2.1 hd.1 hd.2.2 (k lsR hL)) h
theorem e_ifnull {a : Nat} {off : Int} (hd : zJ mt.1.2 pc (.ifnull off) off pc' tgt) (h : zE X mt pc' ls st σ Q) : zE X mt pc ls (.ref a :: st) σ Q := by
  obtain ⟨hd, rfl, -⟩ := hd
  exact z_pure (fun lsR hI _ _ _ hL k => lv_ifnull hI.1 hI.2.1 hd (k lsR hL)) h
theorem e_ifnullN {off : Int} (hd : zJ mt.1.2 pc (.ifnull off) off pc' tgt) (h : zE X mt tgt ls st σ Q) : zE X mt pc ls (.null :: st) σ Q :=
  z_pure (fun lsR hI _ _ _ hL k => lv_ifnullN hI.1 hI.2.1 hd.1 hd.2.2 (k lsR hL)) h
theorem e_ifnonnull {a : Nat} {off : Int} (hd : zJ mt.1.2 pc (.ifnonnull off) off pc' tgt) (h : zE X mt tgt ls st σ Q) : zE X mt pc ls (.ref a :: st) σ Q :=
  z_pure (fun lsR hI _ _ _ hL k => lv_ifnonnull hI.1 hI.2.1 hd.1 hd.2.2 (k lsR hL)) h
theorem e_ifnonnullN {off : Int} (hd : zJ mt.1.2 pc (.ifnonnull off) off pc' tgt) (h : zE X mt pc' ls st σ Q) : zE X mt pc ls (.null :: st) σ Q := by
  obtain ⟨hd, rfl, -⟩ := hd
  exact z_pure (fun lsR hI _ _ _ hL k => lv_ifnonnullN hI.1 hI.2.1 hd (k lsR hL)) h
theorem e_icmp_eq {a b : Int} {off : Int} (hd : zJ mt.1.2 pc (.if_icmp .eq off) off pc' tgt) (ha : zr a) (hb : zr b) (ht : a = b → zE X mt tgt ls st σ Q) (hf : ¬ (a = b) → zE X mt pc' ls st σ Q) : zE X mt pc ls (vi b :: vi a :: st) σ Q := by
  obtain ⟨hd, rfl, hj⟩ := hd
  by_cases hc : a = b
  · exact z_pure (fun lsR hI _ _ _ hL k => lv_icmp_eq hI.1 hI.2.1 hd hj (fun _ => k lsR hL) (fun h => absurd ((zr_eq ha hb).mpr hc) h)) (ht hc)
  · exact z_pure (fun lsR hI _ _ _ hL k => lv_icmp_eq hI.1 hI.2.1 hd hj (fun h => absurd ((zr_eq ha hb).mp h) hc) (fun _ => k lsR hL)) (hf hc)
theorem e_if_eq {a : Int} {off : Int} (hd : zJ mt.1.2 pc (.ifCond .eq off) off pc' tgt) (ha : zr a) (ht : a = 0 → zE X mt tgt ls st σ Q) (hf : ¬ (a = 0) → zE X mt pc' ls st σ Q) : zE X mt pc ls (vi a :: st) σ Q := by
  obtain ⟨hd, rfl, hj⟩ := hd
  have hb : zr 0 := by constructor <;> omega
  by_cases hc : a = 0
  · exact z_pure (fun lsR hI _ _ _ hL k => lv_if_eq hI.1 hI.2.1 hd hj (fun _ => k lsR hL) (fun h => absurd ((zr_eq ha hb).mpr hc) h)) (ht hc)
  · exact z_pure (fun lsR hI _ _ _ hL k => lv_if_eq hI.1 hI.2.1 hd hj (fun h => absurd ((zr_eq ha hb).mp h) hc) (fun _ => k lsR hL)) (hf hc)
theorem e_icmp_ne {a b : Int} {off : Int} (hd : zJ mt.1.2 pc (.if_icmp .ne off) off pc' tgt) (ha : zr a) (hb : zr b) (ht : ¬ a = b → zE X mt tgt ls st σ Q) (hf : a = b → zE X mt pc' ls st σ Q) : zE X mt pc ls (vi b :: vi a :: st) σ Q := by
  obtain ⟨hd, rfl, hj⟩ := hd
  by_cases hc : ¬ a = b
  · exact z_pure (fun lsR hI _ _ _ hL k => lv_icmp_ne hI.1 hI.2.1 hd hj (fun _ => k lsR hL) (fun h => absurd h ((not_congr (zr_eq ha hb)).mpr hc))) (ht hc)
  · exact z_pure (fun lsR hI _ _ _ hL k => lv_icmp_ne hI.1 hI.2.1 hd hj (fun h => absurd ((not_congr (zr_eq ha hb)).mp h) hc) (fun _ => k lsR hL)) (hf (Classical.not_not.mp hc))
theorem e_if_ne {a : Int} {off : Int} (hd : zJ mt.1.2 pc (.ifCond .ne off) off pc' tgt) (ha : zr a) (ht : ¬ a = 0 → zE X mt tgt ls st σ Q) (hf : a = 0 → zE X mt pc' ls st σ Q) : zE X mt pc ls (vi a :: st) σ Q := by
  obtain ⟨hd, rfl, hj⟩ := hd
  have hb : zr 0 := by constructor <;> omega
  by_cases hc : ¬ a = 0
  · exact z_pure (fun lsR hI _ _ _ hL k => lv_if_ne hI.1 hI.2.1 hd hj (fun _ => k lsR hL) (fun h => absurd h ((not_congr (zr_eq ha hb)).mpr hc))) (ht hc)
  · exact z_pure (fun lsR hI _ _ _ hL k => lv_if_ne hI.1 hI.2.1 hd hj (fun h => absurd ((not_congr (zr_eq ha hb)).mp h) hc) (fun _ => k lsR hL)) (hf (Classical.not_not.mp hc))
theorem e_icmp_lt {a b : Int} {off : Int} (hd : zJ mt.1.2 pc (.if_icmp .lt off) off pc' tgt) (ha : zr a) (hb : zr b) (ht : a < b → zE X mt tgt ls st σ Q) (hf : ¬ (a < b) → zE X mt pc' ls st σ Q) : zE X mt pc ls (vi b :: vi a :: st) σ Q := by
  obtain ⟨hd, rfl, hj⟩ := hd
  by_cases hc : a < b
  · exact z_pure (fun lsR hI _ _ _ hL k => lv_icmp_lt hI.1 hI.2.1 hd hj (fun _ => k lsR hL) (fun h => absurd ((zr_lt ha hb).mpr hc) h)) (ht hc)
  · exact z_pure (fun lsR hI _ _ _ hL k => lv_icmp_lt hI.1 hI.2.1 hd hj (fun h => absurd ((zr_lt ha hb).mp h) hc) (fun _ => k lsR hL)) (hf hc)
theorem e_if_lt {a : Int} {off : Int} (hd : zJ mt.1.2 pc (.ifCond .lt off) off pc' tgt) (ha : zr a) (ht : a < 0 → zE X mt tgt ls st σ Q) (hf : ¬ (a < 0) → zE X mt pc' ls st σ Q) : zE X mt pc ls (vi a :: st) σ Q := by
  obtain ⟨hd, rfl, hj⟩ := hd
  have hb : zr 0 := by constructor <;> omega
  by_cases hc : a < 0
  · exact z_pure (fun lsR hI _ _ _ hL k => lv_if_lt hI.1 hI.2.1 hd hj (fun _ => k lsR hL) (fun h => absurd ((zr_lt ha hb).mpr hc) h)) (ht hc)
  · exact z_pure (fun lsR hI _ _ _ hL k => lv_if_lt hI.1 hI.2.1 hd hj (fun h => absurd ((zr_lt ha hb).mp h) hc) (fun _ => k lsR hL)) (hf hc)
theorem e_icmp_ge {a b : Int} {off : Int} (hd : zJ mt.1.2 pc (.if_icmp .ge off) off pc' tgt) (ha : zr a) (hb : zr b) (ht : b ≤ a → zE X mt tgt ls st σ Q) (hf : ¬ (b ≤ a) → zE X mt pc' ls st σ Q) : zE X mt pc ls (vi b :: vi a :: st) σ Q := by
  obtain ⟨hd, rfl, hj⟩ := hd
  by_cases hc : b ≤ a
  · exact z_pure (fun lsR hI _ _ _ hL k => lv_icmp_ge hI.1 hI.2.1 hd hj (fun _ => k lsR hL) (fun h => absurd ((zr_le hb ha).mpr hc) h)) (ht hc)
  · exact z_pure (fun lsR hI _ _ _ hL k => lv_icmp_ge hI.1 hI.2.1 hd hj (fun h => absurd ((zr_le hb ha).mp h) hc) (fun _ => k lsR hL)) (hf hc)
theorem e_if_ge {a : Int} {off : Int} (hd : zJ mt.1.2 pc (.ifCond .ge off) off pc' tgt) (ha : zr a) (ht : 0 ≤ a → zE X mt tgt ls st σ Q) (hf : ¬ (0 ≤ a) → zE X mt pc' ls st σ Q) : zE X mt pc ls (vi a :: st) σ Q := by
  obtain ⟨hd, rfl, hj⟩ := hd
  have hb : zr 0 := by constructor <;> omega
  by_cases hc : 0 ≤ a
  · exact z_pure (fun lsR hI _ _ _ hL k => lv_if_ge hI.1 hI.2.1 hd hj (fun _ => k lsR hL) (fun h => absurd ((zr_le hb ha).mpr hc) h)) (ht hc)
  · exact z_pure (fun lsR hI _ _ _ hL k => lv_if_ge hI.1 hI.2.1 hd hj (fun h => absurd ((zr_le hb ha).mp h) hc) (fun _ => k lsR hL)) (hf hc)
theorem e_icmp_gt {a b : Int} {off : Int} (hd : zJ mt.1.2 pc (.if_icmp .gt off) off pc' tgt) (ha : zr a) (hb : zr b) (ht : b < a → zE X mt tgt ls st σ Q) (hf : ¬ (b < a) → zE X mt pc' ls st σ Q) : zE X mt pc ls (vi b :: vi a :: st) σ Q := by
  obtain ⟨hd, rfl, hj⟩ := hd
  by_cases hc : b < a
  · exact z_pure (fun lsR hI _ _ _ hL k => lv_icmp_gt hI.1 hI.2.1 hd hj (fun _ => k lsR hL) (fun h => absurd ((zr_lt hb ha).mpr hc) h)) (ht hc)
  · exact z_pure (fun lsR hI _ _ _ hL k => lv_icmp_gt hI.1 hI.2.1 hd hj (fun h => absurd ((zr_lt hb ha).mp h) hc) (fun _ => k lsR hL)) (hf hc)
theorem e_if_gt {a : Int} {off : Int} (hd : zJ mt.1.2 pc (.ifCond .gt off) off pc' tgt) (ha : zr a) (ht : 0 < a → zE X mt tgt ls st σ Q) (hf : ¬ (0 < a) → zE X mt pc' ls st σ Q) : zE X mt pc ls (vi a :: st) σ Q := by
  obtain ⟨hd, rfl, hj⟩ := hd
  have hb : zr 0 := by constructor <;> omega
  by_cases hc : 0 < a
  · exact z_pure (fun lsR hI _ _ _ hL k => lv_if_gt hI.1 hI.2.1 hd hj (fun _ => k lsR hL) (fun h => absurd ((zr_lt hb ha).mpr hc) h)) (ht hc)
  · exact z_pure (fun lsR hI _ _ _ hL k => lv_if_gt hI.1 hI.2.1 hd hj (fun h => absurd ((zr_lt hb ha).mp h) hc) (fun _ => k lsR hL)) (hf hc)
theorem e_icmp_le {a b : Int} {off : Int} (hd : zJ mt.1.2 pc (.if_icmp .le off) off pc' tgt) (ha : zr a) (hb : zr b) (ht : a ≤ b → zE X mt tgt ls st σ Q) (hf : ¬ (a ≤ b) → zE X mt pc' ls st σ Q) : zE X mt pc ls (vi b :: vi a :: st) σ Q := by
  obtain ⟨hd, rfl, hj⟩ := hd
  by_cases hc : a ≤ b
  · exact z_pure (fun lsR hI _ _ _ hL k => lv_icmp_le hI.1 hI.2.1 hd hj (fun _ => k lsR hL) (fun h => absurd ((zr_le ha hb).mpr hc) h)) (ht hc)
  · exact z_pure (fun lsR hI _ _ _ hL k => lv_icmp_le hI.1 hI.2.1 hd hj (fun h => absurd ((zr_le ha hb).mp h) hc) (fun _ => k lsR hL)) (hf hc)
theorem e_if_le {a : Int} {off : Int} (hd : zJ mt.1.2 pc (.ifCond .le off) off pc' tgt) (ha : zr a) (ht : a ≤ 0 → zE X mt tgt ls st σ Q) (hf : ¬ (a ≤ 0) → zE X mt pc' ls st σ Q) : zE X mt pc ls (vi a :: st) σ Q := by
  obtain ⟨hd, rfl, hj⟩ := hd
  have hb : zr 0 := by constructor <;> omega
  by_cases hc : a ≤ 0
  · exact z_pure (fun lsR hI _ _ _ hL k => lv_if_le hI.1 hI.2.1 hd hj (fun _ => k lsR hL) (fun h => absurd ((zr_le ha hb).mpr hc) h)) (ht hc)
  · exact z_pure (fun lsR hI _ _ _ hL k => lv_if_le hI.1 hI.2.1 hd hj (fun h => absurd ((zr_le ha hb).mp h) hc) (fun _ => k lsR hL)) (hf hc)
theorem e_tableIn {dflt lo hi off : Int} {offs : Array Int} {len : Nat} {a : Int} (hd : decode mt.1.2 pc = .ok (.tableswitch dflt lo hi offs, len)) (ha : zr a) (h1 : lo ≤ a) (h2 : a ≤ hi) (ho : offs[(a - lo).toNat]? = some off) (hj : (pc : Int) + off = (tgt : Int)) (h : zE X mt tgt ls st σ Q) : zE X mt pc ls (vi a :: st) σ Q :=
  z_pure (fun lsR hI _ _ _ hL k => lv_tableIn hI.1 hI.2.1 hd (by rw [z32 ha.1 ha.2]; omega) (by rw [z32 ha.1 ha.2]; omega) (by rw [z32 ha.1 ha.2]; exact ho) hj (k lsR hL)) h
theorem e_tableOut {dflt lo hi : Int} {offs : Array Int} {len : Nat} {a : Int} (hd : decode mt.1.2 pc = .ok (.tableswitch dflt lo hi offs, len)) (ha : zr a) (h1 : a < lo ∨ hi < a) (hj : (pc : Int) + dflt = (tgt : Int)) (h : zE X mt tgt ls st σ Q) : zE X mt pc ls (vi a :: st) σ Q :=
  z_pure (fun lsR hI _ _ _ hL k => lv_tableOut hI.1 hI.2.1 hd (by rw [z32 ha.1 ha.2]; exact h1) hj (k lsR hL)) h
theorem e_lookup {dflt off : Int} {ps : Array (Int × Int)} {len : Nat} {a : Int} (hd : decode mt.1.2 pc = .ok (.lookupswitch dflt ps, len)) (ha : zr a) (hp : (ps.toList.zip (ps.toList.drop 1)).all (fun (a, next) => a.1 < next.1) = true) (ho : Op.lookupswitch.offset ps.toList dflt a = off) (hj : (pc : Int) + off = (tgt : Int)) (h : zE X mt tgt ls st σ Q) : zE X mt pc ls (vi a :: st) σ Q :=
  z_pure (fun lsR hI _ _ _ hL k => lv_lookup hI.1 hI.2.1 hd hp (by rw [z32 ha.1 ha.2]; exact ho) hj (k lsR hL)) h
end ZR
end
section
/-! ROWS THAT READ AND WRITE CELLS -/
def zIs (σ : zS) (a : Nat) (sp : Nat × Nat) : Prop := 3 ≤ a ∧ a < σ.1.1 ∧ σ.2.1 a = sp
def z_put (σ : zS) (a k : Nat) (v : Value) : zS := (σ.1, σ.2.1, fun b j => if b = a ∧ j = k then v else σ.2.2 b j)
def z_new (σ : zS) (sp : Nat × Nat) (sl : Nat) (f : Nat → Value) : zS := ((σ.1.1 + 1, σ.1.2 + sl), (fun b => if b = σ.1.1 then sp else σ.2.1 b), fun b => if b = σ.1.1 then f else σ.2.2 b)
def z_tyf (ci : Nat) : Nat → FieldType := if ci = 0 then tyX0 else if ci = 1 then tyX1 else if ci = 2 then tyX2 else if ci = 3 then tyX3 else if ci = 4 then tyX4 else if ci = 5 then tyX5 else if ci = 6 then tyX6 else if ci = 7 then tyX7 else if ci = 8 then tyX8 else if ci = 9 then tyX9 else if ci = 10 then tyX10 else if ci = 11 then tyX11 else tyX12
def z_df (ci : Nat) : Nat → Value := fun j => defaultValue (z_tyf ci j)
/-- what is known of a kind of object -/
def z_kd (ci N : Nat) (C : String) (T : u_T) : Prop := vwCl[ci]? = some (C, T, N) ∧ ci < 13 ∧ (∀ w ∈ u_ws C T N, w ∈ zTB) ∧ (∀ k, k < N → parseFieldDescriptor (T k).2.2.1 = some (z_tyf ci k)) ∧ (∀ a, a < N → ∀ b, b < N → a ≠ b → (T a).2.1 ≠ (T b).2.1)
/-- entry idx of own's pool names field k of kind ci -/
def z_fld (own : String) (idx ci k : Nat) (fin : Bool) (ty : FieldType) : Prop := ∃ (N : Nat) (C : String) (T : u_T), z_kd ci N C T ∧ k < N ∧ Cond.fieldLink own idx (T k).1 (T k).2.1 (T k).2.2.1 ∈ zTB ∧ (T k).2.2.2 = fin ∧ z_tyf ci k = ty ∧ (T k).1 = C
theorem z_ad3 {ω : zW} {a : Nat} (h : 3 ≤ a) : z_ad ω a = z_B ω + (a - 3) := by
  unfold z_ad
  rw [if_neg (by omega), if_neg (by omega), if_neg (by omega)]
theorem z_below {ω : zW} {a q : Nat} (h : 3 ≤ a) (hq : q < z_B ω) : q ≠ z_ad ω a := by
  rw [z_ad3 h]
  omega
theorem z_at_get {ω : zW} {σ : zS} {H : Heap} {a : Nat} {sp : Nat × Nat} (hH : z_H ω σ H) (ha : zIs σ a sp) : z_at ω (z_B ω + (a - 3)) sp (σ.2.2 a) H := by
  obtain ⟨h1, h2, rfl⟩ := ha
  exact hH.2.2 a h1 h2
theorem z_K2.kept {ω : zW} {X : zX} {U : State} {H H1 : Heap} (h : z_K2 ω X U H) (hq : ∀ q, q < z_B ω → H1[q]? = H[q]?) : z_K2 ω X U H1 := by
  obtain ⟨h1, h2, h3, h4⟩ := h
  exact ⟨h1.kept (fun a _ ha => hq a (by omega)), h2.kept (fun a _ ha => hq a (by omega)), h3.kept (hq _ h4), h4⟩
theorem z_at.kept {ω : zW} {q : Nat} {sp : Nat × Nat} {h : Nat → Value} {H H1 : Heap} (z : z_at ω q sp h H) (hq : H1[q]? = H[q]?) : z_at ω q sp h H1 := by
  refine ⟨fun hs => ?_, fun hs => ?_⟩
  · obtain ⟨r, h1, h2⟩ := z.1 hs
    exact ⟨r, h1, h2.kept hq⟩
  · obtain ⟨h1, h2, h3⟩ := z.2 hs
    exact ⟨h1, h2, hq.trans h3⟩
theorem z_H_put {ω : zW} {σ : zS} {H H1 : Heap} {a k : Nat} {v : Value} (hH : z_H ω σ H) (ha : 3 ≤ a) (han : a < σ.1.1) (hat : z_at ω (z_B ω + (a - 3)) (σ.2.1 a) (fun j => if j = k then v else σ.2.2 a j) H1) (hsz : H1.size = H.size) (hoff : ∀ q, q ≠ z_B ω + (a - 3) → H1[q]? = H[q]?) : z_H ω (z_put σ a k v) H1 := by
  refine ⟨hH.1, by rw [hsz]; exact hH.2.1, fun b hb hbn => ?_⟩
  by_cases hba : b = a
  · subst hba
    have e : (z_put σ b k v).2.2 b = (fun j => if j = k then v else σ.2.2 b j) := by
      funext j
      simp [z_put]
    rw [e]
    exact hat
  · have e : (z_put σ a k v).2.2 b = σ.2.2 b := by
      funext j
      simp [z_put, hba]
    rw [e]
    exact (hH.2.2 b hb hbn).kept (hoff _ (by omega))
theorem z_H_new {ω : zW} {σ : zS} {H H1 : Heap} {sp : Nat × Nat} {sl : Nat} {f : Nat → Value} (hH : z_H ω σ H) (hat : z_at ω H.size sp f H1) (hsz : H1.size = H.size + 1) (hoff : ∀ q, q < H.size → H1[q]? = H[q]?) : z_H ω (z_new σ sp sl f) H1 := by
  obtain ⟨h1, h2, h3⟩ := hH
  refine ⟨by show 3 ≤ σ.1.1 + 1; omega, by show _ = z_B ω + (σ.1.1 + 1); omega, fun b hb hbn => ?_⟩
  have hbn : b < σ.1.1 + 1 := hbn
  by_cases hba : b = σ.1.1
  · subst hba
    have e1 : (z_new σ sp sl f).2.2 σ.1.1 = f := by simp [z_new]
    have e2 : (z_new σ sp sl f).2.1 σ.1.1 = sp := by simp [z_new]
    rw [e1, e2, show z_B ω + (σ.1.1 - 3) = H.size by omega]
    exact hat
  · have e1 : (z_new σ sp sl f).2.2 b = σ.2.2 b := by simp [z_new, hba]
    have e2 : (z_new σ sp sl f).2.1 b = σ.2.1 b := by simp [z_new, hba]
    rw [e1, e2]
    exact (h3 b hb (by omega)).kept (hoff _ (by omega))
theorem z_narrow {ω : zW} {ty : FieldType} {v : Value} (h : narrow ty v = v) : narrow ty (z_e ω v) = z_e ω v := by
  cases v <;> first | exact h | (cases ty <;> rfl)
theorem z_fits {ω : zW} {ty : FieldType} {v : Value} (h : fits ty v = true) : fits ty (z_e ω v) = true := by
  cases v <;> first | exact h | (cases ty <;> first | exact h | (simp [fits] at h))
theorem z_nat {i : Int} (h0 : 0 ≤ i) (h1 : i ≤ 2147483647) : (Int32.ofInt i).toNatClampNeg = i.toNat := by
  show (Int32.ofInt i).toInt.toNat = i.toNat
  rw [z32 (by omega) h1]
theorem z_inn {i : Int} {len : Nat} (h0 : 0 ≤ i) (h1 : i < len) (hl : len ≤ 2147483647) : ¬ (Int32.ofInt i < 0 ∨ len ≤ (Int32.ofInt i).toNatClampNeg) := by
  rw [z_nat h0 (by omega)]
  rintro (h | h)
  · rw [show (0 : Int32) = Int32.ofInt 0 from rfl, zr_lt (by constructor <;> omega) (by constructor <;> omega)] at h
    omega
  · omega
theorem z_arrOf {ω : zW} {s : State} (hK : z_K1 ω s) {k : Nat} (h1 : 20 ≤ k) (h2 : k ≤ 26) : ArrOfT s (ω.2.1 k) (z_ty k) ∧ va_RA s (ω.2.1 k) (z_ty k) := by
  have h := hK.1.2 (k - 20) (ω.2.1 k, z_ty k) (by
    have hk : k = 20 ∨ k = 21 ∨ k = 22 ∨ k = 23 ∨ k = 24 ∨ k = 25 ∨ k = 26 := by omega
    rcases hk with rfl | rfl | rfl | rfl | rfl | rfl | rfl <;> rfl)
  exact h
theorem z_isref {k : Nat} (h1 : 23 ≤ k) (h2 : k ≤ 26) : (z_ty k).isReference = true := by
  have h : k = 23 ∨ k = 24 ∨ k = 25 ∨ k = 26 := by omega
  rcases h with rfl | rfl | rfl | rfl <;> rfl
section ZH
variable {X : zX} {mt : zM} {pc pc' tgt : Nat} {ls ls' st st' : List Value} {σ σ2 : zS} {Q : Option Value → zS → Prop}
/-- an instruction that changes cells -/
theorem z_step {dc ds : Nat} (hdc : σ2.1.1 = σ.1.1 + dc) (hds : σ2.1.2 = σ.1.2 + ds)
    (row : ∀ {ω : zW} {p : Program} {l : Launch} {e : Env} {R : Room} {s : State} {m : MethodId} {args : Array Value} {below : List Frame} {meth : Method} {c : Code} {H : Heap} {locs : List Loc} {cells slots : Nat} {Qf : State → Prop} (lsR : Array Slot),
      z_In mt p R s m args meth c → z_K1 ω s → z_K2 ω X s H → z_H ω σ H → (∀ q ∈ locs, z_B ω ≤ q.base) → cells + dc ≤ R.cells → slots + ds ≤ R.slots →
      (∀ (H2 : Heap) (locs2 : List Loc), z_K2 ω X s H2 → z_H ω σ2 H2 → (∀ q ∈ locs2, z_B ω ≤ q.base) → W p l e R s m args below meth c H2 locs2 (cells + dc) (slots + ds) Qf (F0 m pc' lsR (st'.map (z_e ω)))) →
      W p l e R s m args below meth c H locs cells slots Qf (F0 m pc lsR (st.map (z_e ω))))
    (h : zE X mt pc' ls st' σ2 Q) : zE X mt pc ls st σ Q := by
  obtain ⟨r, σ', hQ, h1, h2, h3⟩ := h
  refine ⟨r, σ', hQ, by omega, by omega, ?_⟩
  intro ω p l e R s m args below meth c H locs cells slots Qf lsR hI hK1 hK2 hH hL hlo hc hs k
  have e1 : cells + dc + (σ'.1.1 - σ2.1.1) = cells + (σ'.1.1 - σ.1.1) := by omega
  have e2 : slots + ds + (σ'.1.2 - σ2.1.2) = slots + (σ'.1.2 - σ.1.2) := by omega
  refine row lsR hI hK1 hK2 hH hlo (by omega) (by omega) (fun H2 locs2 hK2' hH2 hlo2 => ?_)
  refine h3 ω p l e R s m args below meth c H2 locs2 (cells + dc) (slots + ds) Qf lsR hI hK1 hK2' hH2 hL hlo2 (by omega) (by omega) ?_
  rw [e1, e2]
  exact k
theorem e_getf {ci k idx a : Nat} {fin : Bool} {ty : FieldType} {v : Value} (hd : zD mt.1.2 pc (.getfield idx) 3 pc') (hf : z_fld mt.1.1.cls idx ci k fin ty) (ha : zIs σ a (ci, 0)) (hv : σ.2.2 a k = v) (h : zE X mt pc' ls (v :: st) σ Q) : zE X mt pc ls (.ref a :: st) σ Q := by
  obtain ⟨hd, rfl⟩ := hd
  obtain ⟨N, C, T, ⟨hc, hci, hin, hty, hnm⟩, hk, hlink, -⟩ := hf
  refine z_pure (@fun ω p l e R s m args below meth c H locs cells slots Qf lsR hI hK1 hK2 hH hL kk => ?_) h
  obtain ⟨r, h1, cell, q1, q2, q3, q4⟩ := (z_at_get hH ha).1 hci
  have hr : r = (C, T, N) := Option.some.inj (h1.symm.trans hc)
  subst hr
  obtain ⟨hS, hfc, kC, hkC, hkind⟩ := hK1.1.1 ci _ hc
  obtain ⟨cf, kf, fi, f, hi, hsl⟩ := hS k hk
  refine W.getf (g := F0 m pc lsR (.ref (z_ad ω a) :: st.map (z_e ω))) hI.1 hI.2.1 hI.2.2.2.1 (hI.2.2.2.2.1 _ hlink) hi (u_facts hfc hkC (u_lays hI.2.2.2.2.1 hin hk) hi).1 (a := z_ad ω a) (cell := cell) (v := z_e ω v) (by rw [z_ad3 ha.1]; exact q1) (by rw [q3]; exact fun h => by cases h) ?_ rfl rfl hd (kk lsR hL)
  rw [hsl, q4 k hk]
  exact congrArg (fun w => some (z_e ω w)) hv
theorem e_putf {ci k idx a : Nat} {fin : Bool} {ty : FieldType} {v : Value} (hd : zD mt.1.2 pc (.putfield idx) 3 pc') (hf : z_fld mt.1.1.cls idx ci k fin ty) (hfin : fin = false ∨ (mt.1.1.name = "<init>" ∧ ∃ N T, vwCl[ci]? = some (mt.1.1.cls, T, N))) (ha : zIs σ a (ci, 0)) (hn : narrow ty v = v) (hfit : fits ty v = true) (h : zE X mt pc' ls st (z_put σ a k v) Q) : zE X mt pc ls (v :: .ref a :: st) σ Q := by
  obtain ⟨hd, rfl⟩ := hd
  obtain ⟨N, C, T, ⟨hc, hci, hin, hty, hnm⟩, hk, hlink, hfl, htk, hown⟩ := hf
  refine z_step (σ2 := z_put σ a k v) (dc := 0) (ds := 0) rfl rfl (@fun ω p l e R s m args below meth c H locs cells slots Qf lsR hI hK1 hK2 hH hlo _ _ kk => ?_) h
  have hts := hI.2.2.2.2.1
  have hap := va_apart (own := C) hts hin (z_tyf ci) hty hnm hK1.1 hc
  obtain ⟨r, h1, cell, q1, q2, q3, q4⟩ := (z_at_get hH ha).1 hci
  have hr : r = (C, T, N) := Option.some.inj (h1.symm.trans hc)
  subst hr
  obtain ⟨hS, hfc, kC, hkC, hkind⟩ := hK1.1.1 ci _ hc
  obtain ⟨cf, kf, fi, f, hi, hsl⟩ := hS k hk
  have hlay := hts _ (hin _ (u_in_lay hk))
  unfold u_lay at hlay
  have hst := (u_facts hfc hkC (u_lays hts hin hk) hi).1
  have hd9 : parseFieldDescriptor (T k).2.2.1 = some ty := by rw [hty k hk, htk]
  have fin1 : ∀ H' : Heap, H'[z_ad ω a]? = some (cell.setSlot f.slot (z_e ω v)) → H'.size = H.size → (∀ q, q ≠ z_ad ω a → H'[q]? = H[q]?) → W p l e R s m args below meth c H' (locs ++ [⟨z_ad ω a, f.slot⟩]) cells slots Qf (F0 m (pc + 3) lsR (st.map (z_e ω))) := by
    intro H' e1 e2 e3
    rw [z_ad3 ha.1] at e1 e3
    refine kk H' _ (hK2.kept (fun q hq => e3 q (by omega))) (z_H_put hH ha.1 ha.2.1 ?_ e2 e3) ?_
    · rw [ha.2.2]
      refine ⟨fun _ => ⟨_, hc, ?_⟩, fun h13 => absurd hci (Nat.not_lt.mpr h13)⟩
      rw [hsl] at e1
      refine t_OB.to (V := updV (fun j => z_e ω (σ.2.2 a j)) k (z_e ω v)) ⟨_, e1, q2, q3, t_set q4 hap hk (z_e ω v)⟩ (fun j _ => ?_)
      by_cases hj : j = k
      · simp [updV, hj]
      · simp [updV, hj]
    · intro q hq
      rcases List.mem_append.mp hq with h | h
      · exact hlo q h
      · rw [List.mem_singleton.mp h]
        show z_B ω ≤ z_ad ω a
        rw [z_ad3 ha.1]
        omega
  rcases hfin with hff | ⟨hnm0, N2, T2, hT2⟩
  · rw [hff] at hfl
    rw [if_neg (by rw [hfl]; decide)] at hlay
    have h6 := u_store hfc hkC hkind hlay hi hd9 (z_narrow (ω := ω) hn) (z_fits hfit)
    exact W.putK (g := F0 m pc lsR (z_e ω v :: .ref (z_ad ω a) :: st.map (z_e ω))) hI.1 hI.2.1 (f := f) ⟨hI.2.2.2.1, hts _ hlink, ⟨_, _, _, hi⟩, hst⟩ (by rw [q2]; exact h6) (by rw [z_ad3 ha.1]; exact q1) q3 (by rw [hsl]; exact k2_hasslot (q4 k hk)) rfl rfl hd fin1
  · by_cases hff : (T k).2.2.2 = true
    · rw [if_pos hff] at hlay
      have hCown : C = mt.1.1.cls := by
        have := Option.some.inj (hc.symm.trans hT2)
        exact congrArg Prod.fst this
      have hcf : m.cls = cf := by
        obtain ⟨_, _, c', _, _, _, -, -, hf', -, -, -, hown2, -⟩ := Cond.laysFinal_spec hlay
        have e1 : c' = cf := by have := hi.symm.trans hf'; simp at this; exact this.1.symm
        rw [hown, hCown] at hown2
        rw [← e1]; exact Option.some.inj (hI.2.2.2.1.symm.trans hown2)
      have h6 := u_fits hfc hkC hkind (Or.inr hlay) hi hd9 (z_narrow (ω := ω) hn) (z_fits hfit)
      exact W.putFinK (g := F0 m pc lsR (z_e ω v :: .ref (z_ad ω a) :: st.map (z_e ω))) hI.1 hI.2.1 hI.2.2.2.1 (hts _ hlink) hi hst hcf (hI.2.2.2.2.2.2.2 hnm0) (by rw [q2]; exact h6) (by rw [z_ad3 ha.1]; exact q1) q3 (by rw [hsl]; exact k2_hasslot (q4 k hk)) rfl rfl hd fin1
    · rw [if_neg hff] at hlay
      have h6 := u_store hfc hkC hkind hlay hi hd9 (z_narrow (ω := ω) hn) (z_fits hfit)
      exact W.putK (g := F0 m pc lsR (z_e ω v :: .ref (z_ad ω a) :: st.map (z_e ω))) hI.1 hI.2.1 (f := f) ⟨hI.2.2.2.1, hts _ hlink, ⟨_, _, _, hi⟩, hst⟩ (by rw [q2]; exact h6) (by rw [z_ad3 ha.1]; exact q1) q3 (by rw [hsl]; exact k2_hasslot (q4 k hk)) rfl rfl hd fin1
theorem z_row {ω : zW} {H : Heap} {a k len : Nat} (hH : z_H ω σ H) (ha : zIs σ a (k, len)) (hk : 20 ≤ k) : k ≤ 26 ∧ H[z_ad ω a]? = some (arrV (ω.2.1 k) len (fun j => z_e ω (σ.2.2 a j))) := by
  obtain ⟨-, h1, h2⟩ := (z_at_get hH ha).2 (show 13 ≤ k by omega)
  rw [z_ad3 ha.1]
  exact ⟨h1, h2⟩
theorem e_iald {a len : Nat} {i : Int} {v : Value} (hd : zD mt.1.2 pc .iaload 1 pc') (ha : zIs σ a (20, len)) (h0 : 0 ≤ i) (h1 : i < len) (hl : len ≤ 2147483647) (hv : σ.2.2 a i.toNat = v) (h : zE X mt pc' ls (v :: st) σ Q) : zE X mt pc ls (vi i :: .ref a :: st) σ Q := by
  obtain ⟨hd, rfl⟩ := hd
  refine z_pure (@fun ω p l e R s m args below meth c H locs cells slots Qf lsR hI hK1 hK2 hH hL kk => ?_) h
  obtain ⟨-, hr⟩ := z_row hH ha (by omega)
  refine W.iald (g := F0 m pc lsR (vi i :: .ref (z_ad ω a) :: st.map (z_e ω))) hI.1 hI.2.1 hr ((z_arrOf hK1 (k := 20) (by omega) (by omega)).1 len _) (fun q => by cases q) (by rw [arrV_size]; exact z_inn h0 h1 hl) (v := z_e ω v) ?_ rfl rfl hd (kk lsR hL)
  rw [z_nat h0 (by omega), arrV_read _ _ (by omega)]
  exact congrArg (fun w => some (z_e ω w)) hv
theorem e_zald {a len : Nat} {i : Int} {v : Value} (hd : zD mt.1.2 pc .baload 1 pc') (ha : zIs σ a (21, len)) (h0 : 0 ≤ i) (h1 : i < len) (hl : len ≤ 2147483647) (hv : σ.2.2 a i.toNat = v) (h : zE X mt pc' ls (v :: st) σ Q) : zE X mt pc ls (vi i :: .ref a :: st) σ Q := by
  obtain ⟨hd, rfl⟩ := hd
  refine z_pure (@fun ω p l e R s m args below meth c H locs cells slots Qf lsR hI hK1 hK2 hH hL kk => ?_) h
  obtain ⟨-, hr⟩ := z_row hH ha (by omega)
  refine W.zald (g := F0 m pc lsR (vi i :: .ref (z_ad ω a) :: st.map (z_e ω))) hI.1 hI.2.1 hr ((z_arrOf hK1 (k := 21) (by omega) (by omega)).1 len _) (fun q => by cases q) (by rw [arrV_size]; exact z_inn h0 h1 hl) (v := z_e ω v) ?_ rfl rfl hd (kk lsR hL)
  rw [z_nat h0 (by omega), arrV_read _ _ (by omega)]
  exact congrArg (fun w => some (z_e ω w)) hv
theorem e_bald {a len : Nat} {i : Int} {v : Value} (hd : zD mt.1.2 pc .baload 1 pc') (ha : zIs σ a (22, len)) (h0 : 0 ≤ i) (h1 : i < len) (hl : len ≤ 2147483647) (hv : σ.2.2 a i.toNat = v) (h : zE X mt pc' ls (v :: st) σ Q) : zE X mt pc ls (vi i :: .ref a :: st) σ Q := by
  obtain ⟨hd, rfl⟩ := hd
  refine z_pure (@fun ω p l e R s m args below meth c H locs cells slots Qf lsR hI hK1 hK2 hH hL kk => ?_) h
  obtain ⟨-, hr⟩ := z_row hH ha (by omega)
  refine W.bald (g := F0 m pc lsR (vi i :: .ref (z_ad ω a) :: st.map (z_e ω))) hI.1 hI.2.1 hr ((z_arrOf hK1 (k := 22) (by omega) (by omega)).1 len _) (fun q => by cases q) (by rw [arrV_size]; exact z_inn h0 h1 hl) (v := z_e ω v) ?_ rfl rfl hd (kk lsR hL)
  rw [z_nat h0 (by omega), arrV_read _ _ (by omega)]
  exact congrArg (fun w => some (z_e ω w)) hv
theorem e_aald {a k len : Nat} {i : Int} {v : Value} (hd : zD mt.1.2 pc .aaload 1 pc') (ha : zIs σ a (k, len)) (hk : 23 ≤ k) (h0 : 0 ≤ i) (h1 : i < len) (hl : len ≤ 2147483647) (hv : σ.2.2 a i.toNat = v) (h : zE X mt pc' ls (v :: st) σ Q) : zE X mt pc ls (vi i :: .ref a :: st) σ Q := by
  obtain ⟨hd, rfl⟩ := hd
  refine z_pure (@fun ω p l e R s m args below meth c H locs cells slots Qf lsR hI hK1 hK2 hH hL kk => ?_) h
  obtain ⟨hk2, hr⟩ := z_row hH ha (by omega)
  refine W.aald (g := F0 m pc lsR (vi i :: .ref (z_ad ω a) :: st.map (z_e ω))) hI.1 hI.2.1 hr ((z_arrOf hK1 (k := k) (by omega) (by omega)).1 len _) (z_isref (by omega) hk2) (fun q => by cases q) (by rw [arrV_size]; exact z_inn h0 h1 hl) (v := z_e ω v) ?_ rfl rfl hd (kk lsR hL)
  rw [z_nat h0 (by omega), arrV_read _ _ (by omega)]
  exact congrArg (fun w => some (z_e ω w)) hv
theorem e_alen {a k len : Nat} (hd : zD mt.1.2 pc .arraylength 1 pc') (ha : zIs σ a (k, len)) (hk : 20 ≤ k) (h : zE X mt pc' ls (vi len :: st) σ Q) : zE X mt pc ls (.ref a :: st) σ Q := by
  obtain ⟨hd, rfl⟩ := hd
  refine z_pure (@fun ω p l e R s m args below meth c H locs cells slots Qf lsR hI hK1 hK2 hH hL kk => ?_) h
  obtain ⟨hk2, hr⟩ := z_row hH ha (by omega)
  exact W.alen (g := F0 m pc lsR (.ref (z_ad ω a) :: st.map (z_e ω))) hI.1 hI.2.1 hr ((z_arrOf hK1 (k := k) (by omega) (by omega)).1 len _) (by rw [arrV_size]; rfl) rfl rfl hd (kk lsR hL)
/-- behind a store into a row -/
theorem z_stored {ω : zW} {H H' : Heap} {a k len j : Nat} {v : Value} (hH : z_H ω σ H) (ha : zIs σ a (k, len)) (hk : 20 ≤ k) (e1 : H'[z_ad ω a]? = some ((arrV (ω.2.1 k) len (fun j => z_e ω (σ.2.2 a j))).setSlot j (z_e ω v))) (e2 : H'.size = H.size) (e3 : ∀ q, q ≠ z_ad ω a → H'[q]? = H[q]?) : z_H ω (z_put σ a j v) H' := by
  obtain ⟨hk2, -⟩ := z_row hH ha hk
  rw [z_ad3 ha.1] at e1 e3
  refine z_H_put hH ha.1 ha.2.1 ?_ e2 e3
  rw [ha.2.2]
  refine ⟨fun h13 => absurd h13 (by show ¬ k < 13; omega), fun _ => ⟨hk, hk2, ?_⟩⟩
  rw [e1, arrV_store]
  congr 2
  funext q
  by_cases hq : q = j
  · simp [updV, hq]
  · simp [updV, hq]
theorem z_locs {ω : zW} {locs : List Loc} {a j : Nat} (hlo : ∀ q ∈ locs, z_B ω ≤ q.base) (ha : 3 ≤ a) : ∀ q ∈ locs ++ [⟨z_ad ω a, j⟩], z_B ω ≤ q.base := by
  intro q hq
  rcases List.mem_append.mp hq with h | h
  · exact hlo q h
  · rw [List.mem_singleton.mp h]
    show z_B ω ≤ z_ad ω a
    rw [z_ad3 ha]
    omega
theorem e_iast {a len : Nat} {i x : Int} (hd : zD mt.1.2 pc .iastore 1 pc') (ha : zIs σ a (20, len)) (h0 : 0 ≤ i) (h1 : i < len) (hl : len ≤ 2147483647) (h : zE X mt pc' ls st (z_put σ a i.toNat (vi x)) Q) : zE X mt pc ls (vi x :: vi i :: .ref a :: st) σ Q := by
  obtain ⟨hd, rfl⟩ := hd
  refine z_step (σ2 := z_put σ a i.toNat (vi x)) (dc := 0) (ds := 0) rfl rfl (@fun ω p l e R s m args below meth c H locs cells slots Qf lsR hI hK1 hK2 hH hlo _ _ kk => ?_) h
  obtain ⟨hk2, hr⟩ := z_row hH ha (by omega)
  refine W.iast (g := F0 m pc lsR (vi x :: vi i :: .ref (z_ad ω a) :: st.map (z_e ω))) hI.1 hI.2.1 hr ((z_arrOf hK1 (k := 20) (by omega) (by omega)).1 len _) (fun q => by cases q) (by rw [arrV_size]; exact z_inn h0 h1 hl) rfl rfl hd fun H' e1 e2 e3 => ?_
  rw [z_nat h0 (by omega)] at e1
  exact kk H' _ (hK2.kept (fun q hq => e3 q (z_below ha.1 hq))) (z_stored (v := vi x) hH ha (by omega) e1 e2 e3) (z_locs hlo ha.1)
theorem e_zast {a len : Nat} {i x : Int} (hd : zD mt.1.2 pc .bastore 1 pc') (ha : zIs σ a (21, len)) (h0 : 0 ≤ i) (h1 : i < len) (hl : len ≤ 2147483647) (hx : narrow .boolean (vi x) = vi x) (h : zE X mt pc' ls st (z_put σ a i.toNat (vi x)) Q) : zE X mt pc ls (vi x :: vi i :: .ref a :: st) σ Q := by
  obtain ⟨hd, rfl⟩ := hd
  refine z_step (σ2 := z_put σ a i.toNat (vi x)) (dc := 0) (ds := 0) rfl rfl (@fun ω p l e R s m args below meth c H locs cells slots Qf lsR hI hK1 hK2 hH hlo _ _ kk => ?_) h
  obtain ⟨hk2, hr⟩ := z_row hH ha (by omega)
  refine W.zast (g := F0 m pc lsR (vi x :: vi i :: .ref (z_ad ω a) :: st.map (z_e ω))) hI.1 hI.2.1 hr ((z_arrOf hK1 (k := 21) (by omega) (by omega)).1 len _) (fun q => by cases q) (by rw [arrV_size]; exact z_inn h0 h1 hl) rfl rfl hd fun H' e1 e2 e3 => ?_
  rw [z_nat h0 (by omega), hx] at e1
  exact kk H' _ (hK2.kept (fun q hq => e3 q (z_below ha.1 hq))) (z_stored (v := vi x) hH ha (by omega) e1 e2 e3) (z_locs hlo ha.1)
theorem e_bast {a len : Nat} {i x : Int} (hd : zD mt.1.2 pc .bastore 1 pc') (ha : zIs σ a (22, len)) (h0 : 0 ≤ i) (h1 : i < len) (hl : len ≤ 2147483647) (hx : narrow .byte (vi x) = vi x) (h : zE X mt pc' ls st (z_put σ a i.toNat (vi x)) Q) : zE X mt pc ls (vi x :: vi i :: .ref a :: st) σ Q := by
  obtain ⟨hd, rfl⟩ := hd
  refine z_step (σ2 := z_put σ a i.toNat (vi x)) (dc := 0) (ds := 0) rfl rfl (@fun ω p l e R s m args below meth c H locs cells slots Qf lsR hI hK1 hK2 hH hlo _ _ kk => ?_) h
  obtain ⟨hk2, hr⟩ := z_row hH ha (by omega)
  refine W.bast (g := F0 m pc lsR (vi x :: vi i :: .ref (z_ad ω a) :: st.map (z_e ω))) hI.1 hI.2.1 hr ((z_arrOf hK1 (k := 22) (by omega) (by omega)).1 len _) (fun q => by cases q) (by rw [arrV_size]; exact z_inn h0 h1 hl) rfl rfl hd fun H' e1 e2 e3 => ?_
  rw [z_nat h0 (by omega), hx] at e1
  exact kk H' _ (hK2.kept (fun q hq => e3 q (z_below ha.1 hq))) (z_stored (v := vi x) hH ha (by omega) e1 e2 e3) (z_locs hlo ha.1)
theorem e_aast {a b k ci N len : Nat} {C : String} {T : u_T} {i : Int} (hd : zD mt.1.2 pc .aastore 1 pc') (ha : zIs σ a (k, len)) (hk : 23 ≤ k) (hb : zIs σ b (ci, 0)) (hc : z_kd ci N C T) (hty : z_ty k = .object C) (h0 : 0 ≤ i) (h1 : i < len) (hl : len ≤ 2147483647) (h : zE X mt pc' ls st (z_put σ a i.toNat (.ref b)) Q) : zE X mt pc ls (.ref b :: vi i :: .ref a :: st) σ Q := by
  obtain ⟨hd, rfl⟩ := hd
  refine z_step (σ2 := z_put σ a i.toNat (.ref b)) (dc := 0) (ds := 0) rfl rfl (@fun ω p l e R s m args below meth c H locs cells slots Qf lsR hI hK1 hK2 hH hlo _ _ kk => ?_) h
  obtain ⟨hk2, hr⟩ := z_row hH ha (by omega)
  obtain ⟨r, hr', cellV, g1, g2, g3, -⟩ := (z_at_get hH hb).1 hc.2.1
  have hrr : r = (C, T, N) := Option.some.inj (hr'.symm.trans hc.1)
  subst hrr
  have hcls := (hK1.1.1 ci _ hc.1).2
  have hRA := (z_arrOf hK1 (k := k) (by omega) hk2).2
  rw [hty] at hRA
  obtain ⟨kA, comp, k1, k2, k3, -⟩ := hRA
  have hcomp : comp = ω.1.1 ci := Option.some.inj (k3.symm.trans hcls.1)
  subst hcomp
  obtain ⟨kC, hkC, -⟩ := hcls.2
  refine W.aast (g := F0 m pc lsR (.ref (z_ad ω b) :: vi i :: .ref (z_ad ω a) :: st.map (z_e ω))) hI.1 hI.2.1 hr (fun q h => by cases h) (fun h => by cases h) k1 k2 rfl hkC (by
    have := z_inn h0 h1 hl
    rw [arrV_size]
    exact ⟨fun q => this (Or.inl q), Nat.not_le.mp fun q => this (Or.inr q)⟩) (v := z_ad ω b) (by rw [z_ad3 hb.1]; exact g1) (fun q h => by rw [g3] at h; cases h) (by rw [g2]; exact hkC) (by rw [g2]; exact va_asg _ _) rfl rfl hd fun H' e1 e2 e3 => ?_
  rw [z_nat h0 (by omega)] at e1
  exact kk H' _ (hK2.kept (fun q hq => e3 q (z_below ha.1 hq))) (z_stored (v := .ref b) hH ha (by omega) e1 e2 e3) (z_locs hlo ha.1)
theorem z_push {ω : zW} {s : State} {H H1 : Heap} (hK2 : z_K2 ω X s H) (hH : z_H ω σ H) (o1 : ∀ q, q < H.size → H1[q]? = H[q]?) : z_K2 ω X s H1 := hK2.kept (fun q hq => o1 q (by have := hH.1; have := hH.2.1; omega))
theorem z_ref {ω : zW} {H : Heap} (hH : z_H ω σ H) : Value.ref H.size = z_e ω (.ref σ.1.1) := by
  show Value.ref H.size = .ref (z_ad ω σ.1.1)
  have h1 := hH.1
  have h2 := hH.2.1
  have e : H.size = z_B ω + (σ.1.1 - 3) := by omega
  rw [z_ad3 hH.1, ← e]
theorem e_new {ci N idx : Nat} {C : String} {T : u_T} (hd : zD mt.1.2 pc (.new idx) 3 pc') (hc : z_kd ci N C T) (hcl : Cond.classLink mt.1.1.cls idx C ∈ zTB) (hinst : Cond.instantiable C N ∈ zTB) (hini : Cond.initialized C ∈ zTB) (h : zE X mt pc' ls (.ref σ.1.1 :: st) (z_new σ (ci, 0) N (z_df ci)) Q) : zE X mt pc ls st σ Q := by
  obtain ⟨hd, rfl⟩ := hd
  refine z_step (σ2 := z_new σ (ci, 0) N (z_df ci)) (dc := 1) (ds := N) rfl rfl (@fun ω p l e R s m args below meth c H locs cells slots Qf lsR hI hK1 hK2 hH hlo hce hsl kk => ?_) h
  have hts := hI.2.2.2.2.1
  have hKn := hK1.1.1 ci _ hc.1
  refine W.newcK (g := F0 m pc lsR (st.map (z_e ω))) hI.1 hI.2.1 hI.2.2.2.1 (hts _ hcl) (hts _ hinst) (hts _ hini) rfl hd hce hsl hKn.2.1 rfl fun H1 kC hkC e1 z1 o1 => ?_
  have k := kk H1 locs (z_push hK2 hH o1) (z_H_new hH ⟨fun _ => ⟨_, hc.1, ?_⟩, fun h13 => absurd hc.2.1 (Nat.not_lt.mpr h13)⟩ z1 o1) hlo
  · rw [show (Value.ref σ.1.1 :: st).map (z_e ω) = Value.ref H.size :: st.map (z_e ω) by rw [List.map_cons, ← z_ref hH]] at k
    exact k
  · refine (u_born (z_tyf ci) hts hc.2.2.1 hKn hkC e1 hc.2.2.2.1).to (fun j _ => ?_)
    show defaultValue (z_tyf ci j) = z_e ω (defaultValue (z_tyf ci j))
    cases z_tyf ci j <;> rfl
theorem e_newa {k : Nat} {n : Int} {at0 : ArrayType} (hd : zD mt.1.2 pc (.newarray at0) 2 pc') (hty : newarray.typeOf at0 = z_ty k) (hk : 20 ≤ k ∧ k ≤ 22) (harr : Cond.arrayClass (newarray.typeOf at0) ∈ zTB) (h0 : 0 ≤ n) (h1 : n ≤ 65536) (h : zE X mt pc' ls (.ref σ.1.1 :: st) (z_new σ (k, n.toNat) n.toNat (fun _ => vi 0)) Q) : zE X mt pc ls (vi n :: st) σ Q := by
  obtain ⟨hd, rfl⟩ := hd
  refine z_step (σ2 := z_new σ (k, n.toNat) n.toNat (fun _ => vi 0)) (dc := 1) (ds := n.toNat) rfl rfl (@fun ω p l e R s m args below meth c H locs cells slots Qf lsR hI hK1 hK2 hH hlo hce hsl kk => ?_) h
  have hk3 : k = 20 ∨ k = 21 ∨ k = 22 := by omega
  have hcb : componentBytes (newarray.typeOf at0) ≤ 8 := by cases at0 <;> decide
  refine va_newaK (g := F0 m pc lsR (vi n :: st.map (z_e ω))) hI.1 hI.2.1 (hI.2.2.2.2.1 _ harr) rfl hd rfl (fun h => by
    rw [show (0 : Int32) = Int32.ofInt 0 from rfl, zr_lt (by constructor <;> omega) (by constructor <;> omega)] at h
    omega) (z_nat h0 (by omega)) (by
    have h2 : n.toNat ≤ 65536 := by omega
    calc n.toNat * componentBytes (newarray.typeOf at0) ≤ 65536 * 8 := Nat.mul_le_mul h2 hcb
      _ ≤ 536870912 := by decide) hce hsl rfl fun H1 cA e1 z1 o1 hAr hNm => ?_
  have hcA : cA = ω.2.1 k := by
    have hRA := (z_arrOf hK1 (k := k) (by omega) (by omega)).2
    rw [hty] at hNm
    rcases hk3 with rfl | rfl | rfl <;> exact Option.some.inj (hNm.symm.trans hRA)
  have hdv : defaultValue (newarray.typeOf at0) = vi 0 := by
    rw [hty]
    rcases hk3 with rfl | rfl | rfl <;> rfl
  rw [hdv, hcA] at e1
  have k9 := kk H1 locs (z_push hK2 hH o1) (z_H_new hH ⟨fun h13 => absurd h13 (by show ¬ k < 13; omega), fun _ => ⟨by show 20 ≤ k; omega, by show k ≤ 26; omega, e1⟩⟩ z1 o1) hlo
  rw [show (Value.ref σ.1.1 :: st).map (z_e ω) = Value.ref H.size :: st.map (z_e ω) by rw [List.map_cons, ← z_ref hH]] at k9
  exact k9
theorem e_anewa {k idx : Nat} {n : Int} {C : String} (hd : zD mt.1.2 pc (.anewarray idx) 3 pc') (hty : z_ty k = .object C) (hk : 23 ≤ k ∧ k ≤ 26) (hcl : Cond.classLink mt.1.1.cls idx C ∈ zTB) (hC : C ∈ zAO) (h0 : 0 ≤ n) (h1 : n ≤ 65536) (h : zE X mt pc' ls (.ref σ.1.1 :: st) (z_new σ (k, n.toNat) n.toNat (fun _ => .null)) Q) : zE X mt pc ls (vi n :: st) σ Q := by
  obtain ⟨hd, rfl⟩ := hd
  refine z_step (σ2 := z_new σ (k, n.toNat) n.toNat (fun _ => .null)) (dc := 1) (ds := n.toNat) rfl rfl (@fun ω p l e R s m args below meth c H locs cells slots Qf lsR hI hK1 hK2 hH hlo hce hsl kk => ?_) h
  have en : (Int32.ofInt n).toNatClampNeg = n.toNat := z_nat h0 (by omega)
  refine W.anew (g := F0 m pc lsR (vi n :: st.map (z_e ω))) hI.1 hI.2.1 hI.2.2.2.1 (hI.2.2.2.2.1 _ hcl) (va_AO.use (hK1.2.2.1 C hC)) rfl hd rfl (fun h => by
    rw [show (0 : Int32) = Int32.ofInt 0 from rfl, zr_lt (by constructor <;> omega) (by constructor <;> omega)] at h
    omega) (by rw [en]; omega) hce (by rw [en]; exact hsl) fun cA kA comp f1 f2 f3 f4 => ?_
  rw [en]
  generalize hH1 : H.push ({ cls := cA, slots := Array.replicate n.toNat .null, vm := .none } : Cell) = H1
  have z1 : H1.size = H.size + 1 := by rw [← hH1, Array.size_push]
  have e1 : H1[H.size]? = some (arrV cA n.toNat (fun _ => .null)) := by rw [← hH1, Array.getElem?_push_size, ← arrV_new]
  have o1 : ∀ q : Nat, q < H.size → H1[q]? = H[q]? := fun q hq => by rw [← hH1, Array.getElem?_push, if_neg (Nat.ne_of_lt hq)]
  have hRA := (z_arrOf hK1 (k := k) (by omega) (by omega)).2
  rw [hty] at hRA
  obtain ⟨kA2, comp2, -, -, -, g4⟩ := hRA
  have hcA : cA = ω.2.1 k := Option.some.inj (f1.symm.trans g4)
  rw [hcA] at e1
  have k9 := kk H1 locs (z_push hK2 hH o1) (z_H_new hH ⟨fun h13 => absurd h13 (by show ¬ k < 13; omega), fun _ => ⟨by show 20 ≤ k; omega, by show k ≤ 26; omega, e1⟩⟩ z1 o1) hlo
  rw [show (Value.ref σ.1.1 :: st).map (z_e ω) = Value.ref H.size :: st.map (z_e ω) by rw [List.map_cons, ← z_ref hH]] at k9
  exact k9
end ZH
end
section
/-! ENDS, CALLS, THE SCRIPT, THE LETTERS -/
section ZC1
variable {X : zX} {mt mz : zM} {pc pc' tgt : Nat} {ls ls' st st' rest As : List Value} {σ σ2 : zS} {Q : Option Value → zS → Prop}
theorem z_end0 {r : Option Value} (hr : z_Ret mt pc st r) (hq : Q r σ) : zE X mt pc ls st σ Q := by
  refine ⟨r, σ, hq, Nat.le_refl _, Nat.le_refl _, ?_⟩
  intro ω p l e R s m args below meth c H locs cells slots Qf lsR hI hK1 hK2 hH hL hlo hc hs k
  have h := k H locs pc lsR st hr hK2 hH hlo
  rw [Nat.sub_self, Nat.sub_self, Nat.add_zero, Nat.add_zero] at h
  exact h
theorem e_return (hd : zD mt.1.2 pc .return_ 1 pc') (hret : mt.2.2.1 = none) (hq : Q none σ) : zE X mt pc ls [] σ Q := z_end0 (Or.inl ⟨rfl, rfl, hret, hd.1⟩) hq
theorem e_ireturn {x : Int} {ty : FieldType} (hd : zD mt.1.2 pc .ireturn 1 pc') (hret : mt.2.2.1 = some ty) (hn : narrow ty (vi x) = vi x) (hq : Q (some (vi x)) σ) : zE X mt pc ls [vi x] σ Q := z_end0 (Or.inr (Or.inl ⟨_, ty, rfl, rfl, hret, hn, hd.1⟩)) hq
theorem e_areturn {v : Value} {rt : FieldType} (hd : zD mt.1.2 pc .areturn 1 pc') (hret : mt.2.2.1 = some rt) (hrt : (∃ n, rt = .object n) ∨ ∃ t, rt = .array t) (hv : v = .null ∨ ∃ a, v = .ref a) (hq : Q (some v) σ) : zE X mt pc ls [v] σ Q := z_end0 (Or.inr (Or.inr ⟨v, rt, rfl, rfl, hret, hrt, hv, hd.1⟩)) hq
/-! the script -/
theorem e_sld {i : Int} (hd : zD mt.1.2 pc .iaload 1 pc') (h0 : 0 ≤ i) (h1 : i < X.1) (hl : X.1 ≤ 2147483647) (h : zE X mt pc' ls (vi (X.2 i.toNat).toInt :: st) σ Q) : zE X mt pc ls (vi i :: .ref 0 :: st) σ Q := by
  obtain ⟨hd, rfl⟩ := hd
  refine z_pure (@fun ω p l e R s m args below meth c H locs cells slots Qf lsR hI hK1 hK2 hH hL kk => ?_) h
  obtain ⟨-, -, ⟨scr, g1, g2, g3, g4, g5⟩, -⟩ := hK2
  refine W.iald (g := F0 m pc lsR (vi i :: .ref (z_ad ω 0) :: st.map (z_e ω))) hI.1 hI.2.1 g1 g2 g3 (by rw [g4]; exact z_inn h0 h1 hl) (v := vi (X.2 i.toNat).toInt) ?_ rfl rfl hd (kk lsR hL)
  rw [z_nat h0 (by omega), g5 _ (by omega)]
  show some (Value.int _) = some (Value.int (Int32.ofInt (X.2 i.toNat).toInt))
  rw [z_of]
theorem e_slen (hd : zD mt.1.2 pc .arraylength 1 pc') (h : zE X mt pc' ls (vi X.1 :: st) σ Q) : zE X mt pc ls (.ref 0 :: st) σ Q := by
  obtain ⟨hd, rfl⟩ := hd
  refine z_pure (@fun ω p l e R s m args below meth c H locs cells slots Qf lsR hI hK1 hK2 hH hL kk => ?_) h
  obtain ⟨-, -, ⟨scr, g1, g2, g3, g4, g5⟩, -⟩ := hK2
  exact W.alen (g := F0 m pc lsR (.ref (z_ad ω 0) :: st.map (z_e ω))) hI.1 hI.2.1 g1 g2 (by rw [g4]; rfl) rfl rfl hd (kk lsR hL)
/-! the letters: a text of four bytes -/
theorem e_ldcS (hd : zD mt.1.2 pc (.ldc 33) 2 pc') (ho : mt.1.1.cls = "TenForOne$Tape") (h : zE X mt pc' ls (.ref 1 :: st) σ Q) : zE X mt pc ls st σ Q := by
  obtain ⟨hd, rfl⟩ := hd
  refine z_pure (@fun ω p l e R s m args below meth c H locs cells slots Qf lsR hI hK1 hK2 hH hL kk => ?_) h
  exact va_ldcS hI.1 hI.2.1 (own := "TenForOne$Tape") (by rw [← ho]; exact hI.2.2.2.1) hK1.2.2.2 hd (kk lsR hL)
theorem e_getSv {idx : Nat} (hd : zD mt.1.2 pc (.getfield idx) 3 pc') (hlink : Cond.fieldLink mt.1.1.cls idx "java/lang/String" "value" "[B" ∈ zTB) (h : zE X mt pc' ls (.ref 2 :: st) σ Q) : zE X mt pc ls (.ref 1 :: st) σ Q := by
  obtain ⟨hd, rfl⟩ := hd
  refine z_pure (@fun ω p l e R s m args below meth c H locs cells slots Qf lsR hI hK1 hK2 hH hL kk => ?_) h
  obtain ⟨cf, k, fi, f, cell, h1, h2, h3, h4, h5, h6⟩ := (hK2.2.1.1 0 (by decide)).2.2.1
  exact W.getf (g := F0 m pc lsR (.ref (z_ad ω 1) :: st.map (z_e ω))) hI.1 hI.2.1 hI.2.2.2.1 (hI.2.2.2.2.1 _ hlink) h1 h2 h3 h4 (v := .ref (z_ad ω 2)) h5 rfl rfl hd (kk lsR hL)
theorem e_getSc {idx : Nat} (hd : zD mt.1.2 pc (.getfield idx) 3 pc') (hlink : Cond.fieldLink mt.1.1.cls idx "java/lang/String" "coder" "B" ∈ zTB) (h : zE X mt pc' ls (vi 0 :: st) σ Q) : zE X mt pc ls (.ref 1 :: st) σ Q := by
  obtain ⟨hd, rfl⟩ := hd
  refine z_pure (@fun ω p l e R s m args below meth c H locs cells slots Qf lsR hI hK1 hK2 hH hL kk => ?_) h
  obtain ⟨cf, k, fi, f, cell, h1, h2, h3, h4, h5, h6⟩ := (hK2.2.1.1 0 (by decide)).2.1
  exact W.getf (g := F0 m pc lsR (.ref (z_ad ω 1) :: st.map (z_e ω))) hI.1 hI.2.1 hI.2.2.2.1 (hI.2.2.2.2.1 _ hlink) h1 h2 h3 h4 (v := vi 0) h5 rfl rfl hd (kk lsR hL)
theorem e_getsC {idx : Nat} (hd : zD mt.1.2 pc (.getstatic idx) 3 pc') (hlink : Cond.fieldLink mt.1.1.cls idx "java/lang/String" "COMPACT_STRINGS" "Z" ∈ zTB) (h : zE X mt pc' ls (vi 1 :: st) σ Q) : zE X mt pc ls st σ Q := by
  obtain ⟨hd, rfl⟩ := hd
  refine z_pure (@fun ω p l e R s m args below meth c H locs cells slots Qf lsR hI hK1 hK2 hH hL kk => ?_) h
  obtain ⟨cf, kf, fi, f, a, cell, h1, h2, h3, h4, h5, h6, h7, h8⟩ := hK2.1
  exact W.gets (g := F0 m pc lsR (st.map (z_e ω))) hI.1 hI.2.1 hI.2.2.2.1 (hI.2.2.2.2.1 _ hlink) h1 h2 h3 h4 h5 (fun h => by rw [h] at h6; cases h6) h7 rfl hd (kk lsR hL)
def z_let : List Int := [109, 99, 107, 115]
theorem e_baldS {i : Int} (hd : zD mt.1.2 pc .baload 1 pc') (h0 : 0 ≤ i) (h1 : i < 4) (h : zE X mt pc' ls (vi (z_let.getD i.toNat 0) :: st) σ Q) : zE X mt pc ls (vi i :: .ref 2 :: st) σ Q := by
  obtain ⟨hd, rfl⟩ := hd
  refine z_pure (@fun ω p l e R s m args below meth c H locs cells slots Qf lsR hI hK1 hK2 hH hL kk => ?_) h
  obtain ⟨cell, g1, g2, g3, g4, g5, g6, -⟩ := (hK2.2.1.1 0 (by decide)).2.2.2
  have g4 : 4 ≤ cell.slots.size := g4
  refine W.bald (g := F0 m pc lsR (vi i :: .ref (z_ad ω 2) :: st.map (z_e ω))) hI.1 hI.2.1 g1 g2 g3 ?_ (v := vi (z_let.getD i.toNat 0)) ?_ rfl rfl hd (kk lsR hL)
  · have := z_inn (len := 4) h0 h1 (by decide)
    rintro (q | q)
    · exact this (Or.inl q)
    · exact this (Or.inr (Nat.le_trans g4 q))
  · rw [z_nat h0 (by omega), g6 _ (by show i.toNat < 4; omega)]
    have hi : i.toNat = 0 ∨ i.toNat = 1 ∨ i.toNat = 2 ∨ i.toNat = 3 := by omega
    rcases hi with e | e | e | e <;> rw [e] <;> rfl
theorem e_alenS (hd : zD mt.1.2 pc .arraylength 1 pc') (h : zE X mt pc' ls (vi 4 :: st) σ Q) : zE X mt pc ls (.ref 2 :: st) σ Q := by
  obtain ⟨hd, rfl⟩ := hd
  refine z_pure (@fun ω p l e R s m args below meth c H locs cells slots Qf lsR hI hK1 hK2 hH hL kk => ?_) h
  obtain ⟨cell, g1, g2, g3, g4, g5, g6, -⟩ := (hK2.2.1.1 0 (by decide)).2.2.2
  exact W.alen (g := F0 m pc lsR (.ref (z_ad ω 2) :: st.map (z_e ω))) hI.1 hI.2.1 g1 g2 (n := Int32.ofInt 4) g5 rfl rfl hd (kk lsR hL)
/-! the beginning of Object -/
theorem e_objInit {a : Nat} {idx : Nat} (hd : zD mt.1.2 pc (.invokespecial idx) 3 pc') (hlink : Cond.methodLink mt.1.1.cls idx Lib.objectInit ∈ zTB) (hinst : Cond.instanceMethod Lib.objectInit ∈ zTB) (hcode : Cond.code Lib.objectInit ⟨#[0xb1]⟩ 1 none ∈ zTB) (hfr : 1 ≤ mt.2.2.2.1) (hlo : 12 ≤ mt.2.2.2.2) (h : zE X mt pc' ls [] σ Q) : zE X mt pc ls [.ref a] σ Q := by
  obtain ⟨hd, rfl⟩ := hd
  refine z_pure (@fun ω p l e R s m args below meth c H locs cells slots Qf lsR hI hK1 hK2 hH hL kk => ?_) h
  exact W.objInit (g := F0 m pc lsR [.ref (z_ad ω a)]) hI.1 hI.2.1 hI.2.2.2.1 (hI.2.2.2.2.1 _ hlink) (hI.2.2.2.2.1 _ hinst) (hI.2.2.2.2.1 _ hcode) rfl (by rw [hI.2.2.1]; exact hL.1) rfl hd (Nat.le_trans hfr hI.2.2.2.2.2.1) (Nat.le_trans hlo hI.2.2.2.2.2.2.1) (kk lsR hL)
end ZC1
/-! a method's beginning -/
def z_sl (v : Value) : List Value := match v with
  | .long x => [.long x, zU]
  | v => [v]
def z_pad : Nat → List Value → List Value
  | 0, l => l
  | n + 1, [] => zU :: z_pad n []
  | n + 1, v :: l => v :: z_pad n l
def z_ent (nL : Nat) (As : List Value) : List Value := z_pad nL (As.flatMap z_sl)
def z_okA (v : Value) : Bool := match v with
  | .int _ => true
  | .long _ => true
  | .ref _ => true
  | .null => true
  | _ => false
theorem z_nth_pad : ∀ (n : Nat) (l : List Value) (i : Nat), z_nth (z_pad n l) i = z_nth l i
  | 0, _, _ => rfl
  | n + 1, [], 0 => rfl
  | n + 1, [], i + 1 => by
    show z_nth (z_pad n []) i = zU
    rw [z_nth_pad n [] i]
    rfl
  | n + 1, _ :: _, 0 => rfl
  | n + 1, _ :: l, i + 1 => z_nth_pad n l i
theorem z_ent_args (ω : zW) : ∀ (As : List Value) (j i : Nat), (∀ v ∈ As, z_okA v = true) → z_isU (z_nth (As.flatMap z_sl) i) = false → (i + j, z_e ω (z_nth (As.flatMap z_sl) i)) ∈ lv_args j (As.map (z_e ω))
  | [], _, i, _, h => by cases h
  | v :: As, j, i, hok, h => by
    have hv := hok v List.mem_cons_self
    have hok' : ∀ w ∈ As, z_okA w = true := fun w hw => hok w (List.mem_cons_of_mem _ hw)
    rw [List.flatMap_cons] at h ⊢
    rw [List.map_cons]
    cases v with
    | long x =>
      match i, h with
      | 0, h => simp [z_sl, z_nth, lv_args]
      | 1, h => cases h
      | i + 2, h =>
        have := z_ent_args ω As (j + 2) i hok' h
        refine List.mem_cons_of_mem _ ?_
        rw [show i + 2 + j = i + (j + 2) by omega]
        exact this
    | float x => cases hv
    | double x => cases hv
    | int x =>
      match i, h with
      | 0, h => simp [z_sl, z_nth, lv_args]
      | i + 1, h =>
        have := z_ent_args ω As (j + 1) i hok' h
        refine List.mem_cons_of_mem _ ?_
        rw [show i + 1 + j = i + (j + 1) by omega]
        exact this
    | ref x =>
      match i, h with
      | 0, h => simp [z_sl, z_nth, lv_args]
      | i + 1, h =>
        have := z_ent_args ω As (j + 1) i hok' h
        refine List.mem_cons_of_mem _ ?_
        rw [show i + 1 + j = i + (j + 1) by omega]
        exact this
    | null =>
      match i, h with
      | 0, h => simp [z_sl, z_nth, lv_args]
      | i + 1, h =>
        have := z_ent_args ω As (j + 1) i hok' h
        refine List.mem_cons_of_mem _ ?_
        rw [show i + 1 + j = i + (j + 1) by omega]
        exact this
    | retAddr x => cases hv
theorem z_ent_L {ω : zW} {nL : Nat} {As : List Value} {lsR : Array Slot} (hok : ∀ v ∈ As, z_okA v = true) (h : lv_has lsR nL (lv_args 0 (As.map (z_e ω)))) : z_L ω nL (z_ent nL As) lsR := by
  refine ⟨h.1, h.2.1, fun q hq => h.2.2 q ?_⟩
  obtain ⟨h1, h2, h3⟩ := z_al_mem.mp hq
  unfold z_ent at h2 h3
  rw [z_nth_pad] at h2 h3
  have := z_ent_args ω As 0 q.1 hok h2
  rw [← h3] at this
  exact this

/-! contracts of methods, out of their runs -/
theorem z_K1.warm {ω : zW} {s U : State} (hW : s.WarmedH U.vm) (h : z_K1 ω s) : z_K1 ω U := by
  obtain ⟨h1, h2, h3, h4⟩ := h
  refine ⟨va_K.moved hW.alike h1, fun w hw => ?_, fun C hC => va_AO.moved hW.alike (h3 C hC), h4.warm hW⟩
  have hw2 := (List.mem_filter.mp hw).2
  have hz := h2 w hw
  cases w <;> first | (exact va_Nw.warmM hW hz) | (cases hw2)
theorem z_K1.same {ω : zW} {s U : State} (hv : U.vm = s.vm) (h : z_K1 ω s) : z_K1 ω U := by
  obtain ⟨h1, h2, h3, h4⟩ := h
  have ha : s.vm.Alike U.vm := by rw [hv]; exact Vm.Alike.refl _
  refine ⟨va_K.moved ha h1, fun w hw => ?_, fun C hC => va_AO.moved ha (h3 C hC), h4.same hv⟩
  have hw2 := (List.mem_filter.mp hw).2
  have hz := h2 w hw
  cases w <;> first | (exact va_Nw.same rfl hv.symm hz) | (cases hw2)
theorem z_K2.moved {ω : zW} {X : zX} {u U : State} {H : Heap} (hvm : u.vm.Alike U.vm) (h : z_K2 ω X u H) : z_K2 ω X U H := ⟨h.1.moved hvm, h.2.1.moved hvm, h.2.2.1.moved hvm, h.2.2.2⟩
def z_Pc (ω : zW) (X : zX) (As : List Value) (σ : zS) : Array Value → State → Prop := fun a U => a = (As.map (z_e ω)).toArray ∧ z_K1 ω U ∧ z_K2 ω X U U.heap ∧ z_H ω σ U.heap
def z_Qc (ω : zW) (X : zX) (r : Option Value) (σ' : zS) : Array Value → State → Outcome → State → Prop := fun _ _ o t => o = .returned (r.map (z_e ω)) ∧ z_K2 ω X t t.heap ∧ z_H ω σ' t.heap
def z_ws (mt : zM) : List Cond := Cond.code mt.1.1 mt.1.2 mt.2.1 mt.2.2.1 :: zTB
def z_rm (mt : zM) (mc ms : Nat) : Room := { frames := mt.2.2.2.1, cells := mc, slots := ms, locals := mt.2.2.2.2 }
theorem z_blind {ω : zW} {X : zX} {As : List Value} {σ : zS} : FrameBlind (z_Pc ω X As σ) := by
  intro a U g mk h
  obtain ⟨h1, h2, h3, h4⟩ := h
  exact ⟨h1, z_K1.same (s := U) (U := U.calling g mk a) rfl h2, z_K2.moved (Vm.Alike.refl U.vm) h3, h4⟩
theorem z_lgl (ω : zW) : ∀ (As : List Value), (lg_sl (As.map (z_e ω))).length = (lg_sl As).length
  | [] => rfl
  | v :: t => by
    have ih := z_lgl ω t
    unfold lg_sl at ih ⊢
    rw [List.map_cons, List.flatMap_cons, List.flatMap_cons, List.length_append, List.length_append, ih, z_e_cat]
    by_cases hc : v.category = 2
    · rw [if_pos hc, if_pos hc]
      rfl
    · rw [if_neg hc, if_neg hc]
      rfl
theorem z_met {l : Launch} {X : zX} {mt : zM} {As : List Value} {σ σ' : zS} {r : Option Value} (ω : zW) (hy : plainName mt.1.1.cls = true) (hok : ∀ v ∈ As, z_okA v = true) (hlen : (lg_sl As).length ≤ mt.2.1) (h : z_Sem X mt 0 (z_ent mt.2.1 As) [] σ r σ') :
    Met l mt.1.1 (z_ws mt) (z_rm mt (σ'.1.1 - σ.1.1) (σ'.1.2 - σ.1.2)) (z_Pc ω X As σ) (z_Qc ω X r σ') (σ'.1.1 - σ.1.1) (σ'.1.2 - σ.1.2) (fun q => z_B ω ≤ q) := by
  refine Met.ofW (cc := mt.1.2) (maxL := mt.2.1) (ret := mt.2.2.1) hy rfl ?_
  intro p e s m args below meth c s₁ B hml hv
  obtain ⟨rfl, hK1, hK2, hH⟩ := hv
  have hx := B.exec
  have hb := B.bytes
  have hr := B.returns
  have hlocks := B.notSynchronized
  have hts : ∀ w ∈ z_ws mt, w.before (As.map (z_e ω)).toArray s = true := atoms_spec (ws := z_ws mt) B.pre
  have hown : s.vm.findClass mt.1.1.cls = some m.cls := findClass_of_methodNamed B.named
  have hnm : meth.name = mt.1.1.name := (name_of_methodNamed B.named B.method).1
  have hl2 : (lg_sl (As.map (z_e ω))).length ≤ mt.2.1 := by rw [z_lgl]; exact hlen
  have hl := lv_entry (As.map (z_e ω)) (n := mt.2.1) hl2
  rw [lg_entry_eq]
  generalize (lg_sl (As.map (z_e ω)) ++ List.replicate (mt.2.1 - (lg_sl (As.map (z_e ω))).length) Slot.unset).toArray = lsR at hl ⊢
  refine h.2.2 ω p l e (z_rm mt (σ'.1.1 - σ.1.1) (σ'.1.2 - σ.1.2)) s m _ below meth c s.heap [] 0 0 _ lsR ⟨hx, hb, hml, hown, fun w hw => hts w (List.mem_cons_of_mem _ hw), Nat.le_refl _, Nat.le_refl _, fun h => hnm.trans h⟩ hK1 hK2 hH (z_ent_L hok hl) (fun q hq => by cases hq) (by show 0 + _ ≤ (σ'.1.1 - σ.1.1); omega) (by show 0 + _ ≤ (σ'.1.2 - σ.1.2); omega) ?_
  intro H' locs' pc' lsR' st' hret hK2' hH' hlo'
  rw [Nat.zero_add, Nat.zero_add]
  have hq : ∀ (t : State), t.heap = H' → s.WarmedH t.vm → z_Qc ω X r σ' (As.map (z_e ω)).toArray s (.returned (r.map (z_e ω))) t := fun t ht hW => ⟨rfl, by rw [ht]; exact hK2'.moved hW.alike, by rw [ht]; exact hH'⟩
  rcases hret with ⟨rfl, rfl, h3, hd⟩ | ⟨x, ty, rfl, rfl, h3, h4, hd⟩ | ⟨v, rt, rfl, rfl, h3, h4, h5, hd⟩
  · exact W.vret hx hb (hr.trans h3) hq hlo' hd
  · exact W.zret hx hb (hr.trans h3) h4 hq hlo' hd
  · refine W.aret (v := z_e ω v) hx hb (hr.trans h3) h4 ?_ hq hlo' hd
    rcases h5 with rfl | ⟨a, rfl⟩
    · exact Or.inl rfl
    · exact Or.inr ⟨_, rfl⟩

/-- a method called with As -/
def zC (X : zX) (mz : zM) (As : List Value) (σ : zS) (Q : Option Value → zS → Prop) : Prop := zE X mz 0 (z_ent mz.2.1 As) [] σ Q
theorem zC.mono {X : zX} {mz : zM} {As : List Value} {σ : zS} {Q Q' : Option Value → zS → Prop} (h : zC X mz As σ Q) (hq : ∀ r σ', Q r σ' → Q' r σ') : zC X mz As σ Q' := zE.mono h hq
/-- what a call asks of its method, whoever calls -/
def z_okM (mz : zM) (n : Nat) : Prop := plainName mz.1.1.cls = true ∧ Cond.code mz.1.1 mz.1.2 mz.2.1 mz.2.2.1 ∈ zTB ∧ Cond.initialized mz.1.1.cls ∈ zTB ∧ (mz.1.1.cls ≠ "java/lang/invoke/MethodHandle" ∧ mz.1.1.cls ≠ "java/lang/invoke/VarHandle" ∧ (parseMethodDescriptor mz.1.1.desc).map (fun d => d.parameters.length) = some n)
section ZC2
variable {X : zX} {mt mz : zM} {pc pc' tgt : Nat} {ls ls' st st' rest As : List Value} {σ σ2 : zS} {Q : Option Value → zS → Prop}
theorem z_call (hok : ∀ v ∈ As, z_okA v = true) (hy : plainName mz.1.1.cls = true) (hlen : (lg_sl As).length ≤ mz.2.1)
    (hrun : ∀ {ω : zW} {p : Program} {l : Launch} {e : Env} {R : Room} {s : State} {m : MethodId} {args : Array Value} {below : List Frame} {meth : Method} {c : Code} {H : Heap} {locs : List Loc} {cells slots mc ms : Nat} {Qc : Array Value → State → Outcome → State → Prop} (lsR : Array Slot),
      z_In mt p R s m args meth c → z_K1 ω s → z_K2 ω X s H → z_H ω σ H → z_L ω mt.2.1 ls lsR → Met l mz.1.1 (z_ws mz) (z_rm mz mc ms) (z_Pc ω X As σ) Qc mc ms (fun q => z_B ω ≤ q) → cells + mc ≤ R.cells → slots + ms ≤ R.slots →
      va_Run p l e R s m args below meth c H locs cells slots mc ms (F0 m pc lsR (st.map (z_e ω))) (rest.map (z_e ω)) (Qc (As.map (z_e ω)).toArray) (fun q => z_B ω ≤ q))
    (h : zC X mz As σ (fun r σ1 => zE X mt (pc + 3) ls (r.toList ++ rest) σ1 Q)) : zE X mt pc ls st σ Q := by
  obtain ⟨r1, σ1, ⟨r, σ', hQ, h1, h2, h3⟩, hS⟩ := h
  have g1 := hS.1
  have g2 := hS.2.1
  refine ⟨r, σ', hQ, by omega, by omega, ?_⟩
  intro ω p l e R s m args below meth c H locs cells slots Qf lsR hI hK1 hK2 hH hL hlo hc hs k
  have M := z_met (l := l) ω hy hok hlen hS
  have run := hrun (ω := ω) (p := p) (e := e) (R := R) (s := s) (m := m) (args := args) (below := below) (meth := meth) (c := c) (H := H) (locs := locs) (cells := cells) (slots := slots) lsR hI hK1 hK2 hH hL M (by omega) (by omega)
  intro T hT Xs
  obtain ⟨v, st₀, t, T', L, h0, X', hL', e1, e2, ⟨hv, hK2t, hHt⟩, step⟩ := run T hT Xs
  have hv : v = r1.map (z_e ω) := Outcome.returned.inj hv
  have a1 : cells + (σ1.1.1 - σ.1.1) + (σ'.1.1 - σ1.1.1) = cells + (σ'.1.1 - σ.1.1) := by omega
  have a2 : slots + (σ1.1.2 - σ.1.2) + (σ'.1.2 - σ1.1.2) = slots + (σ'.1.2 - σ.1.2) := by omega
  have hal : t.vm.Alike s.vm := by rw [← e2]; exact X'.warmed.alike.symm
  obtain ⟨t2, b1, b2⟩ := h3 ω p l e R s m args below meth c T'.heap (locs ++ L) (cells + (σ1.1.1 - σ.1.1)) (slots + (σ1.1.2 - σ.1.2)) Qf lsR hI hK1 (by rw [e1]; exact hK2t.moved hal) (by rw [e1]; exact hHt) hL (fun q hq => by
    rcases List.mem_append.mp hq with h | h
    · exact hlo q h
    · exact hL' q h) (by omega) (by omega) (by rw [a1, a2]; exact k) T' rfl X'
  refine ⟨t2, step t2 ?_, b2⟩
  have es : v.toList ++ rest.map (z_e ω) = (r1.toList ++ rest).map (z_e ω) := by
    rw [hv]
    cases r1 <;> rfl
  rw [es]
  exact b1
theorem z_goodIn (hc : Cond.code mz.1.1 mz.1.2 mz.2.1 mz.2.2.1 ∈ zTB) : GoodIn zTB (z_ws mz) := by
  intro w hw
  rcases List.mem_cons.mp hw with rfl | h
  · exact ⟨hc, zTB_good hc⟩
  · exact ⟨h, zTB_good h⟩
theorem z_cats (ω : zW) : ∀ (l : List Value), ((l.map (z_e ω)).map fun v => v.category).sum = (l.map fun v => v.category).sum
  | [] => rfl
  | v :: t => by
    rw [List.map_cons, List.map_cons, List.map_cons, List.sum_cons, List.sum_cons, z_cats ω t, z_e_cat]
theorem z_callB {ω : zW} {p : Program} {R : Room} {s : State} {m : MethodId} {args : Array Value} {meth : Method} {c : Code} {mc ms n idx : Nat} (hI : z_In mt p R s m args meth c) (hok : z_okM mz n) (hlink : Cond.methodLink mt.1.1.cls idx mz.1.1 ∈ zTB) (hroom : mz.2.2.2.1 + 1 ≤ mt.2.2.2.1 ∧ 8 + (mz.2.1 + 11) + mz.2.2.2.2 ≤ mt.2.2.2.2) :
    CallB R s args mt.1.1.cls idx mz.1.1 mz.1.2 mz.2.1 mz.2.2.1 (z_ws mz) (z_rm mz mc ms) mc ms n := by
  obtain ⟨-, hc, hini, hd⟩ := hok
  have hts := hI.2.2.2.2.1
  exact callB_of n hts (z_goodIn hc) rfl rfl rfl (hts _ hini) (hts _ hlink) hd ⟨Nat.le_trans hroom.1 hI.2.2.2.2.2.1, Nat.le_trans hroom.2 hI.2.2.2.2.2.2.1⟩
theorem e_invS {idx n : Nat} (hd : zD mt.1.2 pc (.invokestatic idx) 3 pc') (hok : z_okM mz n) (hst0 : Cond.static mz.1.1 ∈ zTB) (hlink : Cond.methodLink mt.1.1.cls idx mz.1.1 ∈ zTB) (hroom : mz.2.2.2.1 + 1 ≤ mt.2.2.2.1 ∧ 8 + (mz.2.1 + 11) + mz.2.2.2.2 ≤ mt.2.2.2.2)
    (hn : As.length = n) (hA : ∀ v ∈ As, z_okA v = true) (hlen : (lg_sl As).length ≤ mz.2.1) (hrest : (rest.map fun v => v.category).sum ≤ 8) (hst : st = As.reverse ++ rest)
    (h : zC X mz As σ (fun r σ1 => zE X mt pc' ls (r.toList ++ rest) σ1 Q)) : zE X mt pc ls st σ Q := by
  obtain ⟨hd, rfl⟩ := hd
  refine z_call hA hok.1 hlen (@fun ω p l e R s m args below meth c H locs cells slots mc ms Qc lsR hI hK1 hK2 hH hL M hc hs => ?_) h
  have hts := hI.2.2.2.2.1
  refine va_runS (g := F0 m pc lsR (st.map (z_e ω))) (cc := mt.1.2) (nL := mt.2.1) (As := As.map (z_e ω)) (rest := rest.map (z_e ω)) ⟨hI.1, hI.2.1, hI.2.2.1, hI.2.2.2.1, hts⟩ M ⟨z_callB (ω := ω) hI hok hlink hroom, hts _ hst0⟩ ⟨z_blind, fun U hU hW => ⟨rfl, hK1.warm hW, by rw [hU]; exact hK2.moved hW.alike, by rw [hU]; exact hH⟩⟩ rfl (by rw [List.length_map]; exact hn) hL.1 ?_ (lv_room (by rw [z_cats]; exact hrest)) hd ⟨hc, hs⟩
  show st.map (z_e ω) = _
  rw [hst, List.map_append, List.map_reverse]
theorem e_invV {idx n b ci N : Nat} {C : String} {T : u_T} (hd : zD mt.1.2 pc (.invokevirtual idx) 3 pc') (hok : z_okM mz n) (hin : Cond.instanceMethod mz.1.1 ∈ zTB) (hsel : Cond.selects mz.1.1.cls mz.1.1 mz.1.1 ∈ zTB) (hlink : Cond.methodLink mt.1.1.cls idx mz.1.1 ∈ zTB) (hroom : mz.2.2.2.1 + 1 ≤ mt.2.2.2.1 ∧ 8 + (mz.2.1 + 11) + mz.2.2.2.2 ≤ mt.2.2.2.2)
    (hb : zIs σ b (ci, 0)) (hkd : z_kd ci N C T) (hC : mz.1.1.cls = C) (hn : As.length = n) (hA : ∀ v ∈ As, z_okA v = true) (hlen : (lg_sl (.ref b :: As)).length ≤ mz.2.1) (hrest : (rest.map fun v => v.category).sum ≤ 8) (hst : st = As.reverse ++ .ref b :: rest)
    (h : zC X mz (.ref b :: As) σ (fun r σ1 => zE X mt pc' ls (r.toList ++ rest) σ1 Q)) : zE X mt pc ls st σ Q := by
  obtain ⟨hd, rfl⟩ := hd
  refine z_call (fun v hv => by
    rcases List.mem_cons.mp hv with rfl | hv
    · rfl
    · exact hA v hv) hok.1 hlen (@fun ω p l e R s m args below meth c H locs cells slots mc ms Qc lsR hI hK1 hK2 hH hL M hc hs => ?_) h
  have hts := hI.2.2.2.2.1
  have hcell : ∃ cellB : Cell, H[z_ad ω b]? = some cellB ∧ cellB.vm.isStatics = false ∧ s.vm.findClass mz.1.1.cls = some cellB.cls := by
    obtain ⟨r, h1, cell, q1, q2, q3, q4⟩ := (z_at_get hH hb).1 hkd.2.1
    refine ⟨cell, by rw [z_ad3 hb.1]; exact q1, by rw [q3]; rfl, ?_⟩
    rw [q2, hC]
    exact (hK1.1.1 ci _ hkd.1).2.1
  refine va_runV (g := F0 m pc lsR (st.map (z_e ω))) (cc := mt.1.2) (nL := mt.2.1) (C := mz.1.1.cls) (b := z_ad ω b) (As := As.map (z_e ω)) (rest := rest.map (z_e ω)) ⟨hI.1, hI.2.1, hI.2.2.1, hI.2.2.2.1, hts⟩ M ⟨z_callB (ω := ω) hI hok hlink hroom, hts _ hin, hts _ hsel⟩ ⟨z_blind, hcell, fun U hU hW => ⟨rfl, hK1.warm hW, by rw [hU]; exact hK2.moved hW.alike, by rw [hU]; exact hH⟩⟩ rfl (by rw [List.length_map]; exact hn) hL.1 ?_ (lv_room (by rw [z_cats]; exact hrest)) hd ⟨hc, hs⟩
  show st.map (z_e ω) = _
  rw [hst, List.map_append, List.map_reverse]
  rfl
/-- a call on the text of the letters -/
theorem e_invVs {idx n : Nat} (hd : zD mt.1.2 pc (.invokevirtual idx) 3 pc') (hok : z_okM mz n) (hin : Cond.instanceMethod mz.1.1 ∈ zTB) (hsel : Cond.selects mz.1.1.cls mz.1.1 mz.1.1 ∈ zTB) (hlink : Cond.methodLink mt.1.1.cls idx mz.1.1 ∈ zTB) (hroom : mz.2.2.2.1 + 1 ≤ mt.2.2.2.1 ∧ 8 + (mz.2.1 + 11) + mz.2.2.2.2 ≤ mt.2.2.2.2)
    (hC : mz.1.1.cls = "java/lang/String") (hn : As.length = n) (hA : ∀ v ∈ As, z_okA v = true) (hlen : (lg_sl (.ref 1 :: As)).length ≤ mz.2.1) (hrest : (rest.map fun v => v.category).sum ≤ 8) (hst : st = As.reverse ++ .ref 1 :: rest)
    (h : zC X mz (.ref 1 :: As) σ (fun r σ1 => zE X mt pc' ls (r.toList ++ rest) σ1 Q)) : zE X mt pc ls st σ Q := by
  obtain ⟨hd, rfl⟩ := hd
  refine z_call (fun v hv => by
    rcases List.mem_cons.mp hv with rfl | hv
    · rfl
    · exact hA v hv) hok.1 hlen (@fun ω p l e R s m args below meth c H locs cells slots mc ms Qc lsR hI hK1 hK2 hH hL M hc hs => ?_) h
  have hts := hI.2.2.2.2.1
  have hcell : ∃ cellB : Cell, H[z_ad ω 1]? = some cellB ∧ cellB.vm.isStatics = false ∧ s.vm.findClass mz.1.1.cls = some cellB.cls := by
    obtain ⟨cell, q1, q2, q3, -⟩ := (hK2.2.1.1 0 (by decide)).1
    exact ⟨cell, q1, q2, by rw [hC]; exact q3⟩
  refine va_runV (g := F0 m pc lsR (st.map (z_e ω))) (cc := mt.1.2) (nL := mt.2.1) (C := mz.1.1.cls) (b := z_ad ω 1) (As := As.map (z_e ω)) (rest := rest.map (z_e ω)) ⟨hI.1, hI.2.1, hI.2.2.1, hI.2.2.2.1, hts⟩ M ⟨z_callB (ω := ω) hI hok hlink hroom, hts _ hin, hts _ hsel⟩ ⟨z_blind, hcell, fun U hU hW => ⟨rfl, hK1.warm hW, by rw [hU]; exact hK2.moved hW.alike, by rw [hU]; exact hH⟩⟩ rfl (by rw [List.length_map]; exact hn) hL.1 ?_ (lv_room (by rw [z_cats]; exact hrest)) hd ⟨hc, hs⟩
  show st.map (z_e ω) = _
  rw [hst, List.map_append, List.map_reverse]
  rfl
theorem e_invI {idx n b : Nat} (hd : zD mt.1.2 pc (.invokespecial idx) 3 pc') (hok : z_okM mz n) (hin : Cond.instanceMethod mz.1.1 ∈ zTB) (hnm : mz.1.1.name = "<init>") (hret : mz.2.2.1 = none) (hlink : Cond.methodLink mt.1.1.cls idx mz.1.1 ∈ zTB) (hroom : mz.2.2.2.1 + 1 ≤ mt.2.2.2.1 ∧ 8 + (mz.2.1 + 11) + mz.2.2.2.2 ≤ mt.2.2.2.2)
    (hn : As.length = n) (hA : ∀ v ∈ As, z_okA v = true) (hlen : (lg_sl (.ref b :: As)).length ≤ mz.2.1) (hrest : (rest.map fun v => v.category).sum ≤ 8) (hst : st = As.reverse ++ .ref b :: rest)
    (h : zC X mz (.ref b :: As) σ (fun r σ1 => zE X mt pc' ls (r.toList ++ rest) σ1 Q)) : zE X mt pc ls st σ Q := by
  obtain ⟨hd, rfl⟩ := hd
  refine z_call (fun v hv => by
    rcases List.mem_cons.mp hv with rfl | hv
    · rfl
    · exact hA v hv) hok.1 hlen (@fun ω p l e R s m args below meth c H locs cells slots mc ms Qc lsR hI hK1 hK2 hH hL M hc hs => ?_) h
  have hts := hI.2.2.2.2.1
  have hB := z_callB (ω := ω) (mc := mc) (ms := ms) hI hok hlink hroom
  rw [hret] at hB
  refine va_runI (g := F0 m pc lsR (st.map (z_e ω))) (cc := mt.1.2) (nL := mt.2.1) (b := z_ad ω b) (As := As.map (z_e ω)) (rest := rest.map (z_e ω)) ⟨hI.1, hI.2.1, hI.2.2.1, hI.2.2.2.1, hts⟩ M ⟨hB, hnm, hts _ hin⟩ ⟨z_blind, fun U hU hW => ⟨rfl, hK1.warm hW, by rw [hU]; exact hK2.moved hW.alike, by rw [hU]; exact hH⟩⟩ rfl (by rw [List.length_map]; exact hn) hL.1 ?_ (lv_room (by rw [z_cats]; exact hrest)) hd ⟨hc, hs⟩
  show st.map (z_e ω) = _
  rw [hst, List.map_append, List.map_reverse]
  rfl
theorem z_callN {ω : zW} {p : Program} {R : Room} {s : State} {m : MethodId} {args : Array Value} {meth : Method} {c : Code} {mc ms n idx : Nat} {host : String} (hI : z_In mt p R s m args meth c) (hK1 : z_K1 ω s) (hok : z_okM mz n) (hlink : Cond.methodLinkNest mt.1.1.cls idx mz.1.1 host ∈ zNW) (hroom : mz.2.2.2.1 + 1 ≤ mt.2.2.2.1 ∧ 8 + (mz.2.1 + 11) + mz.2.2.2.2 ≤ mt.2.2.2.2) :
    va_CN R s args mt.1.1.cls idx mz.1.1 host mz.1.2 mz.2.1 mz.2.2.1 (z_ws mz) (z_rm mz mc ms) mc ms n := by
  obtain ⟨-, hc, hini, hd⟩ := hok
  have hts := hI.2.2.2.2.1
  exact va_cnB n hts (z_goodIn hc) rfl rfl rfl (hK1.2.1 _ hlink) (hts _ hini) hd ⟨Nat.le_trans hroom.1 hI.2.2.2.2.2.1, Nat.le_trans hroom.2 hI.2.2.2.2.2.2.1⟩
theorem e_invIN {idx n b : Nat} {host : String} (hd : zD mt.1.2 pc (.invokespecial idx) 3 pc') (hok : z_okM mz n) (hin : Cond.instanceMethod mz.1.1 ∈ zTB) (hnm : mz.1.1.name = "<init>") (hret : mz.2.2.1 = none) (hlink : Cond.methodLinkNest mt.1.1.cls idx mz.1.1 host ∈ zNW) (hroom : mz.2.2.2.1 + 1 ≤ mt.2.2.2.1 ∧ 8 + (mz.2.1 + 11) + mz.2.2.2.2 ≤ mt.2.2.2.2)
    (hn : As.length = n) (hA : ∀ v ∈ As, z_okA v = true) (hlen : (lg_sl (.ref b :: As)).length ≤ mz.2.1) (hrest : (rest.map fun v => v.category).sum ≤ 8) (hst : st = As.reverse ++ .ref b :: rest)
    (h : zC X mz (.ref b :: As) σ (fun r σ1 => zE X mt pc' ls (r.toList ++ rest) σ1 Q)) : zE X mt pc ls st σ Q := by
  obtain ⟨hd, rfl⟩ := hd
  refine z_call (fun v hv => by
    rcases List.mem_cons.mp hv with rfl | hv
    · rfl
    · exact hA v hv) hok.1 hlen (@fun ω p l e R s m args below meth c H locs cells slots mc ms Qc lsR hI hK1 hK2 hH hL M hc hs => ?_) h
  have hts := hI.2.2.2.2.1
  have hB := z_callN (ω := ω) (mc := mc) (ms := ms) hI hK1 hok hlink hroom
  rw [hret] at hB
  refine va_runIN (g := F0 m pc lsR (st.map (z_e ω))) (cc := mt.1.2) (nL := mt.2.1) (b := z_ad ω b) (As := As.map (z_e ω)) (rest := rest.map (z_e ω)) ⟨hI.1, hI.2.1, hI.2.2.1, hI.2.2.2.1, hts⟩ M ⟨hB, hnm, hts _ hin⟩ ⟨z_blind, fun U hU hW => ⟨rfl, hK1.warm hW, by rw [hU]; exact hK2.moved hW.alike, by rw [hU]; exact hH⟩⟩ rfl (by rw [List.length_map]; exact hn) hL.1 ?_ (lv_room (by rw [z_cats]; exact hrest)) hd ⟨hc, hs⟩
  show st.map (z_e ω) = _
  rw [hst, List.map_append, List.map_reverse]
  rfl
theorem e_invSN {idx n : Nat} {host : String} (hd : zD mt.1.2 pc (.invokestatic idx) 3 pc') (hok : z_okM mz n) (hst0 : Cond.static mz.1.1 ∈ zTB) (hlink : Cond.methodLinkNest mt.1.1.cls idx mz.1.1 host ∈ zNW) (hroom : mz.2.2.2.1 + 1 ≤ mt.2.2.2.1 ∧ 8 + (mz.2.1 + 11) + mz.2.2.2.2 ≤ mt.2.2.2.2)
    (hn : As.length = n) (hA : ∀ v ∈ As, z_okA v = true) (hlen : (lg_sl As).length ≤ mz.2.1) (hrest : (rest.map fun v => v.category).sum ≤ 8) (hst : st = As.reverse ++ rest)
    (h : zC X mz As σ (fun r σ1 => zE X mt pc' ls (r.toList ++ rest) σ1 Q)) : zE X mt pc ls st σ Q := by
  obtain ⟨hd, rfl⟩ := hd
  refine z_call hA hok.1 hlen (@fun ω p l e R s m args below meth c H locs cells slots mc ms Qc lsR hI hK1 hK2 hH hL M hc hs => ?_) h
  have hts := hI.2.2.2.2.1
  refine va_runSN (g := F0 m pc lsR (st.map (z_e ω))) (cc := mt.1.2) (nL := mt.2.1) (As := As.map (z_e ω)) (rest := rest.map (z_e ω)) ⟨hI.1, hI.2.1, hI.2.2.1, hI.2.2.2.1, hts⟩ M ⟨z_callN (ω := ω) hI hK1 hok hlink hroom, hts _ hst0, trivial⟩ ⟨z_blind, fun U hU hW => ⟨rfl, hK1.warm hW, by rw [hU]; exact hK2.moved hW.alike, by rw [hU]; exact hH⟩⟩ rfl (by rw [List.length_map]; exact hn) hL.1 ?_ (lv_room (by rw [z_cats]; exact hrest)) hd ⟨hc, hs⟩
  show st.map (z_e ω) = _
  rw [hst, List.map_append, List.map_reverse]
end ZC2
end
section
/-! Math.max, min, abs of ints -/
section ZM
variable {X : zX} {mt : zM} {pc pc' : Nat} {ls ls' st st' : List Value} {σ : zS} {Q : Option Value → zS → Prop}
theorem z_pure2
    (row : ∀ {ω : zW} {p : Program} {l : Launch} {e : Env} {R : Room} {s : State} {m : MethodId} {args : Array Value} {below : List Frame} {meth : Method} {c : Code} {H : Heap} {locs : List Loc} {cells slots : Nat} {Qf : State → Prop} (lsR : Array Slot),
      z_In mt p R s m args meth c → z_L ω mt.2.1 ls lsR → cells ≤ R.cells → slots ≤ R.slots → W p l e R s m args below meth c H locs cells slots Qf (F0 m pc' lsR (st'.map (z_e ω))) → W p l e R s m args below meth c H locs cells slots Qf (F0 m pc lsR (st.map (z_e ω))))
    (h : zE X mt pc' ls st' σ Q) : zE X mt pc ls st σ Q := by
  obtain ⟨r, σ', hQ, h1, h2, h3⟩ := h
  refine ⟨r, σ', hQ, h1, h2, ?_⟩
  intro ω p l e R s m args below meth c H locs cells slots Qf lsR hI hK1 hK2 hH hL hlo hc hs k
  exact row lsR hI hL (by omega) (by omega) (h3 ω p l e R s m args below meth c H locs cells slots Qf lsR hI hK1 hK2 hH hL hlo hc hs k)
theorem e_max {idx : Nat} {a b : Int} (hd : zD mt.1.2 pc (.invokestatic idx) 3 pc') (hlink : Cond.methodLink mt.1.1.cls idx Lib.Math.max.name ∈ zTB) (hst : Cond.static Lib.Math.max.name ∈ zTB) (hini : Cond.initialized "java/lang/Math" ∈ zTB) (hco : Cond.code Lib.Math.max.name Lib.Math.max.code 2 (some .int) ∈ zTB)
    (hfr : 1 ≤ mt.2.2.2.1) (hlo : 21 ≤ mt.2.2.2.2) (hrest : (st.map fun v => v.category).sum ≤ 8) (ha : zr a) (hb : zr b) (h : zE X mt pc' ls (vi (max a b) :: st) σ Q) : zE X mt pc ls (vi b :: vi a :: st) σ Q := by
  obtain ⟨hd, rfl⟩ := hd
  refine z_pure2 (@fun ω p l e R s m args below meth c H locs cells slots Qf lsR hI hL hc hs k => ?_) h
  have hts := hI.2.2.2.2.1
  refine va_mmax hI.1 hI.2.1 (by rw [hI.2.2.1]; exact hL.1.symm) hI.2.2.2.1 (hts _ hlink) (hts _ hst) (hts _ hini) (hts _ hco) (Nat.le_trans hfr hI.2.2.2.2.2.1) (by have := hI.2.2.2.2.2.2.1; rw [z_cats]; omega) hc hs hd ?_
  have e : (if Int32.ofInt a < Int32.ofInt b then Int32.ofInt b else Int32.ofInt a) = Int32.ofInt (max a b) := by
    by_cases hab : a < b
    · rw [if_pos ((zr_lt ha hb).mpr hab), Int.max_eq_right (by omega)]
    · rw [if_neg (fun q => hab ((zr_lt ha hb).mp q)), Int.max_eq_left (by omega)]
  rw [e]
  exact k
theorem e_min {idx : Nat} {a b : Int} (hd : zD mt.1.2 pc (.invokestatic idx) 3 pc') (hlink : Cond.methodLink mt.1.1.cls idx Lib.Math.min.name ∈ zTB) (hst : Cond.static Lib.Math.min.name ∈ zTB) (hini : Cond.initialized "java/lang/Math" ∈ zTB) (hco : Cond.code Lib.Math.min.name Lib.Math.min.code 2 (some .int) ∈ zTB)
    (hfr : 1 ≤ mt.2.2.2.1) (hlo : 21 ≤ mt.2.2.2.2) (hrest : (st.map fun v => v.category).sum ≤ 8) (ha : zr a) (hb : zr b) (h : zE X mt pc' ls (vi (min a b) :: st) σ Q) : zE X mt pc ls (vi b :: vi a :: st) σ Q := by
  obtain ⟨hd, rfl⟩ := hd
  refine z_pure2 (@fun ω p l e R s m args below meth c H locs cells slots Qf lsR hI hL hc hs k => ?_) h
  have hts := hI.2.2.2.2.1
  refine va_mmin hI.1 hI.2.1 (by rw [hI.2.2.1]; exact hL.1.symm) hI.2.2.2.1 (hts _ hlink) (hts _ hst) (hts _ hini) (hts _ hco) (Nat.le_trans hfr hI.2.2.2.2.2.1) (by have := hI.2.2.2.2.2.2.1; rw [z_cats]; omega) hc hs hd ?_
  have e : (if Int32.ofInt b < Int32.ofInt a then Int32.ofInt b else Int32.ofInt a) = Int32.ofInt (min a b) := by
    by_cases hab : b < a
    · rw [if_pos ((zr_lt hb ha).mpr hab), Int.min_eq_right (by omega)]
    · rw [if_neg (fun q => hab ((zr_lt hb ha).mp q)), Int.min_eq_left (by omega)]
  rw [e]
  exact k
theorem e_abs {idx : Nat} {a : Int} (hd : zD mt.1.2 pc (.invokestatic idx) 3 pc') (hlink : Cond.methodLink mt.1.1.cls idx Lib.Math.abs.name ∈ zTB) (hst : Cond.static Lib.Math.abs.name ∈ zTB) (hini : Cond.initialized "java/lang/Math" ∈ zTB) (hco : Cond.code Lib.Math.abs.name Lib.Math.abs.code 1 (some .int) ∈ zTB)
    (hfr : 1 ≤ mt.2.2.2.1) (hlo : 21 ≤ mt.2.2.2.2) (hrest : (st.map fun v => v.category).sum ≤ 8) (ha : zr a) (h : zE X mt pc' ls (vi (if 0 ≤ a then a else -a) :: st) σ Q) : zE X mt pc ls (vi a :: st) σ Q := by
  obtain ⟨hd, rfl⟩ := hd
  refine z_pure2 (@fun ω p l e R s m args below meth c H locs cells slots Qf lsR hI hL hc hs k => ?_) h
  have hts := hI.2.2.2.2.1
  refine va_mabs hI.1 hI.2.1 (by rw [hI.2.2.1]; exact hL.1.symm) hI.2.2.2.1 (hts _ hlink) (hts _ hst) (hts _ hini) (hts _ hco) (Nat.le_trans hfr hI.2.2.2.2.2.1) (by have := hI.2.2.2.2.2.2.1; rw [z_cats]; omega) hc hs hd ?_
  have hz : zr 0 := by constructor <;> omega
  have e : (if 0 ≤ Int32.ofInt a then Int32.ofInt a else 0 - Int32.ofInt a) = Int32.ofInt (if 0 ≤ a then a else -a) := by
    by_cases hab : 0 ≤ a
    · rw [if_pos (show (0 : Int32) ≤ Int32.ofInt a from (zr_le hz ha).mpr hab), if_pos hab]
    · rw [if_neg (fun q : (0 : Int32) ≤ Int32.ofInt a => hab ((zr_le hz ha).mp q)), if_neg hab, show (0 : Int32) = Int32.ofInt 0 from rfl, ← Int32.ofInt_sub, Int.zero_sub]
  rw [e]
  exact k
end ZM
end
