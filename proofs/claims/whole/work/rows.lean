section
/-- a private method of a class that the tables say can be made, by its rows of tables_1 -/
def lw_okq (q : MethodName × Nat) : Prop := (q.1.cls ≠ "java/lang/invoke/MethodHandle" ∧ q.1.cls ≠ "java/lang/invoke/VarHandle") ∧ Cond.instantiable q.1.cls q.2 ∈ tables_1 ∧ Cond.privateMethod q.1 ∈ tables_1 ∧ Cond.instanceMethod q.1 ∈ tables_1
theorem lw_p0 : lw_okq (⟨"GreyByFriday$Paper", "readItem", "(LGreyByFriday$Town;)Z"⟩, 4) := ⟨⟨by decide +kernel, by decide +kernel⟩, List.mem_of_getElem? (i := 25) (by decide +kernel), List.mem_of_getElem? (i := 266) (by decide +kernel), List.mem_of_getElem? (i := 267) (by decide +kernel)⟩
theorem lw_p1 : lw_okq (⟨"GreyByFriday$Paper", "readLetter", "()I"⟩, 4) := ⟨⟨by decide +kernel, by decide +kernel⟩, List.mem_of_getElem? (i := 25) (by decide +kernel), List.mem_of_getElem? (i := 270) (by decide +kernel), List.mem_of_getElem? (i := 271) (by decide +kernel)⟩
theorem lw_p2 : lw_okq (⟨"GreyByFriday$Paper", "readNumber", "()I"⟩, 4) := ⟨⟨by decide +kernel, by decide +kernel⟩, List.mem_of_getElem? (i := 25) (by decide +kernel), List.mem_of_getElem? (i := 277) (by decide +kernel), List.mem_of_getElem? (i := 278) (by decide +kernel)⟩
theorem lw_p3 : lw_okq (⟨"GreyByFriday$Town", "takePerson", "([I)Z"⟩, 9) := ⟨⟨by decide +kernel, by decide +kernel⟩, List.mem_of_getElem? (i := 46) (by decide +kernel), List.mem_of_getElem? (i := 288) (by decide +kernel), List.mem_of_getElem? (i := 289) (by decide +kernel)⟩
theorem lw_p4 : lw_okq (⟨"GreyByFriday$Town", "takeDeed", "([I)Z"⟩, 9) := ⟨⟨by decide +kernel, by decide +kernel⟩, List.mem_of_getElem? (i := 46) (by decide +kernel), List.mem_of_getElem? (i := 298) (by decide +kernel), List.mem_of_getElem? (i := 299) (by decide +kernel)⟩
theorem lw_p5 : lw_okq (⟨"GreyByFriday$Town", "takeHabit", "([I)Z"⟩, 9) := ⟨⟨by decide +kernel, by decide +kernel⟩, List.mem_of_getElem? (i := 46) (by decide +kernel), List.mem_of_getElem? (i := 302) (by decide +kernel), List.mem_of_getElem? (i := 303) (by decide +kernel)⟩
theorem lw_p6 : lw_okq (⟨"GreyByFriday$Town", "takePrice", "([I)Z"⟩, 9) := ⟨⟨by decide +kernel, by decide +kernel⟩, List.mem_of_getElem? (i := 46) (by decide +kernel), List.mem_of_getElem? (i := 306) (by decide +kernel), List.mem_of_getElem? (i := 307) (by decide +kernel)⟩
theorem lw_p7 : lw_okq (⟨"GreyByFriday", "isPerson", "(I)Z"⟩, 10) := ⟨⟨by decide +kernel, by decide +kernel⟩, List.mem_of_getElem? (i := 17) (by decide +kernel), List.mem_of_getElem? (i := 368) (by decide +kernel), List.mem_of_getElem? (i := 369) (by decide +kernel)⟩
theorem lw_p8 : lw_okq (⟨"GreyByFriday", "isDeed", "(I)Z"⟩, 10) := ⟨⟨by decide +kernel, by decide +kernel⟩, List.mem_of_getElem? (i := 17) (by decide +kernel), List.mem_of_getElem? (i := 383) (by decide +kernel), List.mem_of_getElem? (i := 384) (by decide +kernel)⟩
theorem lw_p9 : lw_okq (⟨"GreyByFriday$Town", "mix", "([III)Z"⟩, 9) := ⟨⟨by decide +kernel, by decide +kernel⟩, List.mem_of_getElem? (i := 46) (by decide +kernel), List.mem_of_getElem? (i := 407) (by decide +kernel), List.mem_of_getElem? (i := 408) (by decide +kernel)⟩
theorem lw_p10 : lw_okq (⟨"GreyByFriday$Chooser", "search", "(LGreyByFriday$Town;IIIII)V"⟩, 6) := ⟨⟨by decide +kernel, by decide +kernel⟩, List.mem_of_getElem? (i := 144) (by decide +kernel), List.mem_of_getElem? (i := 524) (by decide +kernel), List.mem_of_getElem? (i := 525) (by decide +kernel)⟩
theorem lw_p11 : lw_okq (⟨"GreyByFriday$Chooser", "isBetter", "(II)Z"⟩, 6) := ⟨⟨by decide +kernel, by decide +kernel⟩, List.mem_of_getElem? (i := 144) (by decide +kernel), List.mem_of_getElem? (i := 528) (by decide +kernel), List.mem_of_getElem? (i := 529) (by decide +kernel)⟩
theorem lw_p12 : lw_okq (⟨"GreyByFriday$Chooser", "repeat", "(LGreyByFriday$Town;III)I"⟩, 6) := ⟨⟨by decide +kernel, by decide +kernel⟩, List.mem_of_getElem? (i := 144) (by decide +kernel), List.mem_of_getElem? (i := 532) (by decide +kernel), List.mem_of_getElem? (i := 533) (by decide +kernel)⟩
theorem lw_p13 : lw_okq (⟨"GreyByFriday", "needToday", "(II)I"⟩, 10) := ⟨⟨by decide +kernel, by decide +kernel⟩, List.mem_of_getElem? (i := 17) (by decide +kernel), List.mem_of_getElem? (i := 542) (by decide +kernel), List.mem_of_getElem? (i := 543) (by decide +kernel)⟩
theorem lw_p14 : lw_okq (⟨"GreyByFriday", "sumOf", "(II)I"⟩, 10) := ⟨⟨by decide +kernel, by decide +kernel⟩, List.mem_of_getElem? (i := 17) (by decide +kernel), List.mem_of_getElem? (i := 557) (by decide +kernel), List.mem_of_getElem? (i := 558) (by decide +kernel)⟩
theorem lw_p15 : lw_okq (⟨"GreyByFriday$Witness", "search", "(LGreyByFriday$Town;IIII)V"⟩, 8) := ⟨⟨by decide +kernel, by decide +kernel⟩, List.mem_of_getElem? (i := 171) (by decide +kernel), List.mem_of_getElem? (i := 589) (by decide +kernel), List.mem_of_getElem? (i := 590) (by decide +kernel)⟩
def lw_privs_1 : List (MethodName × Nat) := [(⟨"GreyByFriday$Paper", "readItem", "(LGreyByFriday$Town;)Z"⟩, 4), (⟨"GreyByFriday$Paper", "readLetter", "()I"⟩, 4), (⟨"GreyByFriday$Paper", "readNumber", "()I"⟩, 4), (⟨"GreyByFriday$Town", "takePerson", "([I)Z"⟩, 9), (⟨"GreyByFriday$Town", "takeDeed", "([I)Z"⟩, 9), (⟨"GreyByFriday$Town", "takeHabit", "([I)Z"⟩, 9), (⟨"GreyByFriday$Town", "takePrice", "([I)Z"⟩, 9), (⟨"GreyByFriday", "isPerson", "(I)Z"⟩, 10), (⟨"GreyByFriday", "isDeed", "(I)Z"⟩, 10), (⟨"GreyByFriday$Town", "mix", "([III)Z"⟩, 9), (⟨"GreyByFriday$Chooser", "search", "(LGreyByFriday$Town;IIIII)V"⟩, 6), (⟨"GreyByFriday$Chooser", "isBetter", "(II)Z"⟩, 6), (⟨"GreyByFriday$Chooser", "repeat", "(LGreyByFriday$Town;III)I"⟩, 6), (⟨"GreyByFriday", "needToday", "(II)I"⟩, 10), (⟨"GreyByFriday", "sumOf", "(II)I"⟩, 10), (⟨"GreyByFriday$Witness", "search", "(LGreyByFriday$Town;IIII)V"⟩, 8)]
theorem lw_r1 : ∀ q ∈ lw_privs_1, lw_okq q := List.forall_mem_cons.mpr ⟨lw_p0, List.forall_mem_cons.mpr ⟨lw_p1, List.forall_mem_cons.mpr ⟨lw_p2, List.forall_mem_cons.mpr ⟨lw_p3, List.forall_mem_cons.mpr ⟨lw_p4, List.forall_mem_cons.mpr ⟨lw_p5, List.forall_mem_cons.mpr ⟨lw_p6, List.forall_mem_cons.mpr ⟨lw_p7, List.forall_mem_cons.mpr ⟨lw_p8, List.forall_mem_cons.mpr ⟨lw_p9, List.forall_mem_cons.mpr ⟨lw_p10, List.forall_mem_cons.mpr ⟨lw_p11, List.forall_mem_cons.mpr ⟨lw_p12, List.forall_mem_cons.mpr ⟨lw_p13, List.forall_mem_cons.mpr ⟨lw_p14, List.forall_mem_cons.mpr ⟨lw_p15, fun _ h => absurd h List.not_mem_nil⟩⟩⟩⟩⟩⟩⟩⟩⟩⟩⟩⟩⟩⟩⟩⟩
theorem lw_p16 : lw_okq (⟨"GreyByFriday$Witness", "spendDay", "(LGreyByFriday$Town;IIII)Z"⟩, 8) := ⟨⟨by decide +kernel, by decide +kernel⟩, List.mem_of_getElem? (i := 171) (by decide +kernel), List.mem_of_getElem? (i := 593) (by decide +kernel), List.mem_of_getElem? (i := 594) (by decide +kernel)⟩
theorem lw_p17 : lw_okq (⟨"GreyByFriday$Witness", "agrees", "(III)Z"⟩, 8) := ⟨⟨by decide +kernel, by decide +kernel⟩, List.mem_of_getElem? (i := 171) (by decide +kernel), List.mem_of_getElem? (i := 601) (by decide +kernel), List.mem_of_getElem? (i := 602) (by decide +kernel)⟩
theorem lw_p18 : lw_okq (⟨"GreyByFriday", "timesInARow", "(III)I"⟩, 10) := ⟨⟨by decide +kernel, by decide +kernel⟩, List.mem_of_getElem? (i := 17) (by decide +kernel), List.mem_of_getElem? (i := 616) (by decide +kernel), List.mem_of_getElem? (i := 617) (by decide +kernel)⟩
theorem lw_p19 : lw_okq (⟨"GreyByFridayModel", "firstPerson", "(IIII)V"⟩, 23) := ⟨⟨by decide +kernel, by decide +kernel⟩, List.mem_of_getElem? (i := 673) (by decide +kernel), List.mem_of_getElem? (i := 679) (by decide +kernel), List.mem_of_getElem? (i := 680) (by decide +kernel)⟩
theorem lw_p20 : lw_okq (⟨"GreyByFridayModel", "firstDeed", "(IIII)V"⟩, 23) := ⟨⟨by decide +kernel, by decide +kernel⟩, List.mem_of_getElem? (i := 673) (by decide +kernel), List.mem_of_getElem? (i := 683) (by decide +kernel), List.mem_of_getElem? (i := 684) (by decide +kernel)⟩
theorem lw_p21 : lw_okq (⟨"GreyByFridayModel", "takeDraft", "()V"⟩, 23) := ⟨⟨by decide +kernel, by decide +kernel⟩, List.mem_of_getElem? (i := 673) (by decide +kernel), List.mem_of_getElem? (i := 687) (by decide +kernel), List.mem_of_getElem? (i := 688) (by decide +kernel)⟩
theorem lw_p22 : lw_okq (⟨"GreyByFridayModel", "readItem", "()V"⟩, 23) := ⟨⟨by decide +kernel, by decide +kernel⟩, List.mem_of_getElem? (i := 673) (by decide +kernel), List.mem_of_getElem? (i := 776) (by decide +kernel), List.mem_of_getElem? (i := 777) (by decide +kernel)⟩
theorem lw_p23 : lw_okq (⟨"GreyByFridayModel", "here", "()I"⟩, 23) := ⟨⟨by decide +kernel, by decide +kernel⟩, List.mem_of_getElem? (i := 673) (by decide +kernel), List.mem_of_getElem? (i := 780) (by decide +kernel), List.mem_of_getElem? (i := 781) (by decide +kernel)⟩
theorem lw_p24 : lw_okq (⟨"GreyByFridayModel", "number", "(III)I"⟩, 23) := ⟨⟨by decide +kernel, by decide +kernel⟩, List.mem_of_getElem? (i := 673) (by decide +kernel), List.mem_of_getElem? (i := 784) (by decide +kernel), List.mem_of_getElem? (i := 785) (by decide +kernel)⟩
theorem lw_p25 : lw_okq (⟨"GreyByFridayModel", "isPerson", "(I)Z"⟩, 23) := ⟨⟨by decide +kernel, by decide +kernel⟩, List.mem_of_getElem? (i := 673) (by decide +kernel), List.mem_of_getElem? (i := 797) (by decide +kernel), List.mem_of_getElem? (i := 798) (by decide +kernel)⟩
theorem lw_p26 : lw_okq (⟨"GreyByFridayModel", "hue", "(II)I"⟩, 23) := ⟨⟨by decide +kernel, by decide +kernel⟩, List.mem_of_getElem? (i := 673) (by decide +kernel), List.mem_of_getElem? (i := 801) (by decide +kernel), List.mem_of_getElem? (i := 802) (by decide +kernel)⟩
theorem lw_p27 : lw_okq (⟨"GreyByFridayModel", "isDeed", "(I)Z"⟩, 23) := ⟨⟨by decide +kernel, by decide +kernel⟩, List.mem_of_getElem? (i := 673) (by decide +kernel), List.mem_of_getElem? (i := 809) (by decide +kernel), List.mem_of_getElem? (i := 810) (by decide +kernel)⟩
theorem lw_p28 : lw_okq (⟨"GreyByFridayModel", "canDo", "(III)Z"⟩, 23) := ⟨⟨by decide +kernel, by decide +kernel⟩, List.mem_of_getElem? (i := 673) (by decide +kernel), List.mem_of_getElem? (i := 821) (by decide +kernel), List.mem_of_getElem? (i := 822) (by decide +kernel)⟩
theorem lw_p29 : lw_okq (⟨"GreyByFridayModel", "plainCost", "(II)V"⟩, 23) := ⟨⟨by decide +kernel, by decide +kernel⟩, List.mem_of_getElem? (i := 673) (by decide +kernel), List.mem_of_getElem? (i := 825) (by decide +kernel), List.mem_of_getElem? (i := 826) (by decide +kernel)⟩
theorem lw_p30 : lw_okq (⟨"GreyByFridayModel", "lacks", "(II)I"⟩, 23) := ⟨⟨by decide +kernel, by decide +kernel⟩, List.mem_of_getElem? (i := 673) (by decide +kernel), List.mem_of_getElem? (i := 829) (by decide +kernel), List.mem_of_getElem? (i := 830) (by decide +kernel)⟩
theorem lw_p31 : lw_okq (⟨"GreyByFridayModel", "know", "()V"⟩, 23) := ⟨⟨by decide +kernel, by decide +kernel⟩, List.mem_of_getElem? (i := 673) (by decide +kernel), List.mem_of_getElem? (i := 837) (by decide +kernel), List.mem_of_getElem? (i := 838) (by decide +kernel)⟩
def lw_privs_2 : List (MethodName × Nat) := [(⟨"GreyByFriday$Witness", "spendDay", "(LGreyByFriday$Town;IIII)Z"⟩, 8), (⟨"GreyByFriday$Witness", "agrees", "(III)Z"⟩, 8), (⟨"GreyByFriday", "timesInARow", "(III)I"⟩, 10), (⟨"GreyByFridayModel", "firstPerson", "(IIII)V"⟩, 23), (⟨"GreyByFridayModel", "firstDeed", "(IIII)V"⟩, 23), (⟨"GreyByFridayModel", "takeDraft", "()V"⟩, 23), (⟨"GreyByFridayModel", "readItem", "()V"⟩, 23), (⟨"GreyByFridayModel", "here", "()I"⟩, 23), (⟨"GreyByFridayModel", "number", "(III)I"⟩, 23), (⟨"GreyByFridayModel", "isPerson", "(I)Z"⟩, 23), (⟨"GreyByFridayModel", "hue", "(II)I"⟩, 23), (⟨"GreyByFridayModel", "isDeed", "(I)Z"⟩, 23), (⟨"GreyByFridayModel", "canDo", "(III)Z"⟩, 23), (⟨"GreyByFridayModel", "plainCost", "(II)V"⟩, 23), (⟨"GreyByFridayModel", "lacks", "(II)I"⟩, 23), (⟨"GreyByFridayModel", "know", "()V"⟩, 23)]
theorem lw_r2 : ∀ q ∈ lw_privs_2, lw_okq q := List.forall_mem_cons.mpr ⟨lw_p16, List.forall_mem_cons.mpr ⟨lw_p17, List.forall_mem_cons.mpr ⟨lw_p18, List.forall_mem_cons.mpr ⟨lw_p19, List.forall_mem_cons.mpr ⟨lw_p20, List.forall_mem_cons.mpr ⟨lw_p21, List.forall_mem_cons.mpr ⟨lw_p22, List.forall_mem_cons.mpr ⟨lw_p23, List.forall_mem_cons.mpr ⟨lw_p24, List.forall_mem_cons.mpr ⟨lw_p25, List.forall_mem_cons.mpr ⟨lw_p26, List.forall_mem_cons.mpr ⟨lw_p27, List.forall_mem_cons.mpr ⟨lw_p28, List.forall_mem_cons.mpr ⟨lw_p29, List.forall_mem_cons.mpr ⟨lw_p30, List.forall_mem_cons.mpr ⟨lw_p31, fun _ h => absurd h List.not_mem_nil⟩⟩⟩⟩⟩⟩⟩⟩⟩⟩⟩⟩⟩⟩⟩⟩
theorem lw_p32 : lw_okq (⟨"GreyByFridayModel", "copy", "(II)V"⟩, 23) := ⟨⟨by decide +kernel, by decide +kernel⟩, List.mem_of_getElem? (i := 673) (by decide +kernel), List.mem_of_getElem? (i := 841) (by decide +kernel), List.mem_of_getElem? (i := 842) (by decide +kernel)⟩
theorem lw_p33 : lw_okq (⟨"GreyByFridayModel", "toldDeeds", "(I)V"⟩, 23) := ⟨⟨by decide +kernel, by decide +kernel⟩, List.mem_of_getElem? (i := 673) (by decide +kernel), List.mem_of_getElem? (i := 845) (by decide +kernel), List.mem_of_getElem? (i := 846) (by decide +kernel)⟩
theorem lw_p34 : lw_okq (⟨"GreyByFridayModel", "doIt", "(III)I"⟩, 23) := ⟨⟨by decide +kernel, by decide +kernel⟩, List.mem_of_getElem? (i := 673) (by decide +kernel), List.mem_of_getElem? (i := 849) (by decide +kernel), List.mem_of_getElem? (i := 850) (by decide +kernel)⟩
theorem lw_p35 : lw_okq (⟨"GreyByFridayModel", "seaAll", "(I)V"⟩, 23) := ⟨⟨by decide +kernel, by decide +kernel⟩, List.mem_of_getElem? (i := 673) (by decide +kernel), List.mem_of_getElem? (i := 853) (by decide +kernel), List.mem_of_getElem? (i := 854) (by decide +kernel)⟩
theorem lw_p36 : lw_okq (⟨"GreyByFridayModel", "sea", "(II)V"⟩, 23) := ⟨⟨by decide +kernel, by decide +kernel⟩, List.mem_of_getElem? (i := 673) (by decide +kernel), List.mem_of_getElem? (i := 857) (by decide +kernel), List.mem_of_getElem? (i := 858) (by decide +kernel)⟩
theorem lw_p37 : lw_okq (⟨"GreyByFridayModel", "over", "(I)V"⟩, 23) := ⟨⟨by decide +kernel, by decide +kernel⟩, List.mem_of_getElem? (i := 673) (by decide +kernel), List.mem_of_getElem? (i := 861) (by decide +kernel), List.mem_of_getElem? (i := 862) (by decide +kernel)⟩
theorem lw_p38 : lw_okq (⟨"GreyByFridayModel", "tryRow", "(II)Z"⟩, 23) := ⟨⟨by decide +kernel, by decide +kernel⟩, List.mem_of_getElem? (i := 673) (by decide +kernel), List.mem_of_getElem? (i := 900) (by decide +kernel), List.mem_of_getElem? (i := 901) (by decide +kernel)⟩
theorem lw_p39 : lw_okq (⟨"GreyByFridayModel", "together", "(II)I"⟩, 23) := ⟨⟨by decide +kernel, by decide +kernel⟩, List.mem_of_getElem? (i := 673) (by decide +kernel), List.mem_of_getElem? (i := 912) (by decide +kernel), List.mem_of_getElem? (i := 913) (by decide +kernel)⟩
theorem lw_p40 : lw_okq (⟨"GreyByFridayModel", "lastOf", "(I)I"⟩, 23) := ⟨⟨by decide +kernel, by decide +kernel⟩, List.mem_of_getElem? (i := 673) (by decide +kernel), List.mem_of_getElem? (i := 931) (by decide +kernel), List.mem_of_getElem? (i := 932) (by decide +kernel)⟩
theorem lw_p41 : lw_okq (⟨"GreyByFridayModel", "power", "(I)I"⟩, 23) := ⟨⟨by decide +kernel, by decide +kernel⟩, List.mem_of_getElem? (i := 673) (by decide +kernel), List.mem_of_getElem? (i := 935) (by decide +kernel), List.mem_of_getElem? (i := 936) (by decide +kernel)⟩
theorem lw_p42 : lw_okq (⟨"GreyByFridayModel", "isSpent", "(III)Z"⟩, 23) := ⟨⟨by decide +kernel, by decide +kernel⟩, List.mem_of_getElem? (i := 673) (by decide +kernel), List.mem_of_getElem? (i := 939) (by decide +kernel), List.mem_of_getElem? (i := 940) (by decide +kernel)⟩
def lw_privs_3 : List (MethodName × Nat) := [(⟨"GreyByFridayModel", "copy", "(II)V"⟩, 23), (⟨"GreyByFridayModel", "toldDeeds", "(I)V"⟩, 23), (⟨"GreyByFridayModel", "doIt", "(III)I"⟩, 23), (⟨"GreyByFridayModel", "seaAll", "(I)V"⟩, 23), (⟨"GreyByFridayModel", "sea", "(II)V"⟩, 23), (⟨"GreyByFridayModel", "over", "(I)V"⟩, 23), (⟨"GreyByFridayModel", "tryRow", "(II)Z"⟩, 23), (⟨"GreyByFridayModel", "together", "(II)I"⟩, 23), (⟨"GreyByFridayModel", "lastOf", "(I)I"⟩, 23), (⟨"GreyByFridayModel", "power", "(I)I"⟩, 23), (⟨"GreyByFridayModel", "isSpent", "(III)Z"⟩, 23)]
theorem lw_r3 : ∀ q ∈ lw_privs_3, lw_okq q := List.forall_mem_cons.mpr ⟨lw_p32, List.forall_mem_cons.mpr ⟨lw_p33, List.forall_mem_cons.mpr ⟨lw_p34, List.forall_mem_cons.mpr ⟨lw_p35, List.forall_mem_cons.mpr ⟨lw_p36, List.forall_mem_cons.mpr ⟨lw_p37, List.forall_mem_cons.mpr ⟨lw_p38, List.forall_mem_cons.mpr ⟨lw_p39, List.forall_mem_cons.mpr ⟨lw_p40, List.forall_mem_cons.mpr ⟨lw_p41, List.forall_mem_cons.mpr ⟨lw_p42, fun _ h => absurd h List.not_mem_nil⟩⟩⟩⟩⟩⟩⟩⟩⟩⟩⟩
def lw_privs : List (MethodName × Nat) := lw_privs_1 ++ (lw_privs_2 ++ (lw_privs_3))
def lw_tbl : List Cond := k2_sels lw_privs ++ tables_1
theorem lw_privs_ok : ∀ q ∈ lw_privs, lw_okq q := by
  show ∀ q ∈ lw_privs_1 ++ (lw_privs_2 ++ (lw_privs_3)), lw_okq q
  exact List.forall_mem_append.mpr ⟨lw_r1, List.forall_mem_append.mpr ⟨lw_r2, lw_r3⟩⟩
end
section
/-! ===== BEGIN printed: names, fields, word lists, decode rows ===== -/
def RX0 : String := "GreyByFriday$Chooser"
def TX0 : u_T := fun k => match k with
  | 0 => ("GreyByFriday$Chooser", "left", "[I", true)
  | 1 => ("GreyByFriday$Chooser", "times", "[I", true)
  | 2 => ("GreyByFriday$Chooser", "bestTimes", "[I", true)
  | 3 => ("GreyByFriday$Chooser", "hope", "[I", true)
  | 4 => ("GreyByFriday$Chooser", "bestWorth", "I", false)
  | _ => ("GreyByFriday$Chooser", "bestSize", "I", false)
def tyX0 : Nat → FieldType := fun k => match k with
  | 0 => .array .int
  | 1 => .array .int
  | 2 => .array .int
  | 3 => .array .int
  | 4 => .int
  | _ => .int
abbrev wsX00 : List Cond := u_ws RX0 TX0 6
theorem nmX0 : ∀ a, a < 6 → ∀ b, b < 6 → a ≠ b → (TX0 a).2.1 ≠ (TX0 b).2.1 := by decide +kernel
theorem tyX0_ok : ∀ k, k < 6 → parseFieldDescriptor (TX0 k).2.2.1 = some (tyX0 k) := by decide +kernel
abbrev cX0_init : ByteArray := prog_2_method_1_code
def yX0_init : MethodName := ⟨RX0, "<init>", "()V"⟩
abbrev cX0_choose : ByteArray := prog_2_method_2_code
def yX0_choose : MethodName := ⟨RX0, "choose", "(LGreyByFriday$Town;ILGreyByFriday$Street;)V"⟩
abbrev cX0_search : ByteArray := prog_2_method_3_code
def yX0_search : MethodName := ⟨RX0, "search", "(LGreyByFriday$Town;IIIII)V"⟩
abbrev cX0_isBetter : ByteArray := prog_2_method_4_code
def yX0_isBetter : MethodName := ⟨RX0, "isBetter", "(II)Z"⟩
abbrev cX0_repeat : ByteArray := prog_2_method_5_code
def yX0_repeat : MethodName := ⟨RX0, "repeat", "(LGreyByFriday$Town;III)I"⟩
def RX1 : String := "GreyByFriday$Paper"
def TX1 : u_T := fun k => match k with
  | 0 => ("GreyByFriday$Paper", "letters", "[I", true)
  | 1 => ("GreyByFriday$Paper", "numbers", "[I", true)
  | 2 => ("GreyByFriday$Paper", "length", "I", false)
  | _ => ("GreyByFriday$Paper", "place", "I", false)
def tyX1 : Nat → FieldType := fun k => match k with
  | 0 => .array .int
  | 1 => .array .int
  | 2 => .int
  | _ => .int
abbrev wsX10 : List Cond := u_ws RX1 TX1 4
theorem nmX1 : ∀ a, a < 4 → ∀ b, b < 4 → a ≠ b → (TX1 a).2.1 ≠ (TX1 b).2.1 := by decide +kernel
theorem tyX1_ok : ∀ k, k < 4 → parseFieldDescriptor (TX1 k).2.2.1 = some (tyX1 k) := by decide +kernel
abbrev cX1_init : ByteArray := prog_3_method_1_code
def yX1_init : MethodName := ⟨RX1, "<init>", "()V"⟩
abbrev cX1_add : ByteArray := prog_3_method_2_code
def yX1_add : MethodName := ⟨RX1, "add", "(I)Z"⟩
abbrev cX1_firstFault : ByteArray := prog_3_method_3_code
def yX1_firstFault : MethodName := ⟨RX1, "firstFault", "(LGreyByFriday$Town;)I"⟩
abbrev cX1_readItem : ByteArray := prog_3_method_4_code
def yX1_readItem : MethodName := ⟨RX1, "readItem", "(LGreyByFriday$Town;)Z"⟩
abbrev cX1_numbersBehind : ByteArray := prog_3_method_5_code
def yX1_numbersBehind : MethodName := ⟨RX1, "numbersBehind", "(I)I"⟩
abbrev cX1_readLetter : ByteArray := prog_3_method_6_code
def yX1_readLetter : MethodName := ⟨RX1, "readLetter", "()I"⟩
abbrev cX1_readNumber : ByteArray := prog_3_method_7_code
def yX1_readNumber : MethodName := ⟨RX1, "readNumber", "()I"⟩
def RX2 : String := "GreyByFriday$Shelf"
def TX2 : u_T := fun k => match k with
  | 0 => ("GreyByFriday$Shelf", "slots", "[LGreyByFriday$Street;", true)
  | 1 => ("GreyByFriday$Shelf", "newest", "I", false)
  | _ => ("GreyByFriday$Shelf", "size", "I", false)
def tyX2 : Nat → FieldType := fun k => match k with
  | 0 => .array (.object "GreyByFriday$Street")
  | 1 => .int
  | _ => .int
abbrev wsX20 : List Cond := u_ws RX2 TX2 3
theorem nmX2 : ∀ a, a < 3 → ∀ b, b < 3 → a ≠ b → (TX2 a).2.1 ≠ (TX2 b).2.1 := by decide +kernel
theorem tyX2_ok : ∀ k, k < 3 → parseFieldDescriptor (TX2 k).2.2.1 = some (tyX2 k) := by decide +kernel
abbrev cX2_init : ByteArray := prog_4_method_1_code
def yX2_init : MethodName := ⟨RX2, "<init>", "(I)V"⟩
abbrev cX2_put : ByteArray := prog_4_method_2_code
def yX2_put : MethodName := ⟨RX2, "put", "(LGreyByFriday$Street;)V"⟩
abbrev cX2_takeLast : ByteArray := prog_4_method_3_code
def yX2_takeLast : MethodName := ⟨RX2, "takeLast", "(LGreyByFriday$Street;)Z"⟩
def RX3 : String := "GreyByFriday$Street"
def TX3 : u_T := fun k => match k with
  | 0 => ("GreyByFriday$Street", "thimbles", "[I", true)
  | 1 => ("GreyByFriday$Street", "coins", "[I", true)
  | 2 => ("GreyByFriday$Street", "worth", "[I", true)
  | _ => ("GreyByFriday$Street", "days", "I", false)
def tyX3 : Nat → FieldType := fun k => match k with
  | 0 => .array .int
  | 1 => .array .int
  | 2 => .array .int
  | _ => .int
abbrev wsX30 : List Cond := u_ws RX3 TX3 4
theorem nmX3 : ∀ a, a < 4 → ∀ b, b < 4 → a ≠ b → (TX3 a).2.1 ≠ (TX3 b).2.1 := by decide +kernel
theorem tyX3_ok : ∀ k, k < 4 → parseFieldDescriptor (TX3 k).2.2.1 = some (tyX3 k) := by decide +kernel
abbrev cX3_init : ByteArray := prog_5_method_1_code
def yX3_init : MethodName := ⟨RX3, "<init>", "()V"⟩
abbrev cX3_begin : ByteArray := prog_5_method_2_code
def yX3_begin : MethodName := ⟨RX3, "begin", "(LGreyByFriday$Town;)V"⟩
abbrev cX3_copyFrom : ByteArray := prog_5_method_3_code
def yX3_copyFrom : MethodName := ⟨RX3, "copyFrom", "(LGreyByFriday$Street;)V"⟩
abbrev cX3_weekday : ByteArray := prog_5_method_4_code
def yX3_weekday : MethodName := ⟨RX3, "weekday", "()I"⟩
abbrev cX3_hue : ByteArray := prog_5_method_5_code
def yX3_hue : MethodName := ⟨RX3, "hue", "(I)I"⟩
abbrev cX3_perform : ByteArray := prog_5_method_6_code
def yX3_perform : MethodName := ⟨RX3, "perform", "(LGreyByFriday$Town;II)I"⟩
abbrev cX3_passDays : ByteArray := prog_5_method_7_code
def yX3_passDays : MethodName := ⟨RX3, "passDays", "(LGreyByFriday$Town;I)V"⟩
abbrev cX3_doTold : ByteArray := prog_5_method_8_code
def yX3_doTold : MethodName := ⟨RX3, "doTold", "(LGreyByFriday$Town;)V"⟩
abbrev cX3_doDrawn : ByteArray := prog_5_method_9_code
def yX3_doDrawn : MethodName := ⟨RX3, "doDrawn", "(LGreyByFriday$Town;II)V"⟩
abbrev cX3_draw : ByteArray := prog_5_method_10_code
def yX3_draw : MethodName := ⟨RX3, "draw", "(III)I"⟩
abbrev cX3_fade : ByteArray := prog_5_method_11_code
def yX3_fade : MethodName := ⟨RX3, "fade", "(LGreyByFriday$Town;)V"⟩
abbrev cX3_endDay : ByteArray := prog_5_method_12_code
def yX3_endDay : MethodName := ⟨RX3, "endDay", "(LGreyByFriday$Town;)V"⟩
abbrev cX3_firstGrey : ByteArray := prog_5_method_13_code
def yX3_firstGrey : MethodName := ⟨RX3, "firstGrey", "(LGreyByFriday$Town;)I"⟩
abbrev cX3_countGrey : ByteArray := prog_5_method_14_code
def yX3_countGrey : MethodName := ⟨RX3, "countGrey", "(LGreyByFriday$Town;)I"⟩
abbrev cX3_worthOfAll : ByteArray := prog_5_method_15_code
def yX3_worthOfAll : MethodName := ⟨RX3, "worthOfAll", "(LGreyByFriday$Town;)I"⟩
abbrev cX3_thimblesOfAll : ByteArray := prog_5_method_16_code
def yX3_thimblesOfAll : MethodName := ⟨RX3, "thimblesOfAll", "(LGreyByFriday$Town;)I"⟩
abbrev cX3_takeFromRichest : ByteArray := prog_5_method_17_code
def yX3_takeFromRichest : MethodName := ⟨RX3, "takeFromRichest", "(LGreyByFriday$Town;I)Z"⟩
def RX4 : String := "GreyByFriday$Town"
def TX4 : u_T := fun k => match k with
  | 0 => ("GreyByFriday$Town", "kinds", "[I", true)
  | 1 => ("GreyByFriday$Town", "rations", "[I", true)
  | 2 => ("GreyByFriday$Town", "costs", "[I", true)
  | 3 => ("GreyByFriday$Town", "worths", "[I", true)
  | 4 => ("GreyByFriday$Town", "plan", "[I", true)
  | 5 => ("GreyByFriday$Town", "bill", "[I", true)
  | 6 => ("GreyByFriday$Town", "persons", "I", false)
  | 7 => ("GreyByFriday$Town", "deeds", "I", false)
  | _ => ("GreyByFriday$Town", "price", "I", false)
def tyX4 : Nat → FieldType := fun k => match k with
  | 0 => .array .int
  | 1 => .array .int
  | 2 => .array .int
  | 3 => .array .int
  | 4 => .array .int
  | 5 => .array .int
  | 6 => .int
  | 7 => .int
  | _ => .int
abbrev wsX40 : List Cond := u_ws RX4 TX4 9
theorem nmX4 : ∀ a, a < 9 → ∀ b, b < 9 → a ≠ b → (TX4 a).2.1 ≠ (TX4 b).2.1 := by decide +kernel
theorem tyX4_ok : ∀ k, k < 9 → parseFieldDescriptor (TX4 k).2.2.1 = some (tyX4 k) := by decide +kernel
abbrev cX4_init : ByteArray := prog_6_method_1_code
def yX4_init : MethodName := ⟨RX4, "<init>", "()V"⟩
abbrev cX4_empty : ByteArray := prog_6_method_2_code
def yX4_empty : MethodName := ⟨RX4, "empty", "()V"⟩
abbrev cX4_take : ByteArray := prog_6_method_3_code
def yX4_take : MethodName := ⟨RX4, "take", "(I[I)Z"⟩
abbrev cX4_takePerson : ByteArray := prog_6_method_4_code
def yX4_takePerson : MethodName := ⟨RX4, "takePerson", "([I)Z"⟩
abbrev cX4_takeDeed : ByteArray := prog_6_method_5_code
def yX4_takeDeed : MethodName := ⟨RX4, "takeDeed", "([I)Z"⟩
abbrev cX4_takeHabit : ByteArray := prog_6_method_6_code
def yX4_takeHabit : MethodName := ⟨RX4, "takeHabit", "([I)Z"⟩
abbrev cX4_takePrice : ByteArray := prog_6_method_7_code
def yX4_takePrice : MethodName := ⟨RX4, "takePrice", "([I)Z"⟩
abbrev cX4_eachUpTo : ByteArray := prog_6_method_8_code
def yX4_eachUpTo : MethodName := ⟨RX4, "eachUpTo", "(I[II)Z"⟩
abbrev cX4_writeBill : ByteArray := prog_6_method_9_code
def yX4_writeBill : MethodName := ⟨RX4, "writeBill", "(II)V"⟩
abbrev cX4_affords : ByteArray := prog_6_method_10_code
def yX4_affords : MethodName := ⟨RX4, "affords", "(II[II)Z"⟩
abbrev cX4_mix : ByteArray := prog_6_method_11_code
def yX4_mix : MethodName := ⟨RX4, "mix", "([III)Z"⟩
abbrev cX4_billSum : ByteArray := prog_6_method_12_code
def yX4_billSum : MethodName := ⟨RX4, "billSum", "()I"⟩
abbrev cX4_pay : ByteArray := prog_6_method_13_code
def yX4_pay : MethodName := ⟨RX4, "pay", "([II)V"⟩
abbrev cX4_fade : ByteArray := prog_6_method_14_code
def yX4_fade : MethodName := ⟨RX4, "fade", "(I[II)V"⟩
abbrev cX4_renew : ByteArray := prog_6_method_15_code
def yX4_renew : MethodName := ⟨RX4, "renew", "(I[II)V"⟩
def RX5 : String := "GreyByFriday$Witness"
def TX5 : u_T := fun k => match k with
  | 0 => ("GreyByFriday$Witness", "who", "[I", true)
  | 1 => ("GreyByFriday$Witness", "when", "[I", true)
  | 2 => ("GreyByFriday$Witness", "hues", "[I", true)
  | 3 => ("GreyByFriday$Witness", "left", "[I", true)
  | 4 => ("GreyByFriday$Witness", "choice", "[I", true)
  | 5 => ("GreyByFriday$Witness", "first", "[I", true)
  | 6 => ("GreyByFriday$Witness", "size", "I", false)
  | _ => ("GreyByFriday$Witness", "ways", "I", false)
def tyX5 : Nat → FieldType := fun k => match k with
  | 0 => .array .int
  | 1 => .array .int
  | 2 => .array .int
  | 3 => .array .int
  | 4 => .array .int
  | 5 => .array .int
  | 6 => .int
  | _ => .int
abbrev wsX50 : List Cond := u_ws RX5 TX5 8
theorem nmX5 : ∀ a, a < 8 → ∀ b, b < 8 → a ≠ b → (TX5 a).2.1 ≠ (TX5 b).2.1 := by decide +kernel
theorem tyX5_ok : ∀ k, k < 8 → parseFieldDescriptor (TX5 k).2.2.1 = some (tyX5 k) := by decide +kernel
abbrev cX5_init : ByteArray := prog_7_method_1_code
def yX5_init : MethodName := ⟨RX5, "<init>", "()V"⟩
abbrev cX5_add : ByteArray := prog_7_method_2_code
def yX5_add : MethodName := ⟨RX5, "add", "(III)Z"⟩
abbrev cX5_lastDay : ByteArray := prog_7_method_3_code
def yX5_lastDay : MethodName := ⟨RX5, "lastDay", "(I)I"⟩
abbrev cX5_agrees : ByteArray := prog_7_method_4_code
def yX5_agrees : MethodName := ⟨RX5, "agrees", "(III)Z"⟩
abbrev cX5_recall : ByteArray := prog_7_method_5_code
def yX5_recall : MethodName := ⟨RX5, "recall", "(LGreyByFriday$Town;ILGreyByFriday$Street;)V"⟩
abbrev cX5_search : ByteArray := prog_7_method_6_code
def yX5_search : MethodName := ⟨RX5, "search", "(LGreyByFriday$Town;IIII)V"⟩
abbrev cX5_spendDay : ByteArray := prog_7_method_7_code
def yX5_spendDay : MethodName := ⟨RX5, "spendDay", "(LGreyByFriday$Town;IIII)Z"⟩
def RX6 : String := "GreyByFriday"
def TX6 : u_T := fun k => match k with
  | 0 => ("GreyByFriday", "paper", "LGreyByFriday$Paper;", true)
  | 1 => ("GreyByFriday", "town", "LGreyByFriday$Town;", false)
  | 2 => ("GreyByFriday", "draft", "LGreyByFriday$Town;", false)
  | 3 => ("GreyByFriday", "now", "LGreyByFriday$Street;", true)
  | 4 => ("GreyByFriday", "trial", "LGreyByFriday$Street;", true)
  | 5 => ("GreyByFriday", "done", "LGreyByFriday$Shelf;", true)
  | 6 => ("GreyByFriday", "kept", "LGreyByFriday$Shelf;", true)
  | 7 => ("GreyByFriday", "chooser", "LGreyByFriday$Chooser;", true)
  | 8 => ("GreyByFriday", "witness", "LGreyByFriday$Witness;", true)
  | _ => ("GreyByFriday", "purse", "[I", true)
def tyX6 : Nat → FieldType := fun k => match k with
  | 0 => .object "GreyByFriday$Paper"
  | 1 => .object "GreyByFriday$Town"
  | 2 => .object "GreyByFriday$Town"
  | 3 => .object "GreyByFriday$Street"
  | 4 => .object "GreyByFriday$Street"
  | 5 => .object "GreyByFriday$Shelf"
  | 6 => .object "GreyByFriday$Shelf"
  | 7 => .object "GreyByFriday$Chooser"
  | 8 => .object "GreyByFriday$Witness"
  | _ => .array .int
abbrev wsX60 : List Cond := u_ws RX6 TX6 10
theorem nmX6 : ∀ a, a < 10 → ∀ b, b < 10 → a ≠ b → (TX6 a).2.1 ≠ (TX6 b).2.1 := by decide +kernel
theorem tyX6_ok : ∀ k, k < 10 → parseFieldDescriptor (TX6 k).2.2.1 = some (tyX6 k) := by decide +kernel
abbrev cX6_init : ByteArray := prog_1_method_1_code
def yX6_init : MethodName := ⟨RX6, "<init>", "()V"⟩
abbrev cX6_write : ByteArray := prog_1_method_2_code
def yX6_write : MethodName := ⟨RX6, "write", "(I)I"⟩
abbrev cX6_wipe : ByteArray := prog_1_method_3_code
def yX6_wipe : MethodName := ⟨RX6, "wipe", "()I"⟩
abbrev cX6_fault : ByteArray := prog_1_method_4_code
def yX6_fault : MethodName := ⟨RX6, "fault", "()I"⟩
abbrev cX6_lay : ByteArray := prog_1_method_5_code
def yX6_lay : MethodName := ⟨RX6, "lay", "()I"⟩
abbrev cX6_person : ByteArray := prog_1_method_6_code
def yX6_person : MethodName := ⟨RX6, "person", "(II)I"⟩
abbrev cX6_deed : ByteArray := prog_1_method_7_code
def yX6_deed : MethodName := ⟨RX6, "deed", "(II)I"⟩
abbrev cX6_told : ByteArray := prog_1_method_8_code
def yX6_told : MethodName := ⟨RX6, "told", "(II)I"⟩
abbrev cX6_can : ByteArray := prog_1_method_9_code
def yX6_can : MethodName := ⟨RX6, "can", "(II)I"⟩
abbrev cX6_pass : ByteArray := prog_1_method_10_code
def yX6_pass : MethodName := ⟨RX6, "pass", "(I)I"⟩
abbrev cX6_act : ByteArray := prog_1_method_11_code
def yX6_act : MethodName := ⟨RX6, "act", "(II)I"⟩
abbrev cX6_lend : ByteArray := prog_1_method_12_code
def yX6_lend : MethodName := ⟨RX6, "lend", "(IIII)I"⟩
abbrev cX6_sell : ByteArray := prog_1_method_13_code
def yX6_sell : MethodName := ⟨RX6, "sell", "(III)I"⟩
abbrev cX6_levy : ByteArray := prog_1_method_14_code
def yX6_levy : MethodName := ⟨RX6, "levy", "(II)I"⟩
abbrev cX6_undo : ByteArray := prog_1_method_15_code
def yX6_undo : MethodName := ⟨RX6, "undo", "()I"⟩
abbrev cX6_behind : ByteArray := prog_1_method_16_code
def yX6_behind : MethodName := ⟨RX6, "behind", "(III)I"⟩
abbrev cX6_grey : ByteArray := prog_1_method_17_code
def yX6_grey : MethodName := ⟨RX6, "grey", "(I)I"⟩
abbrev cX6_best : ByteArray := prog_1_method_18_code
def yX6_best : MethodName := ⟨RX6, "best", "(II)I"⟩
abbrev cX6_lending : ByteArray := prog_1_method_19_code
def yX6_lending : MethodName := ⟨RX6, "lending", "()I"⟩
abbrev cX6_heap : ByteArray := prog_1_method_20_code
def yX6_heap : MethodName := ⟨RX6, "heap", "(III)I"⟩
abbrev cX6_seen : ByteArray := prog_1_method_21_code
def yX6_seen : MethodName := ⟨RX6, "seen", "(III)I"⟩
abbrev cX6_forget : ByteArray := prog_1_method_22_code
def yX6_forget : MethodName := ⟨RX6, "forget", "()I"⟩
abbrev cX6_spent : ByteArray := prog_1_method_23_code
def yX6_spent : MethodName := ⟨RX6, "spent", "(II)I"⟩
abbrev cX6_saved : ByteArray := prog_1_method_24_code
def yX6_saved : MethodName := ⟨RX6, "saved", "(III)I"⟩
abbrev cX6_lasts : ByteArray := prog_1_method_25_code
def yX6_lasts : MethodName := ⟨RX6, "lasts", "(IIIII)I"⟩
abbrev cX6_year : ByteArray := prog_1_method_26_code
def yX6_year : MethodName := ⟨RX6, "year", "(III)I"⟩
abbrev cX6_keep : ByteArray := prog_1_method_27_code
def yX6_keep : MethodName := ⟨RX6, "keep", "()I"⟩
abbrev cX6_back : ByteArray := prog_1_method_28_code
def yX6_back : MethodName := ⟨RX6, "back", "()I"⟩
abbrev cX6_count : ByteArray := prog_1_method_29_code
def yX6_count : MethodName := ⟨RX6, "count", "(I)I"⟩
abbrev cX6_isPerson : ByteArray := prog_1_method_30_code
def yX6_isPerson : MethodName := ⟨RX6, "isPerson", "(I)Z"⟩
abbrev cX6_isDeed : ByteArray := prog_1_method_31_code
def yX6_isDeed : MethodName := ⟨RX6, "isDeed", "(I)Z"⟩
abbrev cX6_isSort : ByteArray := prog_1_method_32_code
def yX6_isSort : MethodName := ⟨RX6, "isSort", "(I)Z"⟩
abbrev cX6_within : ByteArray := prog_1_method_33_code
def yX6_within : MethodName := ⟨RX6, "within", "(III)Z"⟩
abbrev cX6_needToday : ByteArray := prog_1_method_34_code
def yX6_needToday : MethodName := ⟨RX6, "needToday", "(II)I"⟩
abbrev cX6_sumOf : ByteArray := prog_1_method_35_code
def yX6_sumOf : MethodName := ⟨RX6, "sumOf", "(II)I"⟩
abbrev cX6_timesInARow : ByteArray := prog_1_method_36_code
def yX6_timesInARow : MethodName := ⟨RX6, "timesInARow", "(III)I"⟩
abbrev cX6_power : ByteArray := prog_1_method_37_code
def yX6_power : MethodName := ⟨RX6, "power", "(II)J"⟩
abbrev cX6_choose : ByteArray := prog_1_method_38_code
def yX6_choose : MethodName := ⟨RX6, "choose", "(II)J"⟩
abbrev cX6_commonDivisor : ByteArray := prog_1_method_39_code
def yX6_commonDivisor : MethodName := ⟨RX6, "commonDivisor", "(JJ)J"⟩
abbrev cX6_hueOf : ByteArray := prog_1_method_40_code
def yX6_hueOf : MethodName := ⟨RX6, "hueOf", "([II)I"⟩
def RX7 : String := "GreyByFridayModel"
def TX7 : u_T := fun k => match k with
  | 0 => ("GreyByFridayModel", "text", "[B", true)
  | 1 => ("GreyByFridayModel", "typed", "I", false)
  | 2 => ("GreyByFridayModel", "persons", "[I", true)
  | 3 => ("GreyByFridayModel", "kindOf", "[I", true)
  | 4 => ("GreyByFridayModel", "ration", "[I", true)
  | 5 => ("GreyByFridayModel", "deeds", "[I", true)
  | 6 => ("GreyByFridayModel", "cost", "[I", true)
  | 7 => ("GreyByFridayModel", "worth", "[I", true)
  | 8 => ("GreyByFridayModel", "tells", "[I", true)
  | 9 => ("GreyByFridayModel", "brings", "[I", true)
  | 10 => ("GreyByFridayModel", "at", "I", false)
  | 11 => ("GreyByFridayModel", "isSo", "Z", false)
  | 12 => ("GreyByFridayModel", "now", "[I", true)
  | 13 => ("GreyByFridayModel", "undoes", "I", false)
  | 14 => ("GreyByFridayModel", "kept", "I", false)
  | 15 => ("GreyByFridayModel", "pays", "[I", true)
  | 16 => ("GreyByFridayModel", "often", "[I", true)
  | 17 => ("GreyByFridayModel", "rowWorth", "I", false)
  | 18 => ("GreyByFridayModel", "rowMany", "I", false)
  | 19 => ("GreyByFridayModel", "seenOf", "[I", true)
  | 20 => ("GreyByFridayModel", "seenDay", "[I", true)
  | 21 => ("GreyByFridayModel", "seenHue", "[I", true)
  | _ => ("GreyByFridayModel", "seenMany", "I", false)
def tyX7 : Nat → FieldType := fun k => match k with
  | 0 => .array .byte
  | 1 => .int
  | 2 => .array .int
  | 3 => .array .int
  | 4 => .array .int
  | 5 => .array .int
  | 6 => .array .int
  | 7 => .array .int
  | 8 => .array .int
  | 9 => .array .int
  | 10 => .int
  | 11 => .boolean
  | 12 => .array .int
  | 13 => .int
  | 14 => .int
  | 15 => .array .int
  | 16 => .array .int
  | 17 => .int
  | 18 => .int
  | 19 => .array .int
  | 20 => .array .int
  | 21 => .array .int
  | _ => .int
abbrev wsX70 : List Cond := u_ws RX7 TX7 23
theorem nmX7 : ∀ a, a < 23 → ∀ b, b < 23 → a ≠ b → (TX7 a).2.1 ≠ (TX7 b).2.1 := by decide +kernel
theorem tyX7_ok : ∀ k, k < 23 → parseFieldDescriptor (TX7 k).2.2.1 = some (tyX7 k) := by decide +kernel
abbrev cX7_init : ByteArray := prog_9_method_1_code
def yX7_init : MethodName := ⟨RX7, "<init>", "()V"⟩
abbrev cX7_firstPerson : ByteArray := prog_9_method_2_code
def yX7_firstPerson : MethodName := ⟨RX7, "firstPerson", "(IIII)V"⟩
abbrev cX7_firstDeed : ByteArray := prog_9_method_3_code
def yX7_firstDeed : MethodName := ⟨RX7, "firstDeed", "(IIII)V"⟩
abbrev cX7_in : ByteArray := prog_9_method_5_code
def yX7_in : MethodName := ⟨RX7, "in", "(III)Z"⟩
abbrev cX7_write : ByteArray := prog_9_method_6_code
def yX7_write : MethodName := ⟨RX7, "write", "(I)I"⟩
abbrev cX7_wipe : ByteArray := prog_9_method_7_code
def yX7_wipe : MethodName := ⟨RX7, "wipe", "()I"⟩
abbrev cX7_here : ByteArray := prog_9_method_8_code
def yX7_here : MethodName := ⟨RX7, "here", "()I"⟩
abbrev cX7_number : ByteArray := prog_9_method_9_code
def yX7_number : MethodName := ⟨RX7, "number", "(III)I"⟩
abbrev cX7_readItem : ByteArray := prog_9_method_10_code
def yX7_readItem : MethodName := ⟨RX7, "readItem", "()V"⟩
abbrev cX7_fault : ByteArray := prog_9_method_11_code
def yX7_fault : MethodName := ⟨RX7, "fault", "()I"⟩
abbrev cX7_takeDraft : ByteArray := prog_9_method_12_code
def yX7_takeDraft : MethodName := ⟨RX7, "takeDraft", "()V"⟩
abbrev cX7_lay : ByteArray := prog_9_method_13_code
def yX7_lay : MethodName := ⟨RX7, "lay", "()I"⟩
abbrev cX7_copy : ByteArray := prog_9_method_14_code
def yX7_copy : MethodName := ⟨RX7, "copy", "(II)V"⟩
abbrev cX7_isPerson : ByteArray := prog_9_method_15_code
def yX7_isPerson : MethodName := ⟨RX7, "isPerson", "(I)Z"⟩
abbrev cX7_isDeed : ByteArray := prog_9_method_16_code
def yX7_isDeed : MethodName := ⟨RX7, "isDeed", "(I)Z"⟩
abbrev cX7_isSort : ByteArray := prog_9_method_17_code
def yX7_isSort : MethodName := ⟨RX7, "isSort", "(I)Z"⟩
abbrev cX7_hue : ByteArray := prog_9_method_18_code
def yX7_hue : MethodName := ⟨RX7, "hue", "(II)I"⟩
abbrev cX7_person : ByteArray := prog_9_method_19_code
def yX7_person : MethodName := ⟨RX7, "person", "(II)I"⟩
abbrev cX7_deed : ByteArray := prog_9_method_20_code
def yX7_deed : MethodName := ⟨RX7, "deed", "(II)I"⟩
abbrev cX7_told : ByteArray := prog_9_method_21_code
def yX7_told : MethodName := ⟨RX7, "told", "(II)I"⟩
abbrev cX7_plainCost : ByteArray := prog_9_method_22_code
def yX7_plainCost : MethodName := ⟨RX7, "plainCost", "(II)V"⟩
abbrev cX7_lacks : ByteArray := prog_9_method_23_code
def yX7_lacks : MethodName := ⟨RX7, "lacks", "(II)I"⟩
abbrev cX7_canDo : ByteArray := prog_9_method_24_code
def yX7_canDo : MethodName := ⟨RX7, "canDo", "(III)Z"⟩
abbrev cX7_doIt : ByteArray := prog_9_method_25_code
def yX7_doIt : MethodName := ⟨RX7, "doIt", "(III)I"⟩
abbrev cX7_can : ByteArray := prog_9_method_26_code
def yX7_can : MethodName := ⟨RX7, "can", "(II)I"⟩
abbrev cX7_toldDeeds : ByteArray := prog_9_method_27_code
def yX7_toldDeeds : MethodName := ⟨RX7, "toldDeeds", "(I)V"⟩
abbrev cX7_sea : ByteArray := prog_9_method_28_code
def yX7_sea : MethodName := ⟨RX7, "sea", "(II)V"⟩
abbrev cX7_seaAll : ByteArray := prog_9_method_29_code
def yX7_seaAll : MethodName := ⟨RX7, "seaAll", "(I)V"⟩
abbrev cX7_over : ByteArray := prog_9_method_30_code
def yX7_over : MethodName := ⟨RX7, "over", "(I)V"⟩
abbrev cX7_know : ByteArray := prog_9_method_31_code
def yX7_know : MethodName := ⟨RX7, "know", "()V"⟩
abbrev cX7_pass : ByteArray := prog_9_method_32_code
def yX7_pass : MethodName := ⟨RX7, "pass", "(I)I"⟩
abbrev cX7_act : ByteArray := prog_9_method_33_code
def yX7_act : MethodName := ⟨RX7, "act", "(II)I"⟩
abbrev cX7_lend : ByteArray := prog_9_method_34_code
def yX7_lend : MethodName := ⟨RX7, "lend", "(IIII)I"⟩
abbrev cX7_sell : ByteArray := prog_9_method_35_code
def yX7_sell : MethodName := ⟨RX7, "sell", "(III)I"⟩
abbrev cX7_levy : ByteArray := prog_9_method_36_code
def yX7_levy : MethodName := ⟨RX7, "levy", "(II)I"⟩
abbrev cX7_undo : ByteArray := prog_9_method_37_code
def yX7_undo : MethodName := ⟨RX7, "undo", "()I"⟩
abbrev cX7_behind : ByteArray := prog_9_method_38_code
def yX7_behind : MethodName := ⟨RX7, "behind", "(III)I"⟩
abbrev cX7_grey : ByteArray := prog_9_method_39_code
def yX7_grey : MethodName := ⟨RX7, "grey", "(I)I"⟩
abbrev cX7_tryRow : ByteArray := prog_9_method_40_code
def yX7_tryRow : MethodName := ⟨RX7, "tryRow", "(II)Z"⟩
abbrev cX7_best : ByteArray := prog_9_method_41_code
def yX7_best : MethodName := ⟨RX7, "best", "(II)I"⟩
abbrev cX7_lending : ByteArray := prog_9_method_42_code
def yX7_lending : MethodName := ⟨RX7, "lending", "()I"⟩
abbrev cX7_together : ByteArray := prog_9_method_43_code
def yX7_together : MethodName := ⟨RX7, "together", "(II)I"⟩
abbrev cX7_manyOf : ByteArray := prog_9_method_44_code
def yX7_manyOf : MethodName := ⟨RX7, "manyOf", "(I)I"⟩
abbrev cX7_heap : ByteArray := prog_9_method_45_code
def yX7_heap : MethodName := ⟨RX7, "heap", "(III)I"⟩
abbrev cX7_seen : ByteArray := prog_9_method_46_code
def yX7_seen : MethodName := ⟨RX7, "seen", "(III)I"⟩
abbrev cX7_forget : ByteArray := prog_9_method_47_code
def yX7_forget : MethodName := ⟨RX7, "forget", "()I"⟩
abbrev cX7_lastOf : ByteArray := prog_9_method_48_code
def yX7_lastOf : MethodName := ⟨RX7, "lastOf", "(I)I"⟩
abbrev cX7_power : ByteArray := prog_9_method_49_code
def yX7_power : MethodName := ⟨RX7, "power", "(I)I"⟩
abbrev cX7_isSpent : ByteArray := prog_9_method_50_code
def yX7_isSpent : MethodName := ⟨RX7, "isSpent", "(III)Z"⟩
abbrev cX7_spent : ByteArray := prog_9_method_51_code
def yX7_spent : MethodName := ⟨RX7, "spent", "(II)I"⟩
abbrev cX7_saved : ByteArray := prog_9_method_52_code
def yX7_saved : MethodName := ⟨RX7, "saved", "(III)I"⟩
abbrev cX7_lasts : ByteArray := prog_9_method_53_code
def yX7_lasts : MethodName := ⟨RX7, "lasts", "(IIIII)I"⟩
abbrev cX7_year : ByteArray := prog_9_method_54_code
def yX7_year : MethodName := ⟨RX7, "year", "(III)I"⟩
abbrev cX7_keep : ByteArray := prog_9_method_55_code
def yX7_keep : MethodName := ⟨RX7, "keep", "()I"⟩
abbrev cX7_back : ByteArray := prog_9_method_56_code
def yX7_back : MethodName := ⟨RX7, "back", "()I"⟩
abbrev cX7_count : ByteArray := prog_9_method_57_code
def yX7_count : MethodName := ⟨RX7, "count", "(I)I"⟩
def RJ6 : String := "java/lang/Integer"
def TJ6 : u_T := fun k => match k with
  | _ => ("", "", "", false)
def tyJ6 : Nat → FieldType := fun k => match k with
  | _ => .int
abbrev wsJ60 : List Cond := u_ws RJ6 TJ6 0
theorem nmJ6 : ∀ a, a < 0 → ∀ b, b < 0 → a ≠ b → (TJ6 a).2.1 ≠ (TJ6 b).2.1 := by decide +kernel
theorem tyJ6_ok : ∀ k, k < 0 → parseFieldDescriptor (TJ6 k).2.2.1 = some (tyJ6 k) := by decide +kernel
abbrev cJ6_bitCount_0f7a4 : ByteArray := prog_10_method_49_code
def yJ6_bitCount_0f7a4 : MethodName := ⟨RJ6, "bitCount", "(I)I"⟩
def RJ9 : String := "java/lang/Math"
def TJ9 : u_T := fun k => match k with
  | _ => ("", "", "", false)
def tyJ9 : Nat → FieldType := fun k => match k with
  | _ => .int
abbrev wsJ90 : List Cond := u_ws RJ9 TJ9 0
theorem nmJ9 : ∀ a, a < 0 → ∀ b, b < 0 → a ≠ b → (TJ9 a).2.1 ≠ (TJ9 b).2.1 := by decide +kernel
theorem tyJ9_ok : ∀ k, k < 0 → parseFieldDescriptor (TJ9 k).2.2.1 = some (tyJ9 k) := by decide +kernel
abbrev cJ9_max_7cf53 : ByteArray := prog_11_method_65_code
def yJ9_max_7cf53 : MethodName := ⟨RJ9, "max", "(II)I"⟩
abbrev cJ9_max_f86c9 : ByteArray := prog_11_method_66_code
def yJ9_max_f86c9 : MethodName := ⟨RJ9, "max", "(JJ)J"⟩
abbrev cJ9_min_7cf53 : ByteArray := prog_11_method_69_code
def yJ9_min_7cf53 : MethodName := ⟨RJ9, "min", "(II)I"⟩
def RJ0 : String := "java/lang/String"
def TJ0 : u_T := fun k => match k with
  | _ => ("", "", "", false)
def tyJ0 : Nat → FieldType := fun k => match k with
  | _ => .int
abbrev wsJ00 : List Cond := u_ws RJ0 TJ0 0
theorem nmJ0 : ∀ a, a < 0 → ∀ b, b < 0 → a ≠ b → (TJ0 a).2.1 ≠ (TJ0 b).2.1 := by decide +kernel
theorem tyJ0_ok : ∀ k, k < 0 → parseFieldDescriptor (TJ0 k).2.2.1 = some (tyJ0 k) := by decide +kernel
abbrev cJ0_length_8abf5 : ByteArray := prog_12_method_54_code
def yJ0_length_8abf5 : MethodName := ⟨RJ0, "length", "()I"⟩
abbrev cJ0_charAt_5068e : ByteArray := prog_12_method_56_code
def yJ0_charAt_5068e : MethodName := ⟨RJ0, "charAt", "(I)C"⟩
abbrev cJ0_coder_7d493 : ByteArray := prog_12_method_152_code
def yJ0_coder_7d493 : MethodName := ⟨RJ0, "coder", "()B"⟩
abbrev cJ0_isLatin1_aae02 : ByteArray := prog_12_method_154_code
def yJ0_isLatin1_aae02 : MethodName := ⟨RJ0, "isLatin1", "()Z"⟩
abbrev cJ0_checkIndex_df160 : ByteArray := prog_12_method_155_code
def yJ0_checkIndex_df160 : MethodName := ⟨RJ0, "checkIndex", "(II)V"⟩
def RJ1 : String := "java/lang/StringLatin1"
def TJ1 : u_T := fun k => match k with
  | _ => ("", "", "", false)
def tyJ1 : Nat → FieldType := fun k => match k with
  | _ => .int
abbrev wsJ10 : List Cond := u_ws RJ1 TJ1 0
theorem nmJ1 : ∀ a, a < 0 → ∀ b, b < 0 → a ≠ b → (TJ1 a).2.1 ≠ (TJ1 b).2.1 := by decide +kernel
theorem tyJ1_ok : ∀ k, k < 0 → parseFieldDescriptor (TJ1 k).2.2.1 = some (tyJ1 k) := by decide +kernel
abbrev cJ1_charAt_3b067 : ByteArray := prog_13_method_2_code
def yJ1_charAt_3b067 : MethodName := ⟨RJ1, "charAt", "([BI)C"⟩
def RJ2 : String := "java/lang/StringUTF16"
def TJ2 : u_T := fun k => match k with
  | _ => ("", "", "", false)
def tyJ2 : Nat → FieldType := fun k => match k with
  | _ => .int
abbrev wsJ20 : List Cond := u_ws RJ2 TJ2 0
theorem nmJ2 : ∀ a, a < 0 → ∀ b, b < 0 → a ≠ b → (TJ2 a).2.1 ≠ (TJ2 b).2.1 := by decide +kernel
theorem tyJ2_ok : ∀ k, k < 0 → parseFieldDescriptor (TJ2 k).2.2.1 = some (tyJ2 k) := by decide +kernel
abbrev cJ2_getChar_3b067 : ByteArray := prog_14_method_5_code
def yJ2_getChar_3b067 : MethodName := ⟨RJ2, "getChar", "([BI)C"⟩
abbrev cJ2_length_9d52b : ByteArray := prog_14_method_6_code
def yJ2_length_9d52b : MethodName := ⟨RJ2, "length", "([B)I"⟩
abbrev cJ2_charAt_3b067 : ByteArray := prog_14_method_83_code
def yJ2_charAt_3b067 : MethodName := ⟨RJ2, "charAt", "([BI)C"⟩
abbrev cJ2_checkIndex_2214a : ByteArray := prog_14_method_91_code
def yJ2_checkIndex_2214a : MethodName := ⟨RJ2, "checkIndex", "(I[B)V"⟩
def RJ10 : String := "java/lang/System"
def TJ10 : u_T := fun k => match k with
  | _ => ("", "", "", false)
def tyJ10 : Nat → FieldType := fun k => match k with
  | _ => .int
abbrev wsJ100 : List Cond := u_ws RJ10 TJ10 0
theorem nmJ10 : ∀ a, a < 0 → ∀ b, b < 0 → a ≠ b → (TJ10 a).2.1 ≠ (TJ10 b).2.1 := by decide +kernel
theorem tyJ10_ok : ∀ k, k < 0 → parseFieldDescriptor (TJ10 k).2.2.1 = some (tyJ10 k) := by decide +kernel
def RJ3 : String := "jdk/internal/util/Preconditions"
def TJ3 : u_T := fun k => match k with
  | _ => ("", "", "", false)
def tyJ3 : Nat → FieldType := fun k => match k with
  | _ => .int
abbrev wsJ30 : List Cond := u_ws RJ3 TJ3 0
theorem nmJ3 : ∀ a, a < 0 → ∀ b, b < 0 → a ≠ b → (TJ3 a).2.1 ≠ (TJ3 b).2.1 := by decide +kernel
theorem tyJ3_ok : ∀ k, k < 0 → parseFieldDescriptor (TJ3 k).2.2.1 = some (tyJ3 k) := by decide +kernel
abbrev cJ3_checkIndex_8e157 : ByteArray := prog_16_method_11_code
def yJ3_checkIndex_8e157 : MethodName := ⟨RJ3, "checkIndex", "(IILjava/util/function/BiFunction;)I"⟩
def RL : String := "GreyByFridayLaw"
abbrev cL_law : ByteArray := code
def yL_law : MethodName := ⟨RL, "law", "([I)Z"⟩
abbrev vwCl : List vw_C := [(RX0, TX0, 6), (RX1, TX1, 4), (RX2, TX2, 3), (RX3, TX3, 4), (RX4, TX4, 9), (RX5, TX5, 8), (RX6, TX6, 10), (RX7, TX7, 23)]
end
section
theorem dJ0_length_8abf5_0 : decode cJ0_length_8abf5 0 = .ok (.aload_n 0, 1) := by decide +kernel
theorem dJ0_length_8abf5_1 : decode cJ0_length_8abf5 1 = .ok (.getfield 9, 3) := by decide +kernel
theorem dJ0_length_8abf5_4 : decode cJ0_length_8abf5 4 = .ok (.arraylength, 1) := by decide +kernel
theorem dJ0_length_8abf5_5 : decode cJ0_length_8abf5 5 = .ok (.aload_n 0, 1) := by decide +kernel
theorem dJ0_length_8abf5_6 : decode cJ0_length_8abf5 6 = .ok (.invokevirtual 335, 3) := by decide +kernel
theorem dJ0_length_8abf5_9 : decode cJ0_length_8abf5 9 = .ok (.ishr, 1) := by decide +kernel
theorem dJ0_length_8abf5_10 : decode cJ0_length_8abf5 10 = .ok (.ireturn, 1) := by decide +kernel
theorem dJ0_charAt_5068e_0 : decode cJ0_charAt_5068e 0 = .ok (.aload_n 0, 1) := by decide +kernel
theorem dJ0_charAt_5068e_1 : decode cJ0_charAt_5068e 1 = .ok (.invokevirtual 492, 3) := by decide +kernel
theorem dJ0_charAt_5068e_4 : decode cJ0_charAt_5068e 4 = .ok (.ifCond .eq 12, 3) := by decide +kernel
theorem dJ0_charAt_5068e_7 : decode cJ0_charAt_5068e 7 = .ok (.aload_n 0, 1) := by decide +kernel
theorem dJ0_charAt_5068e_8 : decode cJ0_charAt_5068e 8 = .ok (.getfield 9, 3) := by decide +kernel
theorem dJ0_charAt_5068e_11 : decode cJ0_charAt_5068e 11 = .ok (.iload_n 1, 1) := by decide +kernel
theorem dJ0_charAt_5068e_12 : decode cJ0_charAt_5068e 12 = .ok (.invokestatic 495, 3) := by decide +kernel
theorem dJ0_charAt_5068e_15 : decode cJ0_charAt_5068e 15 = .ok (.ireturn, 1) := by decide +kernel
theorem dJ0_charAt_5068e_16 : decode cJ0_charAt_5068e 16 = .ok (.aload_n 0, 1) := by decide +kernel
theorem dJ0_charAt_5068e_17 : decode cJ0_charAt_5068e 17 = .ok (.getfield 9, 3) := by decide +kernel
theorem dJ0_charAt_5068e_20 : decode cJ0_charAt_5068e 20 = .ok (.iload_n 1, 1) := by decide +kernel
theorem dJ0_charAt_5068e_21 : decode cJ0_charAt_5068e 21 = .ok (.invokestatic 498, 3) := by decide +kernel
theorem dJ0_charAt_5068e_24 : decode cJ0_charAt_5068e 24 = .ok (.ireturn, 1) := by decide +kernel
theorem dJ0_coder_7d493_0 : decode cJ0_coder_7d493 0 = .ok (.getstatic 38, 3) := by decide +kernel
theorem dJ0_coder_7d493_3 : decode cJ0_coder_7d493 3 = .ok (.ifCond .eq 10, 3) := by decide +kernel
theorem dJ0_coder_7d493_6 : decode cJ0_coder_7d493 6 = .ok (.aload_n 0, 1) := by decide +kernel
theorem dJ0_coder_7d493_7 : decode cJ0_coder_7d493 7 = .ok (.getfield 15, 3) := by decide +kernel
theorem dJ0_coder_7d493_10 : decode cJ0_coder_7d493 10 = .ok (.goto 4, 3) := by decide +kernel
theorem dJ0_coder_7d493_13 : decode cJ0_coder_7d493 13 = .ok (.iconst 1, 1) := by decide +kernel
theorem dJ0_coder_7d493_14 : decode cJ0_coder_7d493 14 = .ok (.ireturn, 1) := by decide +kernel
theorem dJ0_isLatin1_aae02_0 : decode cJ0_isLatin1_aae02 0 = .ok (.getstatic 38, 3) := by decide +kernel
theorem dJ0_isLatin1_aae02_3 : decode cJ0_isLatin1_aae02 3 = .ok (.ifCond .eq 14, 3) := by decide +kernel
theorem dJ0_isLatin1_aae02_6 : decode cJ0_isLatin1_aae02 6 = .ok (.aload_n 0, 1) := by decide +kernel
theorem dJ0_isLatin1_aae02_7 : decode cJ0_isLatin1_aae02 7 = .ok (.getfield 15, 3) := by decide +kernel
theorem dJ0_isLatin1_aae02_10 : decode cJ0_isLatin1_aae02 10 = .ok (.ifCond .ne 7, 3) := by decide +kernel
theorem dJ0_isLatin1_aae02_13 : decode cJ0_isLatin1_aae02 13 = .ok (.iconst 1, 1) := by decide +kernel
theorem dJ0_isLatin1_aae02_14 : decode cJ0_isLatin1_aae02 14 = .ok (.goto 4, 3) := by decide +kernel
theorem dJ0_isLatin1_aae02_17 : decode cJ0_isLatin1_aae02 17 = .ok (.iconst 0, 1) := by decide +kernel
theorem dJ0_isLatin1_aae02_18 : decode cJ0_isLatin1_aae02 18 = .ok (.ireturn, 1) := by decide +kernel
theorem dJ0_checkIndex_df160_0 : decode cJ0_checkIndex_df160 0 = .ok (.iload_n 0, 1) := by decide +kernel
theorem dJ0_checkIndex_df160_1 : decode cJ0_checkIndex_df160 1 = .ok (.iload_n 1, 1) := by decide +kernel
theorem dJ0_checkIndex_df160_2 : decode cJ0_checkIndex_df160 2 = .ok (.getstatic 1053, 3) := by decide +kernel
theorem dJ0_checkIndex_df160_5 : decode cJ0_checkIndex_df160 5 = .ok (.invokestatic 1059, 3) := by decide +kernel
theorem dJ0_checkIndex_df160_8 : decode cJ0_checkIndex_df160 8 = .ok (.pop, 1) := by decide +kernel
theorem dJ0_checkIndex_df160_9 : decode cJ0_checkIndex_df160 9 = .ok (.return_, 1) := by decide +kernel
end
section
theorem dJ1_charAt_3b067_0 : decode cJ1_charAt_3b067 0 = .ok (.iload_n 1, 1) := by decide +kernel
theorem dJ1_charAt_3b067_1 : decode cJ1_charAt_3b067 1 = .ok (.aload_n 0, 1) := by decide +kernel
theorem dJ1_charAt_3b067_2 : decode cJ1_charAt_3b067 2 = .ok (.arraylength, 1) := by decide +kernel
theorem dJ1_charAt_3b067_3 : decode cJ1_charAt_3b067 3 = .ok (.invokestatic 9, 3) := by decide +kernel
theorem dJ1_charAt_3b067_6 : decode cJ1_charAt_3b067 6 = .ok (.aload_n 0, 1) := by decide +kernel
theorem dJ1_charAt_3b067_7 : decode cJ1_charAt_3b067 7 = .ok (.iload_n 1, 1) := by decide +kernel
theorem dJ1_charAt_3b067_8 : decode cJ1_charAt_3b067 8 = .ok (.baload, 1) := by decide +kernel
theorem dJ1_charAt_3b067_9 : decode cJ1_charAt_3b067 9 = .ok (.sipush 255, 3) := by decide +kernel
theorem dJ1_charAt_3b067_12 : decode cJ1_charAt_3b067 12 = .ok (.iand, 1) := by decide +kernel
theorem dJ1_charAt_3b067_13 : decode cJ1_charAt_3b067 13 = .ok (.i2c, 1) := by decide +kernel
theorem dJ1_charAt_3b067_14 : decode cJ1_charAt_3b067 14 = .ok (.ireturn, 1) := by decide +kernel
end
section
theorem dJ2_getChar_3b067_0 : decode cJ2_getChar_3b067 0 = .ok (.getstatic 44, 3) := by decide +kernel
theorem dJ2_getChar_3b067_3 : decode cJ2_getChar_3b067 3 = .ok (.ifCond .ne 25, 3) := by decide +kernel
theorem dJ2_getChar_3b067_6 : decode cJ2_getChar_3b067 6 = .ok (.iload_n 1, 1) := by decide +kernel
theorem dJ2_getChar_3b067_7 : decode cJ2_getChar_3b067 7 = .ok (.ifCond .lt 11, 3) := by decide +kernel
theorem dJ2_getChar_3b067_10 : decode cJ2_getChar_3b067 10 = .ok (.iload_n 1, 1) := by decide +kernel
theorem dJ2_getChar_3b067_11 : decode cJ2_getChar_3b067 11 = .ok (.aload_n 0, 1) := by decide +kernel
theorem dJ2_getChar_3b067_12 : decode cJ2_getChar_3b067 12 = .ok (.invokestatic 48, 3) := by decide +kernel
theorem dJ2_getChar_3b067_15 : decode cJ2_getChar_3b067 15 = .ok (.if_icmp .lt 13, 3) := by decide +kernel
theorem dJ2_getChar_3b067_18 : decode cJ2_getChar_3b067 18 = .ok (.new 52, 3) := by decide +kernel
theorem dJ2_getChar_3b067_21 : decode cJ2_getChar_3b067 21 = .ok (.dup, 1) := by decide +kernel
theorem dJ2_getChar_3b067_22 : decode cJ2_getChar_3b067 22 = .ok (.ldc 54, 2) := by decide +kernel
theorem dJ2_getChar_3b067_24 : decode cJ2_getChar_3b067 24 = .ok (.invokespecial 56, 3) := by decide +kernel
theorem dJ2_getChar_3b067_27 : decode cJ2_getChar_3b067 27 = .ok (.athrow, 1) := by decide +kernel
theorem dJ2_getChar_3b067_28 : decode cJ2_getChar_3b067 28 = .ok (.iload_n 1, 1) := by decide +kernel
theorem dJ2_getChar_3b067_29 : decode cJ2_getChar_3b067 29 = .ok (.iconst 1, 1) := by decide +kernel
theorem dJ2_getChar_3b067_30 : decode cJ2_getChar_3b067 30 = .ok (.ishl, 1) := by decide +kernel
theorem dJ2_getChar_3b067_31 : decode cJ2_getChar_3b067 31 = .ok (.istore_n 1, 1) := by decide +kernel
theorem dJ2_getChar_3b067_32 : decode cJ2_getChar_3b067 32 = .ok (.aload_n 0, 1) := by decide +kernel
theorem dJ2_getChar_3b067_33 : decode cJ2_getChar_3b067 33 = .ok (.iload_n 1, 1) := by decide +kernel
theorem dJ2_getChar_3b067_34 : decode cJ2_getChar_3b067 34 = .ok (.iinc 1 1, 3) := by decide +kernel
theorem dJ2_getChar_3b067_37 : decode cJ2_getChar_3b067 37 = .ok (.baload, 1) := by decide +kernel
theorem dJ2_getChar_3b067_38 : decode cJ2_getChar_3b067 38 = .ok (.sipush 255, 3) := by decide +kernel
theorem dJ2_getChar_3b067_41 : decode cJ2_getChar_3b067 41 = .ok (.iand, 1) := by decide +kernel
theorem dJ2_getChar_3b067_42 : decode cJ2_getChar_3b067 42 = .ok (.getstatic 59, 3) := by decide +kernel
theorem dJ2_getChar_3b067_45 : decode cJ2_getChar_3b067 45 = .ok (.ishl, 1) := by decide +kernel
theorem dJ2_getChar_3b067_46 : decode cJ2_getChar_3b067 46 = .ok (.aload_n 0, 1) := by decide +kernel
theorem dJ2_getChar_3b067_47 : decode cJ2_getChar_3b067 47 = .ok (.iload_n 1, 1) := by decide +kernel
theorem dJ2_getChar_3b067_48 : decode cJ2_getChar_3b067 48 = .ok (.baload, 1) := by decide +kernel
theorem dJ2_getChar_3b067_49 : decode cJ2_getChar_3b067 49 = .ok (.sipush 255, 3) := by decide +kernel
theorem dJ2_getChar_3b067_52 : decode cJ2_getChar_3b067 52 = .ok (.iand, 1) := by decide +kernel
theorem dJ2_getChar_3b067_53 : decode cJ2_getChar_3b067 53 = .ok (.getstatic 63, 3) := by decide +kernel
theorem dJ2_getChar_3b067_56 : decode cJ2_getChar_3b067 56 = .ok (.ishl, 1) := by decide +kernel
theorem dJ2_getChar_3b067_57 : decode cJ2_getChar_3b067 57 = .ok (.ior, 1) := by decide +kernel
theorem dJ2_getChar_3b067_58 : decode cJ2_getChar_3b067 58 = .ok (.i2c, 1) := by decide +kernel
theorem dJ2_getChar_3b067_59 : decode cJ2_getChar_3b067 59 = .ok (.ireturn, 1) := by decide +kernel
theorem dJ2_length_9d52b_0 : decode cJ2_length_9d52b 0 = .ok (.aload_n 0, 1) := by decide +kernel
theorem dJ2_length_9d52b_1 : decode cJ2_length_9d52b 1 = .ok (.arraylength, 1) := by decide +kernel
theorem dJ2_length_9d52b_2 : decode cJ2_length_9d52b 2 = .ok (.iconst 1, 1) := by decide +kernel
theorem dJ2_length_9d52b_3 : decode cJ2_length_9d52b 3 = .ok (.ishr, 1) := by decide +kernel
theorem dJ2_length_9d52b_4 : decode cJ2_length_9d52b 4 = .ok (.ireturn, 1) := by decide +kernel
theorem dJ2_charAt_3b067_0 : decode cJ2_charAt_3b067 0 = .ok (.iload_n 1, 1) := by decide +kernel
theorem dJ2_charAt_3b067_1 : decode cJ2_charAt_3b067 1 = .ok (.aload_n 0, 1) := by decide +kernel
theorem dJ2_charAt_3b067_2 : decode cJ2_charAt_3b067 2 = .ok (.invokestatic 67, 3) := by decide +kernel
theorem dJ2_charAt_3b067_5 : decode cJ2_charAt_3b067 5 = .ok (.aload_n 0, 1) := by decide +kernel
theorem dJ2_charAt_3b067_6 : decode cJ2_charAt_3b067 6 = .ok (.iload_n 1, 1) := by decide +kernel
theorem dJ2_charAt_3b067_7 : decode cJ2_charAt_3b067 7 = .ok (.invokestatic 71, 3) := by decide +kernel
theorem dJ2_charAt_3b067_10 : decode cJ2_charAt_3b067 10 = .ok (.ireturn, 1) := by decide +kernel
theorem dJ2_checkIndex_2214a_0 : decode cJ2_checkIndex_2214a 0 = .ok (.iload_n 0, 1) := by decide +kernel
theorem dJ2_checkIndex_2214a_1 : decode cJ2_checkIndex_2214a 1 = .ok (.aload_n 1, 1) := by decide +kernel
theorem dJ2_checkIndex_2214a_2 : decode cJ2_checkIndex_2214a 2 = .ok (.invokestatic 48, 3) := by decide +kernel
theorem dJ2_checkIndex_2214a_5 : decode cJ2_checkIndex_2214a 5 = .ok (.invokestatic 414, 3) := by decide +kernel
theorem dJ2_checkIndex_2214a_8 : decode cJ2_checkIndex_2214a 8 = .ok (.return_, 1) := by decide +kernel
end
section
theorem dJ3_checkIndex_8e157_0 : decode cJ3_checkIndex_8e157 0 = .ok (.iload_n 0, 1) := by decide +kernel
theorem dJ3_checkIndex_8e157_1 : decode cJ3_checkIndex_8e157 1 = .ok (.ifCond .lt 8, 3) := by decide +kernel
theorem dJ3_checkIndex_8e157_4 : decode cJ3_checkIndex_8e157 4 = .ok (.iload_n 0, 1) := by decide +kernel
theorem dJ3_checkIndex_8e157_5 : decode cJ3_checkIndex_8e157 5 = .ok (.iload_n 1, 1) := by decide +kernel
theorem dJ3_checkIndex_8e157_6 : decode cJ3_checkIndex_8e157 6 = .ok (.if_icmp .lt 10, 3) := by decide +kernel
theorem dJ3_checkIndex_8e157_9 : decode cJ3_checkIndex_8e157 9 = .ok (.aload_n 2, 1) := by decide +kernel
theorem dJ3_checkIndex_8e157_10 : decode cJ3_checkIndex_8e157 10 = .ok (.iload_n 0, 1) := by decide +kernel
theorem dJ3_checkIndex_8e157_11 : decode cJ3_checkIndex_8e157 11 = .ok (.iload_n 1, 1) := by decide +kernel
theorem dJ3_checkIndex_8e157_12 : decode cJ3_checkIndex_8e157 12 = .ok (.invokestatic 95, 3) := by decide +kernel
theorem dJ3_checkIndex_8e157_15 : decode cJ3_checkIndex_8e157 15 = .ok (.athrow, 1) := by decide +kernel
theorem dJ3_checkIndex_8e157_16 : decode cJ3_checkIndex_8e157 16 = .ok (.iload_n 0, 1) := by decide +kernel
theorem dJ3_checkIndex_8e157_17 : decode cJ3_checkIndex_8e157 17 = .ok (.ireturn, 1) := by decide +kernel
end
section
theorem dJ6_bitCount_0f7a4_0 : decode cJ6_bitCount_0f7a4 0 = .ok (.iload_n 0, 1) := by decide +kernel
theorem dJ6_bitCount_0f7a4_1 : decode cJ6_bitCount_0f7a4 1 = .ok (.iload_n 0, 1) := by decide +kernel
theorem dJ6_bitCount_0f7a4_2 : decode cJ6_bitCount_0f7a4 2 = .ok (.iconst 1, 1) := by decide +kernel
theorem dJ6_bitCount_0f7a4_3 : decode cJ6_bitCount_0f7a4 3 = .ok (.iushr, 1) := by decide +kernel
theorem dJ6_bitCount_0f7a4_4 : decode cJ6_bitCount_0f7a4 4 = .ok (.ldc_w 265, 3) := by decide +kernel
theorem dJ6_bitCount_0f7a4_7 : decode cJ6_bitCount_0f7a4 7 = .ok (.iand, 1) := by decide +kernel
theorem dJ6_bitCount_0f7a4_8 : decode cJ6_bitCount_0f7a4 8 = .ok (.isub, 1) := by decide +kernel
theorem dJ6_bitCount_0f7a4_9 : decode cJ6_bitCount_0f7a4 9 = .ok (.istore_n 0, 1) := by decide +kernel
theorem dJ6_bitCount_0f7a4_10 : decode cJ6_bitCount_0f7a4 10 = .ok (.iload_n 0, 1) := by decide +kernel
theorem dJ6_bitCount_0f7a4_11 : decode cJ6_bitCount_0f7a4 11 = .ok (.ldc_w 266, 3) := by decide +kernel
theorem dJ6_bitCount_0f7a4_14 : decode cJ6_bitCount_0f7a4 14 = .ok (.iand, 1) := by decide +kernel
theorem dJ6_bitCount_0f7a4_15 : decode cJ6_bitCount_0f7a4 15 = .ok (.iload_n 0, 1) := by decide +kernel
theorem dJ6_bitCount_0f7a4_16 : decode cJ6_bitCount_0f7a4 16 = .ok (.iconst 2, 1) := by decide +kernel
theorem dJ6_bitCount_0f7a4_17 : decode cJ6_bitCount_0f7a4 17 = .ok (.iushr, 1) := by decide +kernel
theorem dJ6_bitCount_0f7a4_18 : decode cJ6_bitCount_0f7a4 18 = .ok (.ldc_w 266, 3) := by decide +kernel
theorem dJ6_bitCount_0f7a4_21 : decode cJ6_bitCount_0f7a4 21 = .ok (.iand, 1) := by decide +kernel
theorem dJ6_bitCount_0f7a4_22 : decode cJ6_bitCount_0f7a4 22 = .ok (.iadd, 1) := by decide +kernel
theorem dJ6_bitCount_0f7a4_23 : decode cJ6_bitCount_0f7a4 23 = .ok (.istore_n 0, 1) := by decide +kernel
theorem dJ6_bitCount_0f7a4_24 : decode cJ6_bitCount_0f7a4 24 = .ok (.iload_n 0, 1) := by decide +kernel
theorem dJ6_bitCount_0f7a4_25 : decode cJ6_bitCount_0f7a4 25 = .ok (.iload_n 0, 1) := by decide +kernel
theorem dJ6_bitCount_0f7a4_26 : decode cJ6_bitCount_0f7a4 26 = .ok (.iconst 4, 1) := by decide +kernel
theorem dJ6_bitCount_0f7a4_27 : decode cJ6_bitCount_0f7a4 27 = .ok (.iushr, 1) := by decide +kernel
theorem dJ6_bitCount_0f7a4_28 : decode cJ6_bitCount_0f7a4 28 = .ok (.iadd, 1) := by decide +kernel
theorem dJ6_bitCount_0f7a4_29 : decode cJ6_bitCount_0f7a4 29 = .ok (.ldc_w 267, 3) := by decide +kernel
theorem dJ6_bitCount_0f7a4_32 : decode cJ6_bitCount_0f7a4 32 = .ok (.iand, 1) := by decide +kernel
theorem dJ6_bitCount_0f7a4_33 : decode cJ6_bitCount_0f7a4 33 = .ok (.istore_n 0, 1) := by decide +kernel
theorem dJ6_bitCount_0f7a4_34 : decode cJ6_bitCount_0f7a4 34 = .ok (.iload_n 0, 1) := by decide +kernel
theorem dJ6_bitCount_0f7a4_35 : decode cJ6_bitCount_0f7a4 35 = .ok (.iload_n 0, 1) := by decide +kernel
theorem dJ6_bitCount_0f7a4_36 : decode cJ6_bitCount_0f7a4 36 = .ok (.bipush 8, 2) := by decide +kernel
theorem dJ6_bitCount_0f7a4_38 : decode cJ6_bitCount_0f7a4 38 = .ok (.iushr, 1) := by decide +kernel
theorem dJ6_bitCount_0f7a4_39 : decode cJ6_bitCount_0f7a4 39 = .ok (.iadd, 1) := by decide +kernel
theorem dJ6_bitCount_0f7a4_40 : decode cJ6_bitCount_0f7a4 40 = .ok (.istore_n 0, 1) := by decide +kernel
theorem dJ6_bitCount_0f7a4_41 : decode cJ6_bitCount_0f7a4 41 = .ok (.iload_n 0, 1) := by decide +kernel
theorem dJ6_bitCount_0f7a4_42 : decode cJ6_bitCount_0f7a4 42 = .ok (.iload_n 0, 1) := by decide +kernel
theorem dJ6_bitCount_0f7a4_43 : decode cJ6_bitCount_0f7a4 43 = .ok (.bipush 16, 2) := by decide +kernel
theorem dJ6_bitCount_0f7a4_45 : decode cJ6_bitCount_0f7a4 45 = .ok (.iushr, 1) := by decide +kernel
theorem dJ6_bitCount_0f7a4_46 : decode cJ6_bitCount_0f7a4 46 = .ok (.iadd, 1) := by decide +kernel
theorem dJ6_bitCount_0f7a4_47 : decode cJ6_bitCount_0f7a4 47 = .ok (.istore_n 0, 1) := by decide +kernel
theorem dJ6_bitCount_0f7a4_48 : decode cJ6_bitCount_0f7a4 48 = .ok (.iload_n 0, 1) := by decide +kernel
theorem dJ6_bitCount_0f7a4_49 : decode cJ6_bitCount_0f7a4 49 = .ok (.bipush 63, 2) := by decide +kernel
theorem dJ6_bitCount_0f7a4_51 : decode cJ6_bitCount_0f7a4 51 = .ok (.iand, 1) := by decide +kernel
theorem dJ6_bitCount_0f7a4_52 : decode cJ6_bitCount_0f7a4 52 = .ok (.ireturn, 1) := by decide +kernel
end
section
theorem dJ9_max_7cf53_0 : decode cJ9_max_7cf53 0 = .ok (.iload_n 0, 1) := by decide +kernel
theorem dJ9_max_7cf53_1 : decode cJ9_max_7cf53 1 = .ok (.iload_n 1, 1) := by decide +kernel
theorem dJ9_max_7cf53_2 : decode cJ9_max_7cf53 2 = .ok (.if_icmp .lt 7, 3) := by decide +kernel
theorem dJ9_max_7cf53_5 : decode cJ9_max_7cf53 5 = .ok (.iload_n 0, 1) := by decide +kernel
theorem dJ9_max_7cf53_6 : decode cJ9_max_7cf53 6 = .ok (.goto 4, 3) := by decide +kernel
theorem dJ9_max_7cf53_9 : decode cJ9_max_7cf53 9 = .ok (.iload_n 1, 1) := by decide +kernel
theorem dJ9_max_7cf53_10 : decode cJ9_max_7cf53 10 = .ok (.ireturn, 1) := by decide +kernel
theorem dJ9_max_f86c9_0 : decode cJ9_max_f86c9 0 = .ok (.lload_n 0, 1) := by decide +kernel
theorem dJ9_max_f86c9_1 : decode cJ9_max_f86c9 1 = .ok (.lload_n 2, 1) := by decide +kernel
theorem dJ9_max_f86c9_2 : decode cJ9_max_f86c9 2 = .ok (.lcmp, 1) := by decide +kernel
theorem dJ9_max_f86c9_3 : decode cJ9_max_f86c9 3 = .ok (.ifCond .lt 7, 3) := by decide +kernel
theorem dJ9_max_f86c9_6 : decode cJ9_max_f86c9 6 = .ok (.lload_n 0, 1) := by decide +kernel
theorem dJ9_max_f86c9_7 : decode cJ9_max_f86c9 7 = .ok (.goto 4, 3) := by decide +kernel
theorem dJ9_max_f86c9_10 : decode cJ9_max_f86c9 10 = .ok (.lload_n 2, 1) := by decide +kernel
theorem dJ9_max_f86c9_11 : decode cJ9_max_f86c9 11 = .ok (.lreturn, 1) := by decide +kernel
theorem dJ9_min_7cf53_0 : decode cJ9_min_7cf53 0 = .ok (.iload_n 0, 1) := by decide +kernel
theorem dJ9_min_7cf53_1 : decode cJ9_min_7cf53 1 = .ok (.iload_n 1, 1) := by decide +kernel
theorem dJ9_min_7cf53_2 : decode cJ9_min_7cf53 2 = .ok (.if_icmp .gt 7, 3) := by decide +kernel
theorem dJ9_min_7cf53_5 : decode cJ9_min_7cf53 5 = .ok (.iload_n 0, 1) := by decide +kernel
theorem dJ9_min_7cf53_6 : decode cJ9_min_7cf53 6 = .ok (.goto 4, 3) := by decide +kernel
theorem dJ9_min_7cf53_9 : decode cJ9_min_7cf53 9 = .ok (.iload_n 1, 1) := by decide +kernel
theorem dJ9_min_7cf53_10 : decode cJ9_min_7cf53 10 = .ok (.ireturn, 1) := by decide +kernel
end
section
theorem dL_law_0 : decode cL_law 0 = .ok (.new 7, 3) := by decide +kernel
theorem dL_law_3 : decode cL_law 3 = .ok (.dup, 1) := by decide +kernel
theorem dL_law_4 : decode cL_law 4 = .ok (.invokespecial 9, 3) := by decide +kernel
theorem dL_law_7 : decode cL_law 7 = .ok (.astore_n 1, 1) := by decide +kernel
theorem dL_law_8 : decode cL_law 8 = .ok (.new 10, 3) := by decide +kernel
theorem dL_law_11 : decode cL_law 11 = .ok (.dup, 1) := by decide +kernel
theorem dL_law_12 : decode cL_law 12 = .ok (.invokespecial 12, 3) := by decide +kernel
theorem dL_law_15 : decode cL_law 15 = .ok (.astore_n 2, 1) := by decide +kernel
theorem dL_law_16 : decode cL_law 16 = .ok (.iconst 0, 1) := by decide +kernel
theorem dL_law_17 : decode cL_law 17 = .ok (.istore_n 3, 1) := by decide +kernel
theorem dL_law_18 : decode cL_law 18 = .ok (.iload_n 3, 1) := by decide +kernel
theorem dL_law_19 : decode cL_law 19 = .ok (.aload_n 0, 1) := by decide +kernel
theorem dL_law_20 : decode cL_law 20 = .ok (.arraylength, 1) := by decide +kernel
theorem dL_law_21 : decode cL_law 21 = .ok (.bipush 6, 2) := by decide +kernel
theorem dL_law_23 : decode cL_law 23 = .ok (.isub, 1) := by decide +kernel
theorem dL_law_24 : decode cL_law 24 = .ok (.if_icmp .gt 976, 3) := by decide +kernel
theorem dL_law_27 : decode cL_law 27 = .ok (.aload_n 0, 1) := by decide +kernel
theorem dL_law_28 : decode cL_law 28 = .ok (.iload_n 3, 1) := by decide +kernel
theorem dL_law_29 : decode cL_law 29 = .ok (.iaload, 1) := by decide +kernel
theorem dL_law_30 : decode cL_law 30 = .ok (.bipush 31, 2) := by decide +kernel
theorem dL_law_32 : decode cL_law 32 = .ok (.iand, 1) := by decide +kernel
theorem dL_law_33 : decode cL_law 33 = .ok (.tableswitch 961 0 27 #[127, 150, 163, 176, 189, 222, 255, 288, 321, 344, 377, 430, 473, 506, 519, 562, 585, 618, 631, 674, 717, 730, 763, 806, 869, 912, 925, 938], 127) := by decide +kernel
theorem dL_law_160 : decode cL_law 160 = .ok (.aload_n 1, 1) := by decide +kernel
theorem dL_law_161 : decode cL_law 161 = .ok (.aload_n 0, 1) := by decide +kernel
theorem dL_law_162 : decode cL_law 162 = .ok (.iload_n 3, 1) := by decide +kernel
theorem dL_law_163 : decode cL_law 163 = .ok (.iconst 1, 1) := by decide +kernel
theorem dL_law_164 : decode cL_law 164 = .ok (.iadd, 1) := by decide +kernel
theorem dL_law_165 : decode cL_law 165 = .ok (.iaload, 1) := by decide +kernel
theorem dL_law_166 : decode cL_law 166 = .ok (.invokevirtual 13, 3) := by decide +kernel
theorem dL_law_169 : decode cL_law 169 = .ok (.aload_n 2, 1) := by decide +kernel
theorem dL_law_170 : decode cL_law 170 = .ok (.aload_n 0, 1) := by decide +kernel
theorem dL_law_171 : decode cL_law 171 = .ok (.iload_n 3, 1) := by decide +kernel
theorem dL_law_172 : decode cL_law 172 = .ok (.iconst 1, 1) := by decide +kernel
theorem dL_law_173 : decode cL_law 173 = .ok (.iadd, 1) := by decide +kernel
theorem dL_law_174 : decode cL_law 174 = .ok (.iaload, 1) := by decide +kernel
theorem dL_law_175 : decode cL_law 175 = .ok (.invokevirtual 17, 3) := by decide +kernel
theorem dL_law_178 : decode cL_law 178 = .ok (.if_icmp .eq 816, 3) := by decide +kernel
theorem dL_law_181 : decode cL_law 181 = .ok (.iconst 0, 1) := by decide +kernel
theorem dL_law_182 : decode cL_law 182 = .ok (.ireturn, 1) := by decide +kernel
theorem dL_law_183 : decode cL_law 183 = .ok (.aload_n 1, 1) := by decide +kernel
theorem dL_law_184 : decode cL_law 184 = .ok (.invokevirtual 18, 3) := by decide +kernel
theorem dL_law_187 : decode cL_law 187 = .ok (.aload_n 2, 1) := by decide +kernel
theorem dL_law_188 : decode cL_law 188 = .ok (.invokevirtual 22, 3) := by decide +kernel
theorem dL_law_191 : decode cL_law 191 = .ok (.if_icmp .eq 803, 3) := by decide +kernel
theorem dL_law_194 : decode cL_law 194 = .ok (.iconst 0, 1) := by decide +kernel
theorem dL_law_195 : decode cL_law 195 = .ok (.ireturn, 1) := by decide +kernel
theorem dL_law_196 : decode cL_law 196 = .ok (.aload_n 1, 1) := by decide +kernel
theorem dL_law_197 : decode cL_law 197 = .ok (.invokevirtual 23, 3) := by decide +kernel
theorem dL_law_200 : decode cL_law 200 = .ok (.aload_n 2, 1) := by decide +kernel
theorem dL_law_201 : decode cL_law 201 = .ok (.invokevirtual 26, 3) := by decide +kernel
theorem dL_law_204 : decode cL_law 204 = .ok (.if_icmp .eq 790, 3) := by decide +kernel
theorem dL_law_207 : decode cL_law 207 = .ok (.iconst 0, 1) := by decide +kernel
theorem dL_law_208 : decode cL_law 208 = .ok (.ireturn, 1) := by decide +kernel
theorem dL_law_209 : decode cL_law 209 = .ok (.aload_n 1, 1) := by decide +kernel
theorem dL_law_210 : decode cL_law 210 = .ok (.invokevirtual 27, 3) := by decide +kernel
theorem dL_law_213 : decode cL_law 213 = .ok (.aload_n 2, 1) := by decide +kernel
theorem dL_law_214 : decode cL_law 214 = .ok (.invokevirtual 30, 3) := by decide +kernel
theorem dL_law_217 : decode cL_law 217 = .ok (.if_icmp .eq 777, 3) := by decide +kernel
theorem dL_law_220 : decode cL_law 220 = .ok (.iconst 0, 1) := by decide +kernel
theorem dL_law_221 : decode cL_law 221 = .ok (.ireturn, 1) := by decide +kernel
theorem dL_law_222 : decode cL_law 222 = .ok (.aload_n 1, 1) := by decide +kernel
theorem dL_law_223 : decode cL_law 223 = .ok (.aload_n 0, 1) := by decide +kernel
theorem dL_law_224 : decode cL_law 224 = .ok (.iload_n 3, 1) := by decide +kernel
theorem dL_law_225 : decode cL_law 225 = .ok (.iconst 1, 1) := by decide +kernel
theorem dL_law_226 : decode cL_law 226 = .ok (.iadd, 1) := by decide +kernel
theorem dL_law_227 : decode cL_law 227 = .ok (.iaload, 1) := by decide +kernel
theorem dL_law_228 : decode cL_law 228 = .ok (.aload_n 0, 1) := by decide +kernel
theorem dL_law_229 : decode cL_law 229 = .ok (.iload_n 3, 1) := by decide +kernel
theorem dL_law_230 : decode cL_law 230 = .ok (.iconst 2, 1) := by decide +kernel
theorem dL_law_231 : decode cL_law 231 = .ok (.iadd, 1) := by decide +kernel
theorem dL_law_232 : decode cL_law 232 = .ok (.iaload, 1) := by decide +kernel
theorem dL_law_233 : decode cL_law 233 = .ok (.invokevirtual 31, 3) := by decide +kernel
theorem dL_law_236 : decode cL_law 236 = .ok (.aload_n 2, 1) := by decide +kernel
theorem dL_law_237 : decode cL_law 237 = .ok (.aload_n 0, 1) := by decide +kernel
theorem dL_law_238 : decode cL_law 238 = .ok (.iload_n 3, 1) := by decide +kernel
theorem dL_law_239 : decode cL_law 239 = .ok (.iconst 1, 1) := by decide +kernel
theorem dL_law_240 : decode cL_law 240 = .ok (.iadd, 1) := by decide +kernel
theorem dL_law_241 : decode cL_law 241 = .ok (.iaload, 1) := by decide +kernel
theorem dL_law_242 : decode cL_law 242 = .ok (.aload_n 0, 1) := by decide +kernel
theorem dL_law_243 : decode cL_law 243 = .ok (.iload_n 3, 1) := by decide +kernel
theorem dL_law_244 : decode cL_law 244 = .ok (.iconst 2, 1) := by decide +kernel
theorem dL_law_245 : decode cL_law 245 = .ok (.iadd, 1) := by decide +kernel
theorem dL_law_246 : decode cL_law 246 = .ok (.iaload, 1) := by decide +kernel
theorem dL_law_247 : decode cL_law 247 = .ok (.invokevirtual 35, 3) := by decide +kernel
theorem dL_law_250 : decode cL_law 250 = .ok (.if_icmp .eq 744, 3) := by decide +kernel
theorem dL_law_253 : decode cL_law 253 = .ok (.iconst 0, 1) := by decide +kernel
theorem dL_law_254 : decode cL_law 254 = .ok (.ireturn, 1) := by decide +kernel
theorem dL_law_255 : decode cL_law 255 = .ok (.aload_n 1, 1) := by decide +kernel
theorem dL_law_256 : decode cL_law 256 = .ok (.aload_n 0, 1) := by decide +kernel
theorem dL_law_257 : decode cL_law 257 = .ok (.iload_n 3, 1) := by decide +kernel
theorem dL_law_258 : decode cL_law 258 = .ok (.iconst 1, 1) := by decide +kernel
theorem dL_law_259 : decode cL_law 259 = .ok (.iadd, 1) := by decide +kernel
theorem dL_law_260 : decode cL_law 260 = .ok (.iaload, 1) := by decide +kernel
theorem dL_law_261 : decode cL_law 261 = .ok (.aload_n 0, 1) := by decide +kernel
theorem dL_law_262 : decode cL_law 262 = .ok (.iload_n 3, 1) := by decide +kernel
theorem dL_law_263 : decode cL_law 263 = .ok (.iconst 2, 1) := by decide +kernel
theorem dL_law_264 : decode cL_law 264 = .ok (.iadd, 1) := by decide +kernel
theorem dL_law_265 : decode cL_law 265 = .ok (.iaload, 1) := by decide +kernel
theorem dL_law_266 : decode cL_law 266 = .ok (.invokevirtual 36, 3) := by decide +kernel
theorem dL_law_269 : decode cL_law 269 = .ok (.aload_n 2, 1) := by decide +kernel
theorem dL_law_270 : decode cL_law 270 = .ok (.aload_n 0, 1) := by decide +kernel
theorem dL_law_271 : decode cL_law 271 = .ok (.iload_n 3, 1) := by decide +kernel
theorem dL_law_272 : decode cL_law 272 = .ok (.iconst 1, 1) := by decide +kernel
theorem dL_law_273 : decode cL_law 273 = .ok (.iadd, 1) := by decide +kernel
theorem dL_law_274 : decode cL_law 274 = .ok (.iaload, 1) := by decide +kernel
theorem dL_law_275 : decode cL_law 275 = .ok (.aload_n 0, 1) := by decide +kernel
theorem dL_law_276 : decode cL_law 276 = .ok (.iload_n 3, 1) := by decide +kernel
theorem dL_law_277 : decode cL_law 277 = .ok (.iconst 2, 1) := by decide +kernel
theorem dL_law_278 : decode cL_law 278 = .ok (.iadd, 1) := by decide +kernel
theorem dL_law_279 : decode cL_law 279 = .ok (.iaload, 1) := by decide +kernel
theorem dL_law_280 : decode cL_law 280 = .ok (.invokevirtual 39, 3) := by decide +kernel
theorem dL_law_283 : decode cL_law 283 = .ok (.if_icmp .eq 711, 3) := by decide +kernel
theorem dL_law_286 : decode cL_law 286 = .ok (.iconst 0, 1) := by decide +kernel
theorem dL_law_287 : decode cL_law 287 = .ok (.ireturn, 1) := by decide +kernel
theorem dL_law_288 : decode cL_law 288 = .ok (.aload_n 1, 1) := by decide +kernel
theorem dL_law_289 : decode cL_law 289 = .ok (.aload_n 0, 1) := by decide +kernel
theorem dL_law_290 : decode cL_law 290 = .ok (.iload_n 3, 1) := by decide +kernel
theorem dL_law_291 : decode cL_law 291 = .ok (.iconst 1, 1) := by decide +kernel
theorem dL_law_292 : decode cL_law 292 = .ok (.iadd, 1) := by decide +kernel
theorem dL_law_293 : decode cL_law 293 = .ok (.iaload, 1) := by decide +kernel
theorem dL_law_294 : decode cL_law 294 = .ok (.aload_n 0, 1) := by decide +kernel
theorem dL_law_295 : decode cL_law 295 = .ok (.iload_n 3, 1) := by decide +kernel
theorem dL_law_296 : decode cL_law 296 = .ok (.iconst 2, 1) := by decide +kernel
theorem dL_law_297 : decode cL_law 297 = .ok (.iadd, 1) := by decide +kernel
theorem dL_law_298 : decode cL_law 298 = .ok (.iaload, 1) := by decide +kernel
theorem dL_law_299 : decode cL_law 299 = .ok (.invokevirtual 40, 3) := by decide +kernel
theorem dL_law_302 : decode cL_law 302 = .ok (.aload_n 2, 1) := by decide +kernel
theorem dL_law_303 : decode cL_law 303 = .ok (.aload_n 0, 1) := by decide +kernel
theorem dL_law_304 : decode cL_law 304 = .ok (.iload_n 3, 1) := by decide +kernel
theorem dL_law_305 : decode cL_law 305 = .ok (.iconst 1, 1) := by decide +kernel
theorem dL_law_306 : decode cL_law 306 = .ok (.iadd, 1) := by decide +kernel
theorem dL_law_307 : decode cL_law 307 = .ok (.iaload, 1) := by decide +kernel
theorem dL_law_308 : decode cL_law 308 = .ok (.aload_n 0, 1) := by decide +kernel
theorem dL_law_309 : decode cL_law 309 = .ok (.iload_n 3, 1) := by decide +kernel
theorem dL_law_310 : decode cL_law 310 = .ok (.iconst 2, 1) := by decide +kernel
theorem dL_law_311 : decode cL_law 311 = .ok (.iadd, 1) := by decide +kernel
theorem dL_law_312 : decode cL_law 312 = .ok (.iaload, 1) := by decide +kernel
theorem dL_law_313 : decode cL_law 313 = .ok (.invokevirtual 43, 3) := by decide +kernel
theorem dL_law_316 : decode cL_law 316 = .ok (.if_icmp .eq 678, 3) := by decide +kernel
theorem dL_law_319 : decode cL_law 319 = .ok (.iconst 0, 1) := by decide +kernel
theorem dL_law_320 : decode cL_law 320 = .ok (.ireturn, 1) := by decide +kernel
theorem dL_law_321 : decode cL_law 321 = .ok (.aload_n 1, 1) := by decide +kernel
theorem dL_law_322 : decode cL_law 322 = .ok (.aload_n 0, 1) := by decide +kernel
theorem dL_law_323 : decode cL_law 323 = .ok (.iload_n 3, 1) := by decide +kernel
theorem dL_law_324 : decode cL_law 324 = .ok (.iconst 1, 1) := by decide +kernel
theorem dL_law_325 : decode cL_law 325 = .ok (.iadd, 1) := by decide +kernel
theorem dL_law_326 : decode cL_law 326 = .ok (.iaload, 1) := by decide +kernel
theorem dL_law_327 : decode cL_law 327 = .ok (.aload_n 0, 1) := by decide +kernel
theorem dL_law_328 : decode cL_law 328 = .ok (.iload_n 3, 1) := by decide +kernel
theorem dL_law_329 : decode cL_law 329 = .ok (.iconst 2, 1) := by decide +kernel
theorem dL_law_330 : decode cL_law 330 = .ok (.iadd, 1) := by decide +kernel
theorem dL_law_331 : decode cL_law 331 = .ok (.iaload, 1) := by decide +kernel
theorem dL_law_332 : decode cL_law 332 = .ok (.invokevirtual 44, 3) := by decide +kernel
theorem dL_law_335 : decode cL_law 335 = .ok (.aload_n 2, 1) := by decide +kernel
theorem dL_law_336 : decode cL_law 336 = .ok (.aload_n 0, 1) := by decide +kernel
theorem dL_law_337 : decode cL_law 337 = .ok (.iload_n 3, 1) := by decide +kernel
theorem dL_law_338 : decode cL_law 338 = .ok (.iconst 1, 1) := by decide +kernel
theorem dL_law_339 : decode cL_law 339 = .ok (.iadd, 1) := by decide +kernel
theorem dL_law_340 : decode cL_law 340 = .ok (.iaload, 1) := by decide +kernel
theorem dL_law_341 : decode cL_law 341 = .ok (.aload_n 0, 1) := by decide +kernel
theorem dL_law_342 : decode cL_law 342 = .ok (.iload_n 3, 1) := by decide +kernel
theorem dL_law_343 : decode cL_law 343 = .ok (.iconst 2, 1) := by decide +kernel
theorem dL_law_344 : decode cL_law 344 = .ok (.iadd, 1) := by decide +kernel
theorem dL_law_345 : decode cL_law 345 = .ok (.iaload, 1) := by decide +kernel
theorem dL_law_346 : decode cL_law 346 = .ok (.invokevirtual 47, 3) := by decide +kernel
theorem dL_law_349 : decode cL_law 349 = .ok (.if_icmp .eq 645, 3) := by decide +kernel
theorem dL_law_352 : decode cL_law 352 = .ok (.iconst 0, 1) := by decide +kernel
theorem dL_law_353 : decode cL_law 353 = .ok (.ireturn, 1) := by decide +kernel
theorem dL_law_354 : decode cL_law 354 = .ok (.aload_n 1, 1) := by decide +kernel
theorem dL_law_355 : decode cL_law 355 = .ok (.aload_n 0, 1) := by decide +kernel
theorem dL_law_356 : decode cL_law 356 = .ok (.iload_n 3, 1) := by decide +kernel
theorem dL_law_357 : decode cL_law 357 = .ok (.iconst 1, 1) := by decide +kernel
theorem dL_law_358 : decode cL_law 358 = .ok (.iadd, 1) := by decide +kernel
theorem dL_law_359 : decode cL_law 359 = .ok (.iaload, 1) := by decide +kernel
theorem dL_law_360 : decode cL_law 360 = .ok (.invokevirtual 48, 3) := by decide +kernel
theorem dL_law_363 : decode cL_law 363 = .ok (.aload_n 2, 1) := by decide +kernel
theorem dL_law_364 : decode cL_law 364 = .ok (.aload_n 0, 1) := by decide +kernel
theorem dL_law_365 : decode cL_law 365 = .ok (.iload_n 3, 1) := by decide +kernel
theorem dL_law_366 : decode cL_law 366 = .ok (.iconst 1, 1) := by decide +kernel
theorem dL_law_367 : decode cL_law 367 = .ok (.iadd, 1) := by decide +kernel
theorem dL_law_368 : decode cL_law 368 = .ok (.iaload, 1) := by decide +kernel
theorem dL_law_369 : decode cL_law 369 = .ok (.invokevirtual 51, 3) := by decide +kernel
theorem dL_law_372 : decode cL_law 372 = .ok (.if_icmp .eq 622, 3) := by decide +kernel
theorem dL_law_375 : decode cL_law 375 = .ok (.iconst 0, 1) := by decide +kernel
theorem dL_law_376 : decode cL_law 376 = .ok (.ireturn, 1) := by decide +kernel
theorem dL_law_377 : decode cL_law 377 = .ok (.aload_n 1, 1) := by decide +kernel
theorem dL_law_378 : decode cL_law 378 = .ok (.aload_n 0, 1) := by decide +kernel
theorem dL_law_379 : decode cL_law 379 = .ok (.iload_n 3, 1) := by decide +kernel
theorem dL_law_380 : decode cL_law 380 = .ok (.iconst 1, 1) := by decide +kernel
theorem dL_law_381 : decode cL_law 381 = .ok (.iadd, 1) := by decide +kernel
theorem dL_law_382 : decode cL_law 382 = .ok (.iaload, 1) := by decide +kernel
theorem dL_law_383 : decode cL_law 383 = .ok (.aload_n 0, 1) := by decide +kernel
theorem dL_law_384 : decode cL_law 384 = .ok (.iload_n 3, 1) := by decide +kernel
theorem dL_law_385 : decode cL_law 385 = .ok (.iconst 2, 1) := by decide +kernel
theorem dL_law_386 : decode cL_law 386 = .ok (.iadd, 1) := by decide +kernel
theorem dL_law_387 : decode cL_law 387 = .ok (.iaload, 1) := by decide +kernel
theorem dL_law_388 : decode cL_law 388 = .ok (.invokevirtual 52, 3) := by decide +kernel
theorem dL_law_391 : decode cL_law 391 = .ok (.aload_n 2, 1) := by decide +kernel
theorem dL_law_392 : decode cL_law 392 = .ok (.aload_n 0, 1) := by decide +kernel
theorem dL_law_393 : decode cL_law 393 = .ok (.iload_n 3, 1) := by decide +kernel
theorem dL_law_394 : decode cL_law 394 = .ok (.iconst 1, 1) := by decide +kernel
theorem dL_law_395 : decode cL_law 395 = .ok (.iadd, 1) := by decide +kernel
theorem dL_law_396 : decode cL_law 396 = .ok (.iaload, 1) := by decide +kernel
theorem dL_law_397 : decode cL_law 397 = .ok (.aload_n 0, 1) := by decide +kernel
theorem dL_law_398 : decode cL_law 398 = .ok (.iload_n 3, 1) := by decide +kernel
theorem dL_law_399 : decode cL_law 399 = .ok (.iconst 2, 1) := by decide +kernel
theorem dL_law_400 : decode cL_law 400 = .ok (.iadd, 1) := by decide +kernel
theorem dL_law_401 : decode cL_law 401 = .ok (.iaload, 1) := by decide +kernel
theorem dL_law_402 : decode cL_law 402 = .ok (.invokevirtual 55, 3) := by decide +kernel
theorem dL_law_405 : decode cL_law 405 = .ok (.if_icmp .eq 589, 3) := by decide +kernel
theorem dL_law_408 : decode cL_law 408 = .ok (.iconst 0, 1) := by decide +kernel
theorem dL_law_409 : decode cL_law 409 = .ok (.ireturn, 1) := by decide +kernel
theorem dL_law_410 : decode cL_law 410 = .ok (.aload_n 1, 1) := by decide +kernel
theorem dL_law_411 : decode cL_law 411 = .ok (.aload_n 0, 1) := by decide +kernel
theorem dL_law_412 : decode cL_law 412 = .ok (.iload_n 3, 1) := by decide +kernel
theorem dL_law_413 : decode cL_law 413 = .ok (.iconst 1, 1) := by decide +kernel
theorem dL_law_414 : decode cL_law 414 = .ok (.iadd, 1) := by decide +kernel
theorem dL_law_415 : decode cL_law 415 = .ok (.iaload, 1) := by decide +kernel
theorem dL_law_416 : decode cL_law 416 = .ok (.aload_n 0, 1) := by decide +kernel
theorem dL_law_417 : decode cL_law 417 = .ok (.iload_n 3, 1) := by decide +kernel
theorem dL_law_418 : decode cL_law 418 = .ok (.iconst 2, 1) := by decide +kernel
theorem dL_law_419 : decode cL_law 419 = .ok (.iadd, 1) := by decide +kernel
theorem dL_law_420 : decode cL_law 420 = .ok (.iaload, 1) := by decide +kernel
theorem dL_law_421 : decode cL_law 421 = .ok (.aload_n 0, 1) := by decide +kernel
theorem dL_law_422 : decode cL_law 422 = .ok (.iload_n 3, 1) := by decide +kernel
theorem dL_law_423 : decode cL_law 423 = .ok (.iconst 3, 1) := by decide +kernel
theorem dL_law_424 : decode cL_law 424 = .ok (.iadd, 1) := by decide +kernel
theorem dL_law_425 : decode cL_law 425 = .ok (.iaload, 1) := by decide +kernel
theorem dL_law_426 : decode cL_law 426 = .ok (.aload_n 0, 1) := by decide +kernel
theorem dL_law_427 : decode cL_law 427 = .ok (.iload_n 3, 1) := by decide +kernel
theorem dL_law_428 : decode cL_law 428 = .ok (.iconst 4, 1) := by decide +kernel
theorem dL_law_429 : decode cL_law 429 = .ok (.iadd, 1) := by decide +kernel
theorem dL_law_430 : decode cL_law 430 = .ok (.iaload, 1) := by decide +kernel
theorem dL_law_431 : decode cL_law 431 = .ok (.invokevirtual 56, 3) := by decide +kernel
theorem dL_law_434 : decode cL_law 434 = .ok (.aload_n 2, 1) := by decide +kernel
theorem dL_law_435 : decode cL_law 435 = .ok (.aload_n 0, 1) := by decide +kernel
theorem dL_law_436 : decode cL_law 436 = .ok (.iload_n 3, 1) := by decide +kernel
theorem dL_law_437 : decode cL_law 437 = .ok (.iconst 1, 1) := by decide +kernel
theorem dL_law_438 : decode cL_law 438 = .ok (.iadd, 1) := by decide +kernel
theorem dL_law_439 : decode cL_law 439 = .ok (.iaload, 1) := by decide +kernel
theorem dL_law_440 : decode cL_law 440 = .ok (.aload_n 0, 1) := by decide +kernel
theorem dL_law_441 : decode cL_law 441 = .ok (.iload_n 3, 1) := by decide +kernel
theorem dL_law_442 : decode cL_law 442 = .ok (.iconst 2, 1) := by decide +kernel
theorem dL_law_443 : decode cL_law 443 = .ok (.iadd, 1) := by decide +kernel
theorem dL_law_444 : decode cL_law 444 = .ok (.iaload, 1) := by decide +kernel
theorem dL_law_445 : decode cL_law 445 = .ok (.aload_n 0, 1) := by decide +kernel
theorem dL_law_446 : decode cL_law 446 = .ok (.iload_n 3, 1) := by decide +kernel
theorem dL_law_447 : decode cL_law 447 = .ok (.iconst 3, 1) := by decide +kernel
theorem dL_law_448 : decode cL_law 448 = .ok (.iadd, 1) := by decide +kernel
theorem dL_law_449 : decode cL_law 449 = .ok (.iaload, 1) := by decide +kernel
theorem dL_law_450 : decode cL_law 450 = .ok (.aload_n 0, 1) := by decide +kernel
theorem dL_law_451 : decode cL_law 451 = .ok (.iload_n 3, 1) := by decide +kernel
theorem dL_law_452 : decode cL_law 452 = .ok (.iconst 4, 1) := by decide +kernel
theorem dL_law_453 : decode cL_law 453 = .ok (.iadd, 1) := by decide +kernel
theorem dL_law_454 : decode cL_law 454 = .ok (.iaload, 1) := by decide +kernel
theorem dL_law_455 : decode cL_law 455 = .ok (.invokevirtual 60, 3) := by decide +kernel
theorem dL_law_458 : decode cL_law 458 = .ok (.if_icmp .eq 536, 3) := by decide +kernel
theorem dL_law_461 : decode cL_law 461 = .ok (.iconst 0, 1) := by decide +kernel
theorem dL_law_462 : decode cL_law 462 = .ok (.ireturn, 1) := by decide +kernel
theorem dL_law_463 : decode cL_law 463 = .ok (.aload_n 1, 1) := by decide +kernel
theorem dL_law_464 : decode cL_law 464 = .ok (.aload_n 0, 1) := by decide +kernel
theorem dL_law_465 : decode cL_law 465 = .ok (.iload_n 3, 1) := by decide +kernel
theorem dL_law_466 : decode cL_law 466 = .ok (.iconst 1, 1) := by decide +kernel
theorem dL_law_467 : decode cL_law 467 = .ok (.iadd, 1) := by decide +kernel
theorem dL_law_468 : decode cL_law 468 = .ok (.iaload, 1) := by decide +kernel
theorem dL_law_469 : decode cL_law 469 = .ok (.aload_n 0, 1) := by decide +kernel
theorem dL_law_470 : decode cL_law 470 = .ok (.iload_n 3, 1) := by decide +kernel
theorem dL_law_471 : decode cL_law 471 = .ok (.iconst 2, 1) := by decide +kernel
theorem dL_law_472 : decode cL_law 472 = .ok (.iadd, 1) := by decide +kernel
theorem dL_law_473 : decode cL_law 473 = .ok (.iaload, 1) := by decide +kernel
theorem dL_law_474 : decode cL_law 474 = .ok (.aload_n 0, 1) := by decide +kernel
theorem dL_law_475 : decode cL_law 475 = .ok (.iload_n 3, 1) := by decide +kernel
theorem dL_law_476 : decode cL_law 476 = .ok (.iconst 3, 1) := by decide +kernel
theorem dL_law_477 : decode cL_law 477 = .ok (.iadd, 1) := by decide +kernel
theorem dL_law_478 : decode cL_law 478 = .ok (.iaload, 1) := by decide +kernel
theorem dL_law_479 : decode cL_law 479 = .ok (.invokevirtual 61, 3) := by decide +kernel
theorem dL_law_482 : decode cL_law 482 = .ok (.aload_n 2, 1) := by decide +kernel
theorem dL_law_483 : decode cL_law 483 = .ok (.aload_n 0, 1) := by decide +kernel
theorem dL_law_484 : decode cL_law 484 = .ok (.iload_n 3, 1) := by decide +kernel
theorem dL_law_485 : decode cL_law 485 = .ok (.iconst 1, 1) := by decide +kernel
theorem dL_law_486 : decode cL_law 486 = .ok (.iadd, 1) := by decide +kernel
theorem dL_law_487 : decode cL_law 487 = .ok (.iaload, 1) := by decide +kernel
theorem dL_law_488 : decode cL_law 488 = .ok (.aload_n 0, 1) := by decide +kernel
theorem dL_law_489 : decode cL_law 489 = .ok (.iload_n 3, 1) := by decide +kernel
theorem dL_law_490 : decode cL_law 490 = .ok (.iconst 2, 1) := by decide +kernel
theorem dL_law_491 : decode cL_law 491 = .ok (.iadd, 1) := by decide +kernel
theorem dL_law_492 : decode cL_law 492 = .ok (.iaload, 1) := by decide +kernel
theorem dL_law_493 : decode cL_law 493 = .ok (.aload_n 0, 1) := by decide +kernel
theorem dL_law_494 : decode cL_law 494 = .ok (.iload_n 3, 1) := by decide +kernel
theorem dL_law_495 : decode cL_law 495 = .ok (.iconst 3, 1) := by decide +kernel
theorem dL_law_496 : decode cL_law 496 = .ok (.iadd, 1) := by decide +kernel
theorem dL_law_497 : decode cL_law 497 = .ok (.iaload, 1) := by decide +kernel
theorem dL_law_498 : decode cL_law 498 = .ok (.invokevirtual 65, 3) := by decide +kernel
theorem dL_law_501 : decode cL_law 501 = .ok (.if_icmp .eq 493, 3) := by decide +kernel
theorem dL_law_504 : decode cL_law 504 = .ok (.iconst 0, 1) := by decide +kernel
theorem dL_law_505 : decode cL_law 505 = .ok (.ireturn, 1) := by decide +kernel
theorem dL_law_506 : decode cL_law 506 = .ok (.aload_n 1, 1) := by decide +kernel
theorem dL_law_507 : decode cL_law 507 = .ok (.aload_n 0, 1) := by decide +kernel
theorem dL_law_508 : decode cL_law 508 = .ok (.iload_n 3, 1) := by decide +kernel
theorem dL_law_509 : decode cL_law 509 = .ok (.iconst 1, 1) := by decide +kernel
theorem dL_law_510 : decode cL_law 510 = .ok (.iadd, 1) := by decide +kernel
theorem dL_law_511 : decode cL_law 511 = .ok (.iaload, 1) := by decide +kernel
theorem dL_law_512 : decode cL_law 512 = .ok (.aload_n 0, 1) := by decide +kernel
theorem dL_law_513 : decode cL_law 513 = .ok (.iload_n 3, 1) := by decide +kernel
theorem dL_law_514 : decode cL_law 514 = .ok (.iconst 2, 1) := by decide +kernel
theorem dL_law_515 : decode cL_law 515 = .ok (.iadd, 1) := by decide +kernel
theorem dL_law_516 : decode cL_law 516 = .ok (.iaload, 1) := by decide +kernel
theorem dL_law_517 : decode cL_law 517 = .ok (.invokevirtual 66, 3) := by decide +kernel
theorem dL_law_520 : decode cL_law 520 = .ok (.aload_n 2, 1) := by decide +kernel
theorem dL_law_521 : decode cL_law 521 = .ok (.aload_n 0, 1) := by decide +kernel
theorem dL_law_522 : decode cL_law 522 = .ok (.iload_n 3, 1) := by decide +kernel
theorem dL_law_523 : decode cL_law 523 = .ok (.iconst 1, 1) := by decide +kernel
theorem dL_law_524 : decode cL_law 524 = .ok (.iadd, 1) := by decide +kernel
theorem dL_law_525 : decode cL_law 525 = .ok (.iaload, 1) := by decide +kernel
theorem dL_law_526 : decode cL_law 526 = .ok (.aload_n 0, 1) := by decide +kernel
theorem dL_law_527 : decode cL_law 527 = .ok (.iload_n 3, 1) := by decide +kernel
theorem dL_law_528 : decode cL_law 528 = .ok (.iconst 2, 1) := by decide +kernel
theorem dL_law_529 : decode cL_law 529 = .ok (.iadd, 1) := by decide +kernel
theorem dL_law_530 : decode cL_law 530 = .ok (.iaload, 1) := by decide +kernel
theorem dL_law_531 : decode cL_law 531 = .ok (.invokevirtual 69, 3) := by decide +kernel
theorem dL_law_534 : decode cL_law 534 = .ok (.if_icmp .eq 460, 3) := by decide +kernel
theorem dL_law_537 : decode cL_law 537 = .ok (.iconst 0, 1) := by decide +kernel
theorem dL_law_538 : decode cL_law 538 = .ok (.ireturn, 1) := by decide +kernel
theorem dL_law_539 : decode cL_law 539 = .ok (.aload_n 1, 1) := by decide +kernel
theorem dL_law_540 : decode cL_law 540 = .ok (.invokevirtual 70, 3) := by decide +kernel
theorem dL_law_543 : decode cL_law 543 = .ok (.aload_n 2, 1) := by decide +kernel
theorem dL_law_544 : decode cL_law 544 = .ok (.invokevirtual 73, 3) := by decide +kernel
theorem dL_law_547 : decode cL_law 547 = .ok (.if_icmp .eq 447, 3) := by decide +kernel
theorem dL_law_550 : decode cL_law 550 = .ok (.iconst 0, 1) := by decide +kernel
theorem dL_law_551 : decode cL_law 551 = .ok (.ireturn, 1) := by decide +kernel
theorem dL_law_552 : decode cL_law 552 = .ok (.aload_n 1, 1) := by decide +kernel
theorem dL_law_553 : decode cL_law 553 = .ok (.aload_n 0, 1) := by decide +kernel
theorem dL_law_554 : decode cL_law 554 = .ok (.iload_n 3, 1) := by decide +kernel
theorem dL_law_555 : decode cL_law 555 = .ok (.iconst 1, 1) := by decide +kernel
theorem dL_law_556 : decode cL_law 556 = .ok (.iadd, 1) := by decide +kernel
theorem dL_law_557 : decode cL_law 557 = .ok (.iaload, 1) := by decide +kernel
theorem dL_law_558 : decode cL_law 558 = .ok (.aload_n 0, 1) := by decide +kernel
theorem dL_law_559 : decode cL_law 559 = .ok (.iload_n 3, 1) := by decide +kernel
theorem dL_law_560 : decode cL_law 560 = .ok (.iconst 2, 1) := by decide +kernel
theorem dL_law_561 : decode cL_law 561 = .ok (.iadd, 1) := by decide +kernel
theorem dL_law_562 : decode cL_law 562 = .ok (.iaload, 1) := by decide +kernel
theorem dL_law_563 : decode cL_law 563 = .ok (.aload_n 0, 1) := by decide +kernel
theorem dL_law_564 : decode cL_law 564 = .ok (.iload_n 3, 1) := by decide +kernel
theorem dL_law_565 : decode cL_law 565 = .ok (.iconst 3, 1) := by decide +kernel
theorem dL_law_566 : decode cL_law 566 = .ok (.iadd, 1) := by decide +kernel
theorem dL_law_567 : decode cL_law 567 = .ok (.iaload, 1) := by decide +kernel
theorem dL_law_568 : decode cL_law 568 = .ok (.invokevirtual 74, 3) := by decide +kernel
theorem dL_law_571 : decode cL_law 571 = .ok (.aload_n 2, 1) := by decide +kernel
theorem dL_law_572 : decode cL_law 572 = .ok (.aload_n 0, 1) := by decide +kernel
theorem dL_law_573 : decode cL_law 573 = .ok (.iload_n 3, 1) := by decide +kernel
theorem dL_law_574 : decode cL_law 574 = .ok (.iconst 1, 1) := by decide +kernel
theorem dL_law_575 : decode cL_law 575 = .ok (.iadd, 1) := by decide +kernel
theorem dL_law_576 : decode cL_law 576 = .ok (.iaload, 1) := by decide +kernel
theorem dL_law_577 : decode cL_law 577 = .ok (.aload_n 0, 1) := by decide +kernel
theorem dL_law_578 : decode cL_law 578 = .ok (.iload_n 3, 1) := by decide +kernel
theorem dL_law_579 : decode cL_law 579 = .ok (.iconst 2, 1) := by decide +kernel
theorem dL_law_580 : decode cL_law 580 = .ok (.iadd, 1) := by decide +kernel
theorem dL_law_581 : decode cL_law 581 = .ok (.iaload, 1) := by decide +kernel
theorem dL_law_582 : decode cL_law 582 = .ok (.aload_n 0, 1) := by decide +kernel
theorem dL_law_583 : decode cL_law 583 = .ok (.iload_n 3, 1) := by decide +kernel
theorem dL_law_584 : decode cL_law 584 = .ok (.iconst 3, 1) := by decide +kernel
theorem dL_law_585 : decode cL_law 585 = .ok (.iadd, 1) := by decide +kernel
theorem dL_law_586 : decode cL_law 586 = .ok (.iaload, 1) := by decide +kernel
theorem dL_law_587 : decode cL_law 587 = .ok (.invokevirtual 77, 3) := by decide +kernel
theorem dL_law_590 : decode cL_law 590 = .ok (.if_icmp .eq 404, 3) := by decide +kernel
theorem dL_law_593 : decode cL_law 593 = .ok (.iconst 0, 1) := by decide +kernel
theorem dL_law_594 : decode cL_law 594 = .ok (.ireturn, 1) := by decide +kernel
theorem dL_law_595 : decode cL_law 595 = .ok (.aload_n 1, 1) := by decide +kernel
theorem dL_law_596 : decode cL_law 596 = .ok (.aload_n 0, 1) := by decide +kernel
theorem dL_law_597 : decode cL_law 597 = .ok (.iload_n 3, 1) := by decide +kernel
theorem dL_law_598 : decode cL_law 598 = .ok (.iconst 1, 1) := by decide +kernel
theorem dL_law_599 : decode cL_law 599 = .ok (.iadd, 1) := by decide +kernel
theorem dL_law_600 : decode cL_law 600 = .ok (.iaload, 1) := by decide +kernel
theorem dL_law_601 : decode cL_law 601 = .ok (.invokevirtual 78, 3) := by decide +kernel
theorem dL_law_604 : decode cL_law 604 = .ok (.aload_n 2, 1) := by decide +kernel
theorem dL_law_605 : decode cL_law 605 = .ok (.aload_n 0, 1) := by decide +kernel
theorem dL_law_606 : decode cL_law 606 = .ok (.iload_n 3, 1) := by decide +kernel
theorem dL_law_607 : decode cL_law 607 = .ok (.iconst 1, 1) := by decide +kernel
theorem dL_law_608 : decode cL_law 608 = .ok (.iadd, 1) := by decide +kernel
theorem dL_law_609 : decode cL_law 609 = .ok (.iaload, 1) := by decide +kernel
theorem dL_law_610 : decode cL_law 610 = .ok (.invokevirtual 81, 3) := by decide +kernel
theorem dL_law_613 : decode cL_law 613 = .ok (.if_icmp .eq 381, 3) := by decide +kernel
theorem dL_law_616 : decode cL_law 616 = .ok (.iconst 0, 1) := by decide +kernel
theorem dL_law_617 : decode cL_law 617 = .ok (.ireturn, 1) := by decide +kernel
theorem dL_law_618 : decode cL_law 618 = .ok (.aload_n 1, 1) := by decide +kernel
theorem dL_law_619 : decode cL_law 619 = .ok (.aload_n 0, 1) := by decide +kernel
theorem dL_law_620 : decode cL_law 620 = .ok (.iload_n 3, 1) := by decide +kernel
theorem dL_law_621 : decode cL_law 621 = .ok (.iconst 1, 1) := by decide +kernel
theorem dL_law_622 : decode cL_law 622 = .ok (.iadd, 1) := by decide +kernel
theorem dL_law_623 : decode cL_law 623 = .ok (.iaload, 1) := by decide +kernel
theorem dL_law_624 : decode cL_law 624 = .ok (.aload_n 0, 1) := by decide +kernel
theorem dL_law_625 : decode cL_law 625 = .ok (.iload_n 3, 1) := by decide +kernel
theorem dL_law_626 : decode cL_law 626 = .ok (.iconst 2, 1) := by decide +kernel
theorem dL_law_627 : decode cL_law 627 = .ok (.iadd, 1) := by decide +kernel
theorem dL_law_628 : decode cL_law 628 = .ok (.iaload, 1) := by decide +kernel
theorem dL_law_629 : decode cL_law 629 = .ok (.invokevirtual 82, 3) := by decide +kernel
theorem dL_law_632 : decode cL_law 632 = .ok (.aload_n 2, 1) := by decide +kernel
theorem dL_law_633 : decode cL_law 633 = .ok (.aload_n 0, 1) := by decide +kernel
theorem dL_law_634 : decode cL_law 634 = .ok (.iload_n 3, 1) := by decide +kernel
theorem dL_law_635 : decode cL_law 635 = .ok (.iconst 1, 1) := by decide +kernel
theorem dL_law_636 : decode cL_law 636 = .ok (.iadd, 1) := by decide +kernel
theorem dL_law_637 : decode cL_law 637 = .ok (.iaload, 1) := by decide +kernel
theorem dL_law_638 : decode cL_law 638 = .ok (.aload_n 0, 1) := by decide +kernel
theorem dL_law_639 : decode cL_law 639 = .ok (.iload_n 3, 1) := by decide +kernel
theorem dL_law_640 : decode cL_law 640 = .ok (.iconst 2, 1) := by decide +kernel
theorem dL_law_641 : decode cL_law 641 = .ok (.iadd, 1) := by decide +kernel
theorem dL_law_642 : decode cL_law 642 = .ok (.iaload, 1) := by decide +kernel
theorem dL_law_643 : decode cL_law 643 = .ok (.invokevirtual 85, 3) := by decide +kernel
theorem dL_law_646 : decode cL_law 646 = .ok (.if_icmp .eq 348, 3) := by decide +kernel
theorem dL_law_649 : decode cL_law 649 = .ok (.iconst 0, 1) := by decide +kernel
theorem dL_law_650 : decode cL_law 650 = .ok (.ireturn, 1) := by decide +kernel
theorem dL_law_651 : decode cL_law 651 = .ok (.aload_n 1, 1) := by decide +kernel
theorem dL_law_652 : decode cL_law 652 = .ok (.invokevirtual 86, 3) := by decide +kernel
theorem dL_law_655 : decode cL_law 655 = .ok (.aload_n 2, 1) := by decide +kernel
theorem dL_law_656 : decode cL_law 656 = .ok (.invokevirtual 89, 3) := by decide +kernel
theorem dL_law_659 : decode cL_law 659 = .ok (.if_icmp .eq 335, 3) := by decide +kernel
theorem dL_law_662 : decode cL_law 662 = .ok (.iconst 0, 1) := by decide +kernel
theorem dL_law_663 : decode cL_law 663 = .ok (.ireturn, 1) := by decide +kernel
theorem dL_law_664 : decode cL_law 664 = .ok (.aload_n 1, 1) := by decide +kernel
theorem dL_law_665 : decode cL_law 665 = .ok (.aload_n 0, 1) := by decide +kernel
theorem dL_law_666 : decode cL_law 666 = .ok (.iload_n 3, 1) := by decide +kernel
theorem dL_law_667 : decode cL_law 667 = .ok (.iconst 1, 1) := by decide +kernel
theorem dL_law_668 : decode cL_law 668 = .ok (.iadd, 1) := by decide +kernel
theorem dL_law_669 : decode cL_law 669 = .ok (.iaload, 1) := by decide +kernel
theorem dL_law_670 : decode cL_law 670 = .ok (.aload_n 0, 1) := by decide +kernel
theorem dL_law_671 : decode cL_law 671 = .ok (.iload_n 3, 1) := by decide +kernel
theorem dL_law_672 : decode cL_law 672 = .ok (.iconst 2, 1) := by decide +kernel
theorem dL_law_673 : decode cL_law 673 = .ok (.iadd, 1) := by decide +kernel
theorem dL_law_674 : decode cL_law 674 = .ok (.iaload, 1) := by decide +kernel
theorem dL_law_675 : decode cL_law 675 = .ok (.aload_n 0, 1) := by decide +kernel
theorem dL_law_676 : decode cL_law 676 = .ok (.iload_n 3, 1) := by decide +kernel
theorem dL_law_677 : decode cL_law 677 = .ok (.iconst 3, 1) := by decide +kernel
theorem dL_law_678 : decode cL_law 678 = .ok (.iadd, 1) := by decide +kernel
theorem dL_law_679 : decode cL_law 679 = .ok (.iaload, 1) := by decide +kernel
theorem dL_law_680 : decode cL_law 680 = .ok (.invokevirtual 90, 3) := by decide +kernel
theorem dL_law_683 : decode cL_law 683 = .ok (.aload_n 2, 1) := by decide +kernel
theorem dL_law_684 : decode cL_law 684 = .ok (.aload_n 0, 1) := by decide +kernel
theorem dL_law_685 : decode cL_law 685 = .ok (.iload_n 3, 1) := by decide +kernel
theorem dL_law_686 : decode cL_law 686 = .ok (.iconst 1, 1) := by decide +kernel
theorem dL_law_687 : decode cL_law 687 = .ok (.iadd, 1) := by decide +kernel
theorem dL_law_688 : decode cL_law 688 = .ok (.iaload, 1) := by decide +kernel
theorem dL_law_689 : decode cL_law 689 = .ok (.aload_n 0, 1) := by decide +kernel
theorem dL_law_690 : decode cL_law 690 = .ok (.iload_n 3, 1) := by decide +kernel
theorem dL_law_691 : decode cL_law 691 = .ok (.iconst 2, 1) := by decide +kernel
theorem dL_law_692 : decode cL_law 692 = .ok (.iadd, 1) := by decide +kernel
theorem dL_law_693 : decode cL_law 693 = .ok (.iaload, 1) := by decide +kernel
theorem dL_law_694 : decode cL_law 694 = .ok (.aload_n 0, 1) := by decide +kernel
theorem dL_law_695 : decode cL_law 695 = .ok (.iload_n 3, 1) := by decide +kernel
theorem dL_law_696 : decode cL_law 696 = .ok (.iconst 3, 1) := by decide +kernel
theorem dL_law_697 : decode cL_law 697 = .ok (.iadd, 1) := by decide +kernel
theorem dL_law_698 : decode cL_law 698 = .ok (.iaload, 1) := by decide +kernel
theorem dL_law_699 : decode cL_law 699 = .ok (.invokevirtual 93, 3) := by decide +kernel
theorem dL_law_702 : decode cL_law 702 = .ok (.if_icmp .eq 292, 3) := by decide +kernel
theorem dL_law_705 : decode cL_law 705 = .ok (.iconst 0, 1) := by decide +kernel
theorem dL_law_706 : decode cL_law 706 = .ok (.ireturn, 1) := by decide +kernel
theorem dL_law_707 : decode cL_law 707 = .ok (.aload_n 1, 1) := by decide +kernel
theorem dL_law_708 : decode cL_law 708 = .ok (.aload_n 0, 1) := by decide +kernel
theorem dL_law_709 : decode cL_law 709 = .ok (.iload_n 3, 1) := by decide +kernel
theorem dL_law_710 : decode cL_law 710 = .ok (.iconst 1, 1) := by decide +kernel
theorem dL_law_711 : decode cL_law 711 = .ok (.iadd, 1) := by decide +kernel
theorem dL_law_712 : decode cL_law 712 = .ok (.iaload, 1) := by decide +kernel
theorem dL_law_713 : decode cL_law 713 = .ok (.aload_n 0, 1) := by decide +kernel
theorem dL_law_714 : decode cL_law 714 = .ok (.iload_n 3, 1) := by decide +kernel
theorem dL_law_715 : decode cL_law 715 = .ok (.iconst 2, 1) := by decide +kernel
theorem dL_law_716 : decode cL_law 716 = .ok (.iadd, 1) := by decide +kernel
theorem dL_law_717 : decode cL_law 717 = .ok (.iaload, 1) := by decide +kernel
theorem dL_law_718 : decode cL_law 718 = .ok (.aload_n 0, 1) := by decide +kernel
theorem dL_law_719 : decode cL_law 719 = .ok (.iload_n 3, 1) := by decide +kernel
theorem dL_law_720 : decode cL_law 720 = .ok (.iconst 3, 1) := by decide +kernel
theorem dL_law_721 : decode cL_law 721 = .ok (.iadd, 1) := by decide +kernel
theorem dL_law_722 : decode cL_law 722 = .ok (.iaload, 1) := by decide +kernel
theorem dL_law_723 : decode cL_law 723 = .ok (.invokevirtual 94, 3) := by decide +kernel
theorem dL_law_726 : decode cL_law 726 = .ok (.aload_n 2, 1) := by decide +kernel
theorem dL_law_727 : decode cL_law 727 = .ok (.aload_n 0, 1) := by decide +kernel
theorem dL_law_728 : decode cL_law 728 = .ok (.iload_n 3, 1) := by decide +kernel
theorem dL_law_729 : decode cL_law 729 = .ok (.iconst 1, 1) := by decide +kernel
theorem dL_law_730 : decode cL_law 730 = .ok (.iadd, 1) := by decide +kernel
theorem dL_law_731 : decode cL_law 731 = .ok (.iaload, 1) := by decide +kernel
theorem dL_law_732 : decode cL_law 732 = .ok (.aload_n 0, 1) := by decide +kernel
theorem dL_law_733 : decode cL_law 733 = .ok (.iload_n 3, 1) := by decide +kernel
theorem dL_law_734 : decode cL_law 734 = .ok (.iconst 2, 1) := by decide +kernel
theorem dL_law_735 : decode cL_law 735 = .ok (.iadd, 1) := by decide +kernel
theorem dL_law_736 : decode cL_law 736 = .ok (.iaload, 1) := by decide +kernel
theorem dL_law_737 : decode cL_law 737 = .ok (.aload_n 0, 1) := by decide +kernel
theorem dL_law_738 : decode cL_law 738 = .ok (.iload_n 3, 1) := by decide +kernel
theorem dL_law_739 : decode cL_law 739 = .ok (.iconst 3, 1) := by decide +kernel
theorem dL_law_740 : decode cL_law 740 = .ok (.iadd, 1) := by decide +kernel
theorem dL_law_741 : decode cL_law 741 = .ok (.iaload, 1) := by decide +kernel
theorem dL_law_742 : decode cL_law 742 = .ok (.invokevirtual 97, 3) := by decide +kernel
theorem dL_law_745 : decode cL_law 745 = .ok (.if_icmp .eq 249, 3) := by decide +kernel
theorem dL_law_748 : decode cL_law 748 = .ok (.iconst 0, 1) := by decide +kernel
theorem dL_law_749 : decode cL_law 749 = .ok (.ireturn, 1) := by decide +kernel
theorem dL_law_750 : decode cL_law 750 = .ok (.aload_n 1, 1) := by decide +kernel
theorem dL_law_751 : decode cL_law 751 = .ok (.invokevirtual 98, 3) := by decide +kernel
theorem dL_law_754 : decode cL_law 754 = .ok (.aload_n 2, 1) := by decide +kernel
theorem dL_law_755 : decode cL_law 755 = .ok (.invokevirtual 101, 3) := by decide +kernel
theorem dL_law_758 : decode cL_law 758 = .ok (.if_icmp .eq 236, 3) := by decide +kernel
theorem dL_law_761 : decode cL_law 761 = .ok (.iconst 0, 1) := by decide +kernel
theorem dL_law_762 : decode cL_law 762 = .ok (.ireturn, 1) := by decide +kernel
theorem dL_law_763 : decode cL_law 763 = .ok (.aload_n 1, 1) := by decide +kernel
theorem dL_law_764 : decode cL_law 764 = .ok (.aload_n 0, 1) := by decide +kernel
theorem dL_law_765 : decode cL_law 765 = .ok (.iload_n 3, 1) := by decide +kernel
theorem dL_law_766 : decode cL_law 766 = .ok (.iconst 1, 1) := by decide +kernel
theorem dL_law_767 : decode cL_law 767 = .ok (.iadd, 1) := by decide +kernel
theorem dL_law_768 : decode cL_law 768 = .ok (.iaload, 1) := by decide +kernel
theorem dL_law_769 : decode cL_law 769 = .ok (.aload_n 0, 1) := by decide +kernel
theorem dL_law_770 : decode cL_law 770 = .ok (.iload_n 3, 1) := by decide +kernel
theorem dL_law_771 : decode cL_law 771 = .ok (.iconst 2, 1) := by decide +kernel
theorem dL_law_772 : decode cL_law 772 = .ok (.iadd, 1) := by decide +kernel
theorem dL_law_773 : decode cL_law 773 = .ok (.iaload, 1) := by decide +kernel
theorem dL_law_774 : decode cL_law 774 = .ok (.invokevirtual 102, 3) := by decide +kernel
theorem dL_law_777 : decode cL_law 777 = .ok (.aload_n 2, 1) := by decide +kernel
theorem dL_law_778 : decode cL_law 778 = .ok (.aload_n 0, 1) := by decide +kernel
theorem dL_law_779 : decode cL_law 779 = .ok (.iload_n 3, 1) := by decide +kernel
theorem dL_law_780 : decode cL_law 780 = .ok (.iconst 1, 1) := by decide +kernel
theorem dL_law_781 : decode cL_law 781 = .ok (.iadd, 1) := by decide +kernel
theorem dL_law_782 : decode cL_law 782 = .ok (.iaload, 1) := by decide +kernel
theorem dL_law_783 : decode cL_law 783 = .ok (.aload_n 0, 1) := by decide +kernel
theorem dL_law_784 : decode cL_law 784 = .ok (.iload_n 3, 1) := by decide +kernel
theorem dL_law_785 : decode cL_law 785 = .ok (.iconst 2, 1) := by decide +kernel
theorem dL_law_786 : decode cL_law 786 = .ok (.iadd, 1) := by decide +kernel
theorem dL_law_787 : decode cL_law 787 = .ok (.iaload, 1) := by decide +kernel
theorem dL_law_788 : decode cL_law 788 = .ok (.invokevirtual 105, 3) := by decide +kernel
theorem dL_law_791 : decode cL_law 791 = .ok (.if_icmp .eq 203, 3) := by decide +kernel
theorem dL_law_794 : decode cL_law 794 = .ok (.iconst 0, 1) := by decide +kernel
theorem dL_law_795 : decode cL_law 795 = .ok (.ireturn, 1) := by decide +kernel
theorem dL_law_796 : decode cL_law 796 = .ok (.aload_n 1, 1) := by decide +kernel
theorem dL_law_797 : decode cL_law 797 = .ok (.aload_n 0, 1) := by decide +kernel
theorem dL_law_798 : decode cL_law 798 = .ok (.iload_n 3, 1) := by decide +kernel
theorem dL_law_799 : decode cL_law 799 = .ok (.iconst 1, 1) := by decide +kernel
theorem dL_law_800 : decode cL_law 800 = .ok (.iadd, 1) := by decide +kernel
theorem dL_law_801 : decode cL_law 801 = .ok (.iaload, 1) := by decide +kernel
theorem dL_law_802 : decode cL_law 802 = .ok (.aload_n 0, 1) := by decide +kernel
theorem dL_law_803 : decode cL_law 803 = .ok (.iload_n 3, 1) := by decide +kernel
theorem dL_law_804 : decode cL_law 804 = .ok (.iconst 2, 1) := by decide +kernel
theorem dL_law_805 : decode cL_law 805 = .ok (.iadd, 1) := by decide +kernel
theorem dL_law_806 : decode cL_law 806 = .ok (.iaload, 1) := by decide +kernel
theorem dL_law_807 : decode cL_law 807 = .ok (.aload_n 0, 1) := by decide +kernel
theorem dL_law_808 : decode cL_law 808 = .ok (.iload_n 3, 1) := by decide +kernel
theorem dL_law_809 : decode cL_law 809 = .ok (.iconst 3, 1) := by decide +kernel
theorem dL_law_810 : decode cL_law 810 = .ok (.iadd, 1) := by decide +kernel
theorem dL_law_811 : decode cL_law 811 = .ok (.iaload, 1) := by decide +kernel
theorem dL_law_812 : decode cL_law 812 = .ok (.invokevirtual 106, 3) := by decide +kernel
theorem dL_law_815 : decode cL_law 815 = .ok (.aload_n 2, 1) := by decide +kernel
theorem dL_law_816 : decode cL_law 816 = .ok (.aload_n 0, 1) := by decide +kernel
theorem dL_law_817 : decode cL_law 817 = .ok (.iload_n 3, 1) := by decide +kernel
theorem dL_law_818 : decode cL_law 818 = .ok (.iconst 1, 1) := by decide +kernel
theorem dL_law_819 : decode cL_law 819 = .ok (.iadd, 1) := by decide +kernel
theorem dL_law_820 : decode cL_law 820 = .ok (.iaload, 1) := by decide +kernel
theorem dL_law_821 : decode cL_law 821 = .ok (.aload_n 0, 1) := by decide +kernel
theorem dL_law_822 : decode cL_law 822 = .ok (.iload_n 3, 1) := by decide +kernel
theorem dL_law_823 : decode cL_law 823 = .ok (.iconst 2, 1) := by decide +kernel
theorem dL_law_824 : decode cL_law 824 = .ok (.iadd, 1) := by decide +kernel
theorem dL_law_825 : decode cL_law 825 = .ok (.iaload, 1) := by decide +kernel
theorem dL_law_826 : decode cL_law 826 = .ok (.aload_n 0, 1) := by decide +kernel
theorem dL_law_827 : decode cL_law 827 = .ok (.iload_n 3, 1) := by decide +kernel
theorem dL_law_828 : decode cL_law 828 = .ok (.iconst 3, 1) := by decide +kernel
theorem dL_law_829 : decode cL_law 829 = .ok (.iadd, 1) := by decide +kernel
theorem dL_law_830 : decode cL_law 830 = .ok (.iaload, 1) := by decide +kernel
theorem dL_law_831 : decode cL_law 831 = .ok (.invokevirtual 109, 3) := by decide +kernel
theorem dL_law_834 : decode cL_law 834 = .ok (.if_icmp .eq 160, 3) := by decide +kernel
theorem dL_law_837 : decode cL_law 837 = .ok (.iconst 0, 1) := by decide +kernel
theorem dL_law_838 : decode cL_law 838 = .ok (.ireturn, 1) := by decide +kernel
theorem dL_law_839 : decode cL_law 839 = .ok (.aload_n 1, 1) := by decide +kernel
theorem dL_law_840 : decode cL_law 840 = .ok (.aload_n 0, 1) := by decide +kernel
theorem dL_law_841 : decode cL_law 841 = .ok (.iload_n 3, 1) := by decide +kernel
theorem dL_law_842 : decode cL_law 842 = .ok (.iconst 1, 1) := by decide +kernel
theorem dL_law_843 : decode cL_law 843 = .ok (.iadd, 1) := by decide +kernel
theorem dL_law_844 : decode cL_law 844 = .ok (.iaload, 1) := by decide +kernel
theorem dL_law_845 : decode cL_law 845 = .ok (.aload_n 0, 1) := by decide +kernel
theorem dL_law_846 : decode cL_law 846 = .ok (.iload_n 3, 1) := by decide +kernel
theorem dL_law_847 : decode cL_law 847 = .ok (.iconst 2, 1) := by decide +kernel
theorem dL_law_848 : decode cL_law 848 = .ok (.iadd, 1) := by decide +kernel
theorem dL_law_849 : decode cL_law 849 = .ok (.iaload, 1) := by decide +kernel
theorem dL_law_850 : decode cL_law 850 = .ok (.aload_n 0, 1) := by decide +kernel
theorem dL_law_851 : decode cL_law 851 = .ok (.iload_n 3, 1) := by decide +kernel
theorem dL_law_852 : decode cL_law 852 = .ok (.iconst 3, 1) := by decide +kernel
theorem dL_law_853 : decode cL_law 853 = .ok (.iadd, 1) := by decide +kernel
theorem dL_law_854 : decode cL_law 854 = .ok (.iaload, 1) := by decide +kernel
theorem dL_law_855 : decode cL_law 855 = .ok (.aload_n 0, 1) := by decide +kernel
theorem dL_law_856 : decode cL_law 856 = .ok (.iload_n 3, 1) := by decide +kernel
theorem dL_law_857 : decode cL_law 857 = .ok (.iconst 4, 1) := by decide +kernel
theorem dL_law_858 : decode cL_law 858 = .ok (.iadd, 1) := by decide +kernel
theorem dL_law_859 : decode cL_law 859 = .ok (.iaload, 1) := by decide +kernel
theorem dL_law_860 : decode cL_law 860 = .ok (.aload_n 0, 1) := by decide +kernel
theorem dL_law_861 : decode cL_law 861 = .ok (.iload_n 3, 1) := by decide +kernel
theorem dL_law_862 : decode cL_law 862 = .ok (.iconst 5, 1) := by decide +kernel
theorem dL_law_863 : decode cL_law 863 = .ok (.iadd, 1) := by decide +kernel
theorem dL_law_864 : decode cL_law 864 = .ok (.iaload, 1) := by decide +kernel
theorem dL_law_865 : decode cL_law 865 = .ok (.invokevirtual 110, 3) := by decide +kernel
theorem dL_law_868 : decode cL_law 868 = .ok (.aload_n 2, 1) := by decide +kernel
theorem dL_law_869 : decode cL_law 869 = .ok (.aload_n 0, 1) := by decide +kernel
theorem dL_law_870 : decode cL_law 870 = .ok (.iload_n 3, 1) := by decide +kernel
theorem dL_law_871 : decode cL_law 871 = .ok (.iconst 1, 1) := by decide +kernel
theorem dL_law_872 : decode cL_law 872 = .ok (.iadd, 1) := by decide +kernel
theorem dL_law_873 : decode cL_law 873 = .ok (.iaload, 1) := by decide +kernel
theorem dL_law_874 : decode cL_law 874 = .ok (.aload_n 0, 1) := by decide +kernel
theorem dL_law_875 : decode cL_law 875 = .ok (.iload_n 3, 1) := by decide +kernel
theorem dL_law_876 : decode cL_law 876 = .ok (.iconst 2, 1) := by decide +kernel
theorem dL_law_877 : decode cL_law 877 = .ok (.iadd, 1) := by decide +kernel
theorem dL_law_878 : decode cL_law 878 = .ok (.iaload, 1) := by decide +kernel
theorem dL_law_879 : decode cL_law 879 = .ok (.aload_n 0, 1) := by decide +kernel
theorem dL_law_880 : decode cL_law 880 = .ok (.iload_n 3, 1) := by decide +kernel
theorem dL_law_881 : decode cL_law 881 = .ok (.iconst 3, 1) := by decide +kernel
theorem dL_law_882 : decode cL_law 882 = .ok (.iadd, 1) := by decide +kernel
theorem dL_law_883 : decode cL_law 883 = .ok (.iaload, 1) := by decide +kernel
theorem dL_law_884 : decode cL_law 884 = .ok (.aload_n 0, 1) := by decide +kernel
theorem dL_law_885 : decode cL_law 885 = .ok (.iload_n 3, 1) := by decide +kernel
theorem dL_law_886 : decode cL_law 886 = .ok (.iconst 4, 1) := by decide +kernel
theorem dL_law_887 : decode cL_law 887 = .ok (.iadd, 1) := by decide +kernel
theorem dL_law_888 : decode cL_law 888 = .ok (.iaload, 1) := by decide +kernel
theorem dL_law_889 : decode cL_law 889 = .ok (.aload_n 0, 1) := by decide +kernel
theorem dL_law_890 : decode cL_law 890 = .ok (.iload_n 3, 1) := by decide +kernel
theorem dL_law_891 : decode cL_law 891 = .ok (.iconst 5, 1) := by decide +kernel
theorem dL_law_892 : decode cL_law 892 = .ok (.iadd, 1) := by decide +kernel
theorem dL_law_893 : decode cL_law 893 = .ok (.iaload, 1) := by decide +kernel
theorem dL_law_894 : decode cL_law 894 = .ok (.invokevirtual 114, 3) := by decide +kernel
theorem dL_law_897 : decode cL_law 897 = .ok (.if_icmp .eq 97, 3) := by decide +kernel
theorem dL_law_900 : decode cL_law 900 = .ok (.iconst 0, 1) := by decide +kernel
theorem dL_law_901 : decode cL_law 901 = .ok (.ireturn, 1) := by decide +kernel
theorem dL_law_902 : decode cL_law 902 = .ok (.aload_n 1, 1) := by decide +kernel
theorem dL_law_903 : decode cL_law 903 = .ok (.aload_n 0, 1) := by decide +kernel
theorem dL_law_904 : decode cL_law 904 = .ok (.iload_n 3, 1) := by decide +kernel
theorem dL_law_905 : decode cL_law 905 = .ok (.iconst 1, 1) := by decide +kernel
theorem dL_law_906 : decode cL_law 906 = .ok (.iadd, 1) := by decide +kernel
theorem dL_law_907 : decode cL_law 907 = .ok (.iaload, 1) := by decide +kernel
theorem dL_law_908 : decode cL_law 908 = .ok (.aload_n 0, 1) := by decide +kernel
theorem dL_law_909 : decode cL_law 909 = .ok (.iload_n 3, 1) := by decide +kernel
theorem dL_law_910 : decode cL_law 910 = .ok (.iconst 2, 1) := by decide +kernel
theorem dL_law_911 : decode cL_law 911 = .ok (.iadd, 1) := by decide +kernel
theorem dL_law_912 : decode cL_law 912 = .ok (.iaload, 1) := by decide +kernel
theorem dL_law_913 : decode cL_law 913 = .ok (.aload_n 0, 1) := by decide +kernel
theorem dL_law_914 : decode cL_law 914 = .ok (.iload_n 3, 1) := by decide +kernel
theorem dL_law_915 : decode cL_law 915 = .ok (.iconst 3, 1) := by decide +kernel
theorem dL_law_916 : decode cL_law 916 = .ok (.iadd, 1) := by decide +kernel
theorem dL_law_917 : decode cL_law 917 = .ok (.iaload, 1) := by decide +kernel
theorem dL_law_918 : decode cL_law 918 = .ok (.invokevirtual 115, 3) := by decide +kernel
theorem dL_law_921 : decode cL_law 921 = .ok (.aload_n 2, 1) := by decide +kernel
theorem dL_law_922 : decode cL_law 922 = .ok (.aload_n 0, 1) := by decide +kernel
theorem dL_law_923 : decode cL_law 923 = .ok (.iload_n 3, 1) := by decide +kernel
theorem dL_law_924 : decode cL_law 924 = .ok (.iconst 1, 1) := by decide +kernel
theorem dL_law_925 : decode cL_law 925 = .ok (.iadd, 1) := by decide +kernel
theorem dL_law_926 : decode cL_law 926 = .ok (.iaload, 1) := by decide +kernel
theorem dL_law_927 : decode cL_law 927 = .ok (.aload_n 0, 1) := by decide +kernel
theorem dL_law_928 : decode cL_law 928 = .ok (.iload_n 3, 1) := by decide +kernel
theorem dL_law_929 : decode cL_law 929 = .ok (.iconst 2, 1) := by decide +kernel
theorem dL_law_930 : decode cL_law 930 = .ok (.iadd, 1) := by decide +kernel
theorem dL_law_931 : decode cL_law 931 = .ok (.iaload, 1) := by decide +kernel
theorem dL_law_932 : decode cL_law 932 = .ok (.aload_n 0, 1) := by decide +kernel
theorem dL_law_933 : decode cL_law 933 = .ok (.iload_n 3, 1) := by decide +kernel
theorem dL_law_934 : decode cL_law 934 = .ok (.iconst 3, 1) := by decide +kernel
theorem dL_law_935 : decode cL_law 935 = .ok (.iadd, 1) := by decide +kernel
theorem dL_law_936 : decode cL_law 936 = .ok (.iaload, 1) := by decide +kernel
theorem dL_law_937 : decode cL_law 937 = .ok (.invokevirtual 118, 3) := by decide +kernel
theorem dL_law_940 : decode cL_law 940 = .ok (.if_icmp .eq 54, 3) := by decide +kernel
theorem dL_law_943 : decode cL_law 943 = .ok (.iconst 0, 1) := by decide +kernel
theorem dL_law_944 : decode cL_law 944 = .ok (.ireturn, 1) := by decide +kernel
theorem dL_law_945 : decode cL_law 945 = .ok (.aload_n 1, 1) := by decide +kernel
theorem dL_law_946 : decode cL_law 946 = .ok (.invokevirtual 119, 3) := by decide +kernel
theorem dL_law_949 : decode cL_law 949 = .ok (.aload_n 2, 1) := by decide +kernel
theorem dL_law_950 : decode cL_law 950 = .ok (.invokevirtual 122, 3) := by decide +kernel
theorem dL_law_953 : decode cL_law 953 = .ok (.if_icmp .eq 41, 3) := by decide +kernel
theorem dL_law_956 : decode cL_law 956 = .ok (.iconst 0, 1) := by decide +kernel
theorem dL_law_957 : decode cL_law 957 = .ok (.ireturn, 1) := by decide +kernel
theorem dL_law_958 : decode cL_law 958 = .ok (.aload_n 1, 1) := by decide +kernel
theorem dL_law_959 : decode cL_law 959 = .ok (.invokevirtual 123, 3) := by decide +kernel
theorem dL_law_962 : decode cL_law 962 = .ok (.aload_n 2, 1) := by decide +kernel
theorem dL_law_963 : decode cL_law 963 = .ok (.invokevirtual 126, 3) := by decide +kernel
theorem dL_law_966 : decode cL_law 966 = .ok (.if_icmp .eq 28, 3) := by decide +kernel
theorem dL_law_969 : decode cL_law 969 = .ok (.iconst 0, 1) := by decide +kernel
theorem dL_law_970 : decode cL_law 970 = .ok (.ireturn, 1) := by decide +kernel
theorem dL_law_971 : decode cL_law 971 = .ok (.aload_n 1, 1) := by decide +kernel
theorem dL_law_972 : decode cL_law 972 = .ok (.aload_n 0, 1) := by decide +kernel
theorem dL_law_973 : decode cL_law 973 = .ok (.iload_n 3, 1) := by decide +kernel
theorem dL_law_974 : decode cL_law 974 = .ok (.iconst 1, 1) := by decide +kernel
theorem dL_law_975 : decode cL_law 975 = .ok (.iadd, 1) := by decide +kernel
theorem dL_law_976 : decode cL_law 976 = .ok (.iaload, 1) := by decide +kernel
theorem dL_law_977 : decode cL_law 977 = .ok (.invokevirtual 127, 3) := by decide +kernel
theorem dL_law_980 : decode cL_law 980 = .ok (.aload_n 2, 1) := by decide +kernel
theorem dL_law_981 : decode cL_law 981 = .ok (.aload_n 0, 1) := by decide +kernel
theorem dL_law_982 : decode cL_law 982 = .ok (.iload_n 3, 1) := by decide +kernel
theorem dL_law_983 : decode cL_law 983 = .ok (.iconst 1, 1) := by decide +kernel
theorem dL_law_984 : decode cL_law 984 = .ok (.iadd, 1) := by decide +kernel
theorem dL_law_985 : decode cL_law 985 = .ok (.iaload, 1) := by decide +kernel
theorem dL_law_986 : decode cL_law 986 = .ok (.invokevirtual 130, 3) := by decide +kernel
theorem dL_law_989 : decode cL_law 989 = .ok (.if_icmp .eq 5, 3) := by decide +kernel
theorem dL_law_992 : decode cL_law 992 = .ok (.iconst 0, 1) := by decide +kernel
theorem dL_law_993 : decode cL_law 993 = .ok (.ireturn, 1) := by decide +kernel
theorem dL_law_994 : decode cL_law 994 = .ok (.iinc 3 6, 3) := by decide +kernel
theorem dL_law_997 : decode cL_law 997 = .ok (.goto (-979), 3) := by decide +kernel
theorem dL_law_1000 : decode cL_law 1000 = .ok (.iconst 1, 1) := by decide +kernel
theorem dL_law_1001 : decode cL_law 1001 = .ok (.ireturn, 1) := by decide +kernel
end
section
theorem dX0_init_0 : decode cX0_init 0 = .ok (.aload_n 0, 1) := by decide +kernel
theorem dX0_init_1 : decode cX0_init 1 = .ok (.invokespecial 5, 3) := by decide +kernel
theorem dX0_init_4 : decode cX0_init 4 = .ok (.aload_n 0, 1) := by decide +kernel
theorem dX0_init_5 : decode cX0_init 5 = .ok (.bipush 111, 2) := by decide +kernel
theorem dX0_init_7 : decode cX0_init 7 = .ok (.newarray .int, 2) := by decide +kernel
theorem dX0_init_9 : decode cX0_init 9 = .ok (.putfield 11, 3) := by decide +kernel
theorem dX0_init_12 : decode cX0_init 12 = .ok (.aload_n 0, 1) := by decide +kernel
theorem dX0_init_13 : decode cX0_init 13 = .ok (.bipush 6, 2) := by decide +kernel
theorem dX0_init_15 : decode cX0_init 15 = .ok (.newarray .int, 2) := by decide +kernel
theorem dX0_init_17 : decode cX0_init 17 = .ok (.putfield 15, 3) := by decide +kernel
theorem dX0_init_20 : decode cX0_init 20 = .ok (.aload_n 0, 1) := by decide +kernel
theorem dX0_init_21 : decode cX0_init 21 = .ok (.bipush 6, 2) := by decide +kernel
theorem dX0_init_23 : decode cX0_init 23 = .ok (.newarray .int, 2) := by decide +kernel
theorem dX0_init_25 : decode cX0_init 25 = .ok (.putfield 18, 3) := by decide +kernel
theorem dX0_init_28 : decode cX0_init 28 = .ok (.aload_n 0, 1) := by decide +kernel
theorem dX0_init_29 : decode cX0_init 29 = .ok (.bipush 7, 2) := by decide +kernel
theorem dX0_init_31 : decode cX0_init 31 = .ok (.newarray .int, 2) := by decide +kernel
theorem dX0_init_33 : decode cX0_init 33 = .ok (.putfield 21, 3) := by decide +kernel
theorem dX0_init_36 : decode cX0_init 36 = .ok (.return_, 1) := by decide +kernel
theorem dX0_choose_0 : decode cX0_choose 0 = .ok (.aload_n 0, 1) := by decide +kernel
theorem dX0_choose_1 : decode cX0_choose 1 = .ok (.iconst (-1), 1) := by decide +kernel
theorem dX0_choose_2 : decode cX0_choose 2 = .ok (.putfield 24, 3) := by decide +kernel
theorem dX0_choose_5 : decode cX0_choose 5 = .ok (.aload_n 0, 1) := by decide +kernel
theorem dX0_choose_6 : decode cX0_choose 6 = .ok (.iconst 0, 1) := by decide +kernel
theorem dX0_choose_7 : decode cX0_choose 7 = .ok (.putfield 28, 3) := by decide +kernel
theorem dX0_choose_10 : decode cX0_choose 10 = .ok (.aload_n 0, 1) := by decide +kernel
theorem dX0_choose_11 : decode cX0_choose 11 = .ok (.getfield 21, 3) := by decide +kernel
theorem dX0_choose_14 : decode cX0_choose 14 = .ok (.aload_n 1, 1) := by decide +kernel
theorem dX0_choose_15 : decode cX0_choose 15 = .ok (.getfield 31, 3) := by decide +kernel
theorem dX0_choose_18 : decode cX0_choose 18 = .ok (.iconst 0, 1) := by decide +kernel
theorem dX0_choose_19 : decode cX0_choose 19 = .ok (.iastore, 1) := by decide +kernel
theorem dX0_choose_20 : decode cX0_choose 20 = .ok (.aload_n 1, 1) := by decide +kernel
theorem dX0_choose_21 : decode cX0_choose 21 = .ok (.getfield 31, 3) := by decide +kernel
theorem dX0_choose_24 : decode cX0_choose 24 = .ok (.iconst 1, 1) := by decide +kernel
theorem dX0_choose_25 : decode cX0_choose 25 = .ok (.isub, 1) := by decide +kernel
theorem dX0_choose_26 : decode cX0_choose 26 = .ok (.istore 4, 2) := by decide +kernel
theorem dX0_choose_28 : decode cX0_choose 28 = .ok (.iload 4, 2) := by decide +kernel
theorem dX0_choose_30 : decode cX0_choose 30 = .ok (.ifCond .lt 35, 3) := by decide +kernel
theorem dX0_choose_33 : decode cX0_choose 33 = .ok (.aload_n 0, 1) := by decide +kernel
theorem dX0_choose_34 : decode cX0_choose 34 = .ok (.getfield 21, 3) := by decide +kernel
theorem dX0_choose_37 : decode cX0_choose 37 = .ok (.iload 4, 2) := by decide +kernel
theorem dX0_choose_39 : decode cX0_choose 39 = .ok (.aload_n 0, 1) := by decide +kernel
theorem dX0_choose_40 : decode cX0_choose 40 = .ok (.getfield 21, 3) := by decide +kernel
theorem dX0_choose_43 : decode cX0_choose 43 = .ok (.iload 4, 2) := by decide +kernel
theorem dX0_choose_45 : decode cX0_choose 45 = .ok (.iconst 1, 1) := by decide +kernel
theorem dX0_choose_46 : decode cX0_choose 46 = .ok (.iadd, 1) := by decide +kernel
theorem dX0_choose_47 : decode cX0_choose 47 = .ok (.iaload, 1) := by decide +kernel
theorem dX0_choose_48 : decode cX0_choose 48 = .ok (.iconst 5, 1) := by decide +kernel
theorem dX0_choose_49 : decode cX0_choose 49 = .ok (.aload_n 1, 1) := by decide +kernel
theorem dX0_choose_50 : decode cX0_choose 50 = .ok (.getfield 36, 3) := by decide +kernel
theorem dX0_choose_53 : decode cX0_choose 53 = .ok (.iload 4, 2) := by decide +kernel
theorem dX0_choose_55 : decode cX0_choose 55 = .ok (.iaload, 1) := by decide +kernel
theorem dX0_choose_56 : decode cX0_choose 56 = .ok (.imul, 1) := by decide +kernel
theorem dX0_choose_57 : decode cX0_choose 57 = .ok (.iadd, 1) := by decide +kernel
theorem dX0_choose_58 : decode cX0_choose 58 = .ok (.iastore, 1) := by decide +kernel
theorem dX0_choose_59 : decode cX0_choose 59 = .ok (.iinc 4 (-1), 3) := by decide +kernel
theorem dX0_choose_62 : decode cX0_choose 62 = .ok (.goto (-34), 3) := by decide +kernel
theorem dX0_choose_65 : decode cX0_choose 65 = .ok (.aload_n 3, 1) := by decide +kernel
theorem dX0_choose_66 : decode cX0_choose 66 = .ok (.getfield 39, 3) := by decide +kernel
theorem dX0_choose_69 : decode cX0_choose 69 = .ok (.iload_n 2, 1) := by decide +kernel
theorem dX0_choose_70 : decode cX0_choose 70 = .ok (.iconst 3, 1) := by decide +kernel
theorem dX0_choose_71 : decode cX0_choose 71 = .ok (.imul, 1) := by decide +kernel
theorem dX0_choose_72 : decode cX0_choose 72 = .ok (.aload_n 0, 1) := by decide +kernel
theorem dX0_choose_73 : decode cX0_choose 73 = .ok (.getfield 11, 3) := by decide +kernel
theorem dX0_choose_76 : decode cX0_choose 76 = .ok (.bipush 108, 2) := by decide +kernel
theorem dX0_choose_78 : decode cX0_choose 78 = .ok (.iconst 3, 1) := by decide +kernel
theorem dX0_choose_79 : decode cX0_choose 79 = .ok (.invokestatic 44, 3) := by decide +kernel
theorem dX0_choose_82 : decode cX0_choose 82 = .ok (.aload_n 0, 1) := by decide +kernel
theorem dX0_choose_83 : decode cX0_choose 83 = .ok (.aload_n 1, 1) := by decide +kernel
theorem dX0_choose_84 : decode cX0_choose 84 = .ok (.iload_n 2, 1) := by decide +kernel
theorem dX0_choose_85 : decode cX0_choose 85 = .ok (.iconst 0, 1) := by decide +kernel
theorem dX0_choose_86 : decode cX0_choose 86 = .ok (.bipush 108, 2) := by decide +kernel
theorem dX0_choose_88 : decode cX0_choose 88 = .ok (.iconst 0, 1) := by decide +kernel
theorem dX0_choose_89 : decode cX0_choose 89 = .ok (.iconst 0, 1) := by decide +kernel
theorem dX0_choose_90 : decode cX0_choose 90 = .ok (.invokevirtual 50, 3) := by decide +kernel
theorem dX0_choose_93 : decode cX0_choose 93 = .ok (.return_, 1) := by decide +kernel
theorem dX0_search_0 : decode cX0_search 0 = .ok (.aload_n 0, 1) := by decide +kernel
theorem dX0_search_1 : decode cX0_search 1 = .ok (.iload 5, 2) := by decide +kernel
theorem dX0_search_3 : decode cX0_search 3 = .ok (.aload_n 0, 1) := by decide +kernel
theorem dX0_search_4 : decode cX0_search 4 = .ok (.getfield 21, 3) := by decide +kernel
theorem dX0_search_7 : decode cX0_search 7 = .ok (.iload_n 3, 1) := by decide +kernel
theorem dX0_search_8 : decode cX0_search 8 = .ok (.iaload, 1) := by decide +kernel
theorem dX0_search_9 : decode cX0_search 9 = .ok (.iadd, 1) := by decide +kernel
theorem dX0_search_10 : decode cX0_search 10 = .ok (.iload 6, 2) := by decide +kernel
theorem dX0_search_12 : decode cX0_search 12 = .ok (.invokevirtual 54, 3) := by decide +kernel
theorem dX0_search_15 : decode cX0_search 15 = .ok (.ifCond .ne 4, 3) := by decide +kernel
theorem dX0_search_18 : decode cX0_search 18 = .ok (.return_, 1) := by decide +kernel
theorem dX0_search_19 : decode cX0_search 19 = .ok (.iload_n 3, 1) := by decide +kernel
theorem dX0_search_20 : decode cX0_search 20 = .ok (.aload_n 1, 1) := by decide +kernel
theorem dX0_search_21 : decode cX0_search 21 = .ok (.getfield 31, 3) := by decide +kernel
theorem dX0_search_24 : decode cX0_search 24 = .ok (.if_icmp .lt 31, 3) := by decide +kernel
theorem dX0_search_27 : decode cX0_search 27 = .ok (.aload_n 0, 1) := by decide +kernel
theorem dX0_search_28 : decode cX0_search 28 = .ok (.iload 5, 2) := by decide +kernel
theorem dX0_search_30 : decode cX0_search 30 = .ok (.putfield 24, 3) := by decide +kernel
theorem dX0_search_33 : decode cX0_search 33 = .ok (.aload_n 0, 1) := by decide +kernel
theorem dX0_search_34 : decode cX0_search 34 = .ok (.iload 6, 2) := by decide +kernel
theorem dX0_search_36 : decode cX0_search 36 = .ok (.putfield 28, 3) := by decide +kernel
theorem dX0_search_39 : decode cX0_search 39 = .ok (.aload_n 0, 1) := by decide +kernel
theorem dX0_search_40 : decode cX0_search 40 = .ok (.getfield 15, 3) := by decide +kernel
theorem dX0_search_43 : decode cX0_search 43 = .ok (.iconst 0, 1) := by decide +kernel
theorem dX0_search_44 : decode cX0_search 44 = .ok (.aload_n 0, 1) := by decide +kernel
theorem dX0_search_45 : decode cX0_search 45 = .ok (.getfield 18, 3) := by decide +kernel
theorem dX0_search_48 : decode cX0_search 48 = .ok (.iconst 0, 1) := by decide +kernel
theorem dX0_search_49 : decode cX0_search 49 = .ok (.bipush 6, 2) := by decide +kernel
theorem dX0_search_51 : decode cX0_search 51 = .ok (.invokestatic 44, 3) := by decide +kernel
theorem dX0_search_54 : decode cX0_search 54 = .ok (.return_, 1) := by decide +kernel
theorem dX0_search_55 : decode cX0_search 55 = .ok (.aload_n 0, 1) := by decide +kernel
theorem dX0_search_56 : decode cX0_search 56 = .ok (.aload_n 1, 1) := by decide +kernel
theorem dX0_search_57 : decode cX0_search 57 = .ok (.iload_n 2, 1) := by decide +kernel
theorem dX0_search_58 : decode cX0_search 58 = .ok (.iload_n 3, 1) := by decide +kernel
theorem dX0_search_59 : decode cX0_search 59 = .ok (.iload 4, 2) := by decide +kernel
theorem dX0_search_61 : decode cX0_search 61 = .ok (.invokevirtual 58, 3) := by decide +kernel
theorem dX0_search_64 : decode cX0_search 64 = .ok (.istore 7, 2) := by decide +kernel
theorem dX0_search_66 : decode cX0_search 66 = .ok (.iload 7, 2) := by decide +kernel
theorem dX0_search_68 : decode cX0_search 68 = .ok (.ifCond .lt 52, 3) := by decide +kernel
theorem dX0_search_71 : decode cX0_search 71 = .ok (.aload_n 0, 1) := by decide +kernel
theorem dX0_search_72 : decode cX0_search 72 = .ok (.getfield 15, 3) := by decide +kernel
theorem dX0_search_75 : decode cX0_search 75 = .ok (.iload_n 3, 1) := by decide +kernel
theorem dX0_search_76 : decode cX0_search 76 = .ok (.iload 7, 2) := by decide +kernel
theorem dX0_search_78 : decode cX0_search 78 = .ok (.iastore, 1) := by decide +kernel
theorem dX0_search_79 : decode cX0_search 79 = .ok (.aload_n 0, 1) := by decide +kernel
theorem dX0_search_80 : decode cX0_search 80 = .ok (.aload_n 1, 1) := by decide +kernel
theorem dX0_search_81 : decode cX0_search 81 = .ok (.iload_n 2, 1) := by decide +kernel
theorem dX0_search_82 : decode cX0_search 82 = .ok (.iload_n 3, 1) := by decide +kernel
theorem dX0_search_83 : decode cX0_search 83 = .ok (.iconst 1, 1) := by decide +kernel
theorem dX0_search_84 : decode cX0_search 84 = .ok (.iadd, 1) := by decide +kernel
theorem dX0_search_85 : decode cX0_search 85 = .ok (.iload_n 3, 1) := by decide +kernel
theorem dX0_search_86 : decode cX0_search 86 = .ok (.bipush 18, 2) := by decide +kernel
theorem dX0_search_88 : decode cX0_search 88 = .ok (.imul, 1) := by decide +kernel
theorem dX0_search_89 : decode cX0_search 89 = .ok (.iload 7, 2) := by decide +kernel
theorem dX0_search_91 : decode cX0_search 91 = .ok (.iconst 3, 1) := by decide +kernel
theorem dX0_search_92 : decode cX0_search 92 = .ok (.imul, 1) := by decide +kernel
theorem dX0_search_93 : decode cX0_search 93 = .ok (.iadd, 1) := by decide +kernel
theorem dX0_search_94 : decode cX0_search 94 = .ok (.iload 5, 2) := by decide +kernel
theorem dX0_search_96 : decode cX0_search 96 = .ok (.iload 7, 2) := by decide +kernel
theorem dX0_search_98 : decode cX0_search 98 = .ok (.aload_n 1, 1) := by decide +kernel
theorem dX0_search_99 : decode cX0_search 99 = .ok (.getfield 36, 3) := by decide +kernel
theorem dX0_search_102 : decode cX0_search 102 = .ok (.iload_n 3, 1) := by decide +kernel
theorem dX0_search_103 : decode cX0_search 103 = .ok (.iaload, 1) := by decide +kernel
theorem dX0_search_104 : decode cX0_search 104 = .ok (.imul, 1) := by decide +kernel
theorem dX0_search_105 : decode cX0_search 105 = .ok (.iadd, 1) := by decide +kernel
theorem dX0_search_106 : decode cX0_search 106 = .ok (.iload 6, 2) := by decide +kernel
theorem dX0_search_108 : decode cX0_search 108 = .ok (.iload 7, 2) := by decide +kernel
theorem dX0_search_110 : decode cX0_search 110 = .ok (.iadd, 1) := by decide +kernel
theorem dX0_search_111 : decode cX0_search 111 = .ok (.invokevirtual 50, 3) := by decide +kernel
theorem dX0_search_114 : decode cX0_search 114 = .ok (.iinc 7 (-1), 3) := by decide +kernel
theorem dX0_search_117 : decode cX0_search 117 = .ok (.goto (-51), 3) := by decide +kernel
theorem dX0_search_120 : decode cX0_search 120 = .ok (.return_, 1) := by decide +kernel
theorem dX0_isBetter_0 : decode cX0_isBetter 0 = .ok (.iload_n 1, 1) := by decide +kernel
theorem dX0_isBetter_1 : decode cX0_isBetter 1 = .ok (.aload_n 0, 1) := by decide +kernel
theorem dX0_isBetter_2 : decode cX0_isBetter 2 = .ok (.getfield 24, 3) := by decide +kernel
theorem dX0_isBetter_5 : decode cX0_isBetter 5 = .ok (.if_icmp .gt 19, 3) := by decide +kernel
theorem dX0_isBetter_8 : decode cX0_isBetter 8 = .ok (.iload_n 1, 1) := by decide +kernel
theorem dX0_isBetter_9 : decode cX0_isBetter 9 = .ok (.aload_n 0, 1) := by decide +kernel
theorem dX0_isBetter_10 : decode cX0_isBetter 10 = .ok (.getfield 24, 3) := by decide +kernel
theorem dX0_isBetter_13 : decode cX0_isBetter 13 = .ok (.if_icmp .ne 15, 3) := by decide +kernel
theorem dX0_isBetter_16 : decode cX0_isBetter 16 = .ok (.iload_n 2, 1) := by decide +kernel
theorem dX0_isBetter_17 : decode cX0_isBetter 17 = .ok (.aload_n 0, 1) := by decide +kernel
theorem dX0_isBetter_18 : decode cX0_isBetter 18 = .ok (.getfield 28, 3) := by decide +kernel
theorem dX0_isBetter_21 : decode cX0_isBetter 21 = .ok (.if_icmp .ge 7, 3) := by decide +kernel
theorem dX0_isBetter_24 : decode cX0_isBetter 24 = .ok (.iconst 1, 1) := by decide +kernel
theorem dX0_isBetter_25 : decode cX0_isBetter 25 = .ok (.goto 4, 3) := by decide +kernel
theorem dX0_isBetter_28 : decode cX0_isBetter 28 = .ok (.iconst 0, 1) := by decide +kernel
theorem dX0_isBetter_29 : decode cX0_isBetter 29 = .ok (.ireturn, 1) := by decide +kernel
theorem dX0_repeat_0 : decode cX0_repeat 0 = .ok (.iload_n 3, 1) := by decide +kernel
theorem dX0_repeat_1 : decode cX0_repeat 1 = .ok (.bipush 18, 2) := by decide +kernel
theorem dX0_repeat_3 : decode cX0_repeat 3 = .ok (.imul, 1) := by decide +kernel
theorem dX0_repeat_4 : decode cX0_repeat 4 = .ok (.istore 5, 2) := by decide +kernel
theorem dX0_repeat_6 : decode cX0_repeat 6 = .ok (.aload_n 0, 1) := by decide +kernel
theorem dX0_repeat_7 : decode cX0_repeat 7 = .ok (.getfield 11, 3) := by decide +kernel
theorem dX0_repeat_10 : decode cX0_repeat 10 = .ok (.iload 4, 2) := by decide +kernel
theorem dX0_repeat_12 : decode cX0_repeat 12 = .ok (.aload_n 0, 1) := by decide +kernel
theorem dX0_repeat_13 : decode cX0_repeat 13 = .ok (.getfield 11, 3) := by decide +kernel
theorem dX0_repeat_16 : decode cX0_repeat 16 = .ok (.iload 5, 2) := by decide +kernel
theorem dX0_repeat_18 : decode cX0_repeat 18 = .ok (.iconst 3, 1) := by decide +kernel
theorem dX0_repeat_19 : decode cX0_repeat 19 = .ok (.invokestatic 44, 3) := by decide +kernel
theorem dX0_repeat_22 : decode cX0_repeat 22 = .ok (.iconst 0, 1) := by decide +kernel
theorem dX0_repeat_23 : decode cX0_repeat 23 = .ok (.istore 6, 2) := by decide +kernel
theorem dX0_repeat_25 : decode cX0_repeat 25 = .ok (.iload 6, 2) := by decide +kernel
theorem dX0_repeat_27 : decode cX0_repeat 27 = .ok (.iconst 5, 1) := by decide +kernel
theorem dX0_repeat_28 : decode cX0_repeat 28 = .ok (.if_icmp .ge 58, 3) := by decide +kernel
theorem dX0_repeat_31 : decode cX0_repeat 31 = .ok (.aload_n 1, 1) := by decide +kernel
theorem dX0_repeat_32 : decode cX0_repeat 32 = .ok (.iload_n 2, 1) := by decide +kernel
theorem dX0_repeat_33 : decode cX0_repeat 33 = .ok (.iload_n 3, 1) := by decide +kernel
theorem dX0_repeat_34 : decode cX0_repeat 34 = .ok (.aload_n 0, 1) := by decide +kernel
theorem dX0_repeat_35 : decode cX0_repeat 35 = .ok (.getfield 11, 3) := by decide +kernel
theorem dX0_repeat_38 : decode cX0_repeat 38 = .ok (.iload 5, 2) := by decide +kernel
theorem dX0_repeat_40 : decode cX0_repeat 40 = .ok (.invokevirtual 62, 3) := by decide +kernel
theorem dX0_repeat_43 : decode cX0_repeat 43 = .ok (.ifCond .ne 6, 3) := by decide +kernel
theorem dX0_repeat_46 : decode cX0_repeat 46 = .ok (.iload 6, 2) := by decide +kernel
theorem dX0_repeat_48 : decode cX0_repeat 48 = .ok (.ireturn, 1) := by decide +kernel
theorem dX0_repeat_49 : decode cX0_repeat 49 = .ok (.aload_n 0, 1) := by decide +kernel
theorem dX0_repeat_50 : decode cX0_repeat 50 = .ok (.getfield 11, 3) := by decide +kernel
theorem dX0_repeat_53 : decode cX0_repeat 53 = .ok (.iload 5, 2) := by decide +kernel
theorem dX0_repeat_55 : decode cX0_repeat 55 = .ok (.aload_n 0, 1) := by decide +kernel
theorem dX0_repeat_56 : decode cX0_repeat 56 = .ok (.getfield 11, 3) := by decide +kernel
theorem dX0_repeat_59 : decode cX0_repeat 59 = .ok (.iload 5, 2) := by decide +kernel
theorem dX0_repeat_61 : decode cX0_repeat 61 = .ok (.iconst 3, 1) := by decide +kernel
theorem dX0_repeat_62 : decode cX0_repeat 62 = .ok (.iadd, 1) := by decide +kernel
theorem dX0_repeat_63 : decode cX0_repeat 63 = .ok (.iconst 3, 1) := by decide +kernel
theorem dX0_repeat_64 : decode cX0_repeat 64 = .ok (.invokestatic 44, 3) := by decide +kernel
theorem dX0_repeat_67 : decode cX0_repeat 67 = .ok (.iinc 5 3, 3) := by decide +kernel
theorem dX0_repeat_70 : decode cX0_repeat 70 = .ok (.aload_n 1, 1) := by decide +kernel
theorem dX0_repeat_71 : decode cX0_repeat 71 = .ok (.aload_n 0, 1) := by decide +kernel
theorem dX0_repeat_72 : decode cX0_repeat 72 = .ok (.getfield 11, 3) := by decide +kernel
theorem dX0_repeat_75 : decode cX0_repeat 75 = .ok (.iload 5, 2) := by decide +kernel
theorem dX0_repeat_77 : decode cX0_repeat 77 = .ok (.invokevirtual 66, 3) := by decide +kernel
theorem dX0_repeat_80 : decode cX0_repeat 80 = .ok (.iinc 6 1, 3) := by decide +kernel
theorem dX0_repeat_83 : decode cX0_repeat 83 = .ok (.goto (-58), 3) := by decide +kernel
theorem dX0_repeat_86 : decode cX0_repeat 86 = .ok (.iconst 5, 1) := by decide +kernel
theorem dX0_repeat_87 : decode cX0_repeat 87 = .ok (.ireturn, 1) := by decide +kernel
end
section
theorem dX1_init_0 : decode cX1_init 0 = .ok (.aload_n 0, 1) := by decide +kernel
theorem dX1_init_1 : decode cX1_init 1 = .ok (.invokespecial 3, 3) := by decide +kernel
theorem dX1_init_4 : decode cX1_init 4 = .ok (.aload_n 0, 1) := by decide +kernel
theorem dX1_init_5 : decode cX1_init 5 = .ok (.sipush 200, 3) := by decide +kernel
theorem dX1_init_8 : decode cX1_init 8 = .ok (.newarray .int, 2) := by decide +kernel
theorem dX1_init_10 : decode cX1_init 10 = .ok (.putfield 11, 3) := by decide +kernel
theorem dX1_init_13 : decode cX1_init 13 = .ok (.aload_n 0, 1) := by decide +kernel
theorem dX1_init_14 : decode cX1_init 14 = .ok (.iconst 4, 1) := by decide +kernel
theorem dX1_init_15 : decode cX1_init 15 = .ok (.newarray .int, 2) := by decide +kernel
theorem dX1_init_17 : decode cX1_init 17 = .ok (.putfield 15, 3) := by decide +kernel
theorem dX1_init_20 : decode cX1_init 20 = .ok (.return_, 1) := by decide +kernel
theorem dX1_add_0 : decode cX1_add 0 = .ok (.aload_n 0, 1) := by decide +kernel
theorem dX1_add_1 : decode cX1_add 1 = .ok (.getfield 18, 3) := by decide +kernel
theorem dX1_add_4 : decode cX1_add 4 = .ok (.sipush 200, 3) := by decide +kernel
theorem dX1_add_7 : decode cX1_add 7 = .ok (.if_icmp .lt 5, 3) := by decide +kernel
theorem dX1_add_10 : decode cX1_add 10 = .ok (.iconst 0, 1) := by decide +kernel
theorem dX1_add_11 : decode cX1_add 11 = .ok (.ireturn, 1) := by decide +kernel
theorem dX1_add_12 : decode cX1_add 12 = .ok (.aload_n 0, 1) := by decide +kernel
theorem dX1_add_13 : decode cX1_add 13 = .ok (.getfield 11, 3) := by decide +kernel
theorem dX1_add_16 : decode cX1_add 16 = .ok (.aload_n 0, 1) := by decide +kernel
theorem dX1_add_17 : decode cX1_add 17 = .ok (.getfield 18, 3) := by decide +kernel
theorem dX1_add_20 : decode cX1_add 20 = .ok (.iload_n 1, 1) := by decide +kernel
theorem dX1_add_21 : decode cX1_add 21 = .ok (.iastore, 1) := by decide +kernel
theorem dX1_add_22 : decode cX1_add 22 = .ok (.aload_n 0, 1) := by decide +kernel
theorem dX1_add_23 : decode cX1_add 23 = .ok (.dup, 1) := by decide +kernel
theorem dX1_add_24 : decode cX1_add 24 = .ok (.getfield 18, 3) := by decide +kernel
theorem dX1_add_27 : decode cX1_add 27 = .ok (.iconst 1, 1) := by decide +kernel
theorem dX1_add_28 : decode cX1_add 28 = .ok (.iadd, 1) := by decide +kernel
theorem dX1_add_29 : decode cX1_add 29 = .ok (.putfield 18, 3) := by decide +kernel
theorem dX1_add_32 : decode cX1_add 32 = .ok (.iconst 1, 1) := by decide +kernel
theorem dX1_add_33 : decode cX1_add 33 = .ok (.ireturn, 1) := by decide +kernel
theorem dX1_firstFault_0 : decode cX1_firstFault 0 = .ok (.aload_n 1, 1) := by decide +kernel
theorem dX1_firstFault_1 : decode cX1_firstFault 1 = .ok (.invokevirtual 22, 3) := by decide +kernel
theorem dX1_firstFault_4 : decode cX1_firstFault 4 = .ok (.aload_n 0, 1) := by decide +kernel
theorem dX1_firstFault_5 : decode cX1_firstFault 5 = .ok (.iconst 0, 1) := by decide +kernel
theorem dX1_firstFault_6 : decode cX1_firstFault 6 = .ok (.putfield 27, 3) := by decide +kernel
theorem dX1_firstFault_9 : decode cX1_firstFault 9 = .ok (.iconst 0, 1) := by decide +kernel
theorem dX1_firstFault_10 : decode cX1_firstFault 10 = .ok (.istore_n 2, 1) := by decide +kernel
theorem dX1_firstFault_11 : decode cX1_firstFault 11 = .ok (.iload_n 2, 1) := by decide +kernel
theorem dX1_firstFault_12 : decode cX1_firstFault 12 = .ok (.sipush 200, 3) := by decide +kernel
theorem dX1_firstFault_15 : decode cX1_firstFault 15 = .ok (.if_icmp .ge 35, 3) := by decide +kernel
theorem dX1_firstFault_18 : decode cX1_firstFault 18 = .ok (.aload_n 0, 1) := by decide +kernel
theorem dX1_firstFault_19 : decode cX1_firstFault 19 = .ok (.getfield 27, 3) := by decide +kernel
theorem dX1_firstFault_22 : decode cX1_firstFault 22 = .ok (.aload_n 0, 1) := by decide +kernel
theorem dX1_firstFault_23 : decode cX1_firstFault 23 = .ok (.getfield 18, 3) := by decide +kernel
theorem dX1_firstFault_26 : decode cX1_firstFault 26 = .ok (.if_icmp .ge 24, 3) := by decide +kernel
theorem dX1_firstFault_29 : decode cX1_firstFault 29 = .ok (.aload_n 0, 1) := by decide +kernel
theorem dX1_firstFault_30 : decode cX1_firstFault 30 = .ok (.getfield 27, 3) := by decide +kernel
theorem dX1_firstFault_33 : decode cX1_firstFault 33 = .ok (.istore_n 3, 1) := by decide +kernel
theorem dX1_firstFault_34 : decode cX1_firstFault 34 = .ok (.aload_n 0, 1) := by decide +kernel
theorem dX1_firstFault_35 : decode cX1_firstFault 35 = .ok (.aload_n 1, 1) := by decide +kernel
theorem dX1_firstFault_36 : decode cX1_firstFault 36 = .ok (.invokevirtual 30, 3) := by decide +kernel
theorem dX1_firstFault_39 : decode cX1_firstFault 39 = .ok (.ifCond .ne 5, 3) := by decide +kernel
theorem dX1_firstFault_42 : decode cX1_firstFault 42 = .ok (.iload_n 3, 1) := by decide +kernel
theorem dX1_firstFault_43 : decode cX1_firstFault 43 = .ok (.ireturn, 1) := by decide +kernel
theorem dX1_firstFault_44 : decode cX1_firstFault 44 = .ok (.iinc 2 1, 3) := by decide +kernel
theorem dX1_firstFault_47 : decode cX1_firstFault 47 = .ok (.goto (-36), 3) := by decide +kernel
theorem dX1_firstFault_50 : decode cX1_firstFault 50 = .ok (.bipush (-4), 2) := by decide +kernel
theorem dX1_firstFault_52 : decode cX1_firstFault 52 = .ok (.ireturn, 1) := by decide +kernel
theorem dX1_readItem_0 : decode cX1_readItem 0 = .ok (.aload_n 0, 1) := by decide +kernel
theorem dX1_readItem_1 : decode cX1_readItem 1 = .ok (.invokevirtual 34, 3) := by decide +kernel
theorem dX1_readItem_4 : decode cX1_readItem 4 = .ok (.istore_n 2, 1) := by decide +kernel
theorem dX1_readItem_5 : decode cX1_readItem 5 = .ok (.iload_n 2, 1) := by decide +kernel
theorem dX1_readItem_6 : decode cX1_readItem 6 = .ok (.invokestatic 38, 3) := by decide +kernel
theorem dX1_readItem_9 : decode cX1_readItem 9 = .ok (.istore_n 3, 1) := by decide +kernel
theorem dX1_readItem_10 : decode cX1_readItem 10 = .ok (.iconst 0, 1) := by decide +kernel
theorem dX1_readItem_11 : decode cX1_readItem 11 = .ok (.istore 4, 2) := by decide +kernel
theorem dX1_readItem_13 : decode cX1_readItem 13 = .ok (.iload 4, 2) := by decide +kernel
theorem dX1_readItem_15 : decode cX1_readItem 15 = .ok (.iload_n 3, 1) := by decide +kernel
theorem dX1_readItem_16 : decode cX1_readItem 16 = .ok (.if_icmp .ge 58, 3) := by decide +kernel
theorem dX1_readItem_19 : decode cX1_readItem 19 = .ok (.aload_n 0, 1) := by decide +kernel
theorem dX1_readItem_20 : decode cX1_readItem 20 = .ok (.getfield 15, 3) := by decide +kernel
theorem dX1_readItem_23 : decode cX1_readItem 23 = .ok (.iload 4, 2) := by decide +kernel
theorem dX1_readItem_25 : decode cX1_readItem 25 = .ok (.aload_n 0, 1) := by decide +kernel
theorem dX1_readItem_26 : decode cX1_readItem 26 = .ok (.invokevirtual 42, 3) := by decide +kernel
theorem dX1_readItem_29 : decode cX1_readItem 29 = .ok (.iastore, 1) := by decide +kernel
theorem dX1_readItem_30 : decode cX1_readItem 30 = .ok (.iload 4, 2) := by decide +kernel
theorem dX1_readItem_32 : decode cX1_readItem 32 = .ok (.iload_n 3, 1) := by decide +kernel
theorem dX1_readItem_33 : decode cX1_readItem 33 = .ok (.iconst 1, 1) := by decide +kernel
theorem dX1_readItem_34 : decode cX1_readItem 34 = .ok (.isub, 1) := by decide +kernel
theorem dX1_readItem_35 : decode cX1_readItem 35 = .ok (.if_icmp .ne 8, 3) := by decide +kernel
theorem dX1_readItem_38 : decode cX1_readItem 38 = .ok (.bipush 59, 2) := by decide +kernel
theorem dX1_readItem_40 : decode cX1_readItem 40 = .ok (.goto 5, 3) := by decide +kernel
theorem dX1_readItem_43 : decode cX1_readItem 43 = .ok (.bipush 44, 2) := by decide +kernel
theorem dX1_readItem_45 : decode cX1_readItem 45 = .ok (.istore 5, 2) := by decide +kernel
theorem dX1_readItem_47 : decode cX1_readItem 47 = .ok (.aload_n 0, 1) := by decide +kernel
theorem dX1_readItem_48 : decode cX1_readItem 48 = .ok (.getfield 15, 3) := by decide +kernel
theorem dX1_readItem_51 : decode cX1_readItem 51 = .ok (.iload 4, 2) := by decide +kernel
theorem dX1_readItem_53 : decode cX1_readItem 53 = .ok (.iaload, 1) := by decide +kernel
theorem dX1_readItem_54 : decode cX1_readItem 54 = .ok (.ifCond .lt 12, 3) := by decide +kernel
theorem dX1_readItem_57 : decode cX1_readItem 57 = .ok (.aload_n 0, 1) := by decide +kernel
theorem dX1_readItem_58 : decode cX1_readItem 58 = .ok (.invokevirtual 34, 3) := by decide +kernel
theorem dX1_readItem_61 : decode cX1_readItem 61 = .ok (.iload 5, 2) := by decide +kernel
theorem dX1_readItem_63 : decode cX1_readItem 63 = .ok (.if_icmp .eq 5, 3) := by decide +kernel
theorem dX1_readItem_66 : decode cX1_readItem 66 = .ok (.iconst 0, 1) := by decide +kernel
theorem dX1_readItem_67 : decode cX1_readItem 67 = .ok (.ireturn, 1) := by decide +kernel
theorem dX1_readItem_68 : decode cX1_readItem 68 = .ok (.iinc 4 1, 3) := by decide +kernel
theorem dX1_readItem_71 : decode cX1_readItem 71 = .ok (.goto (-58), 3) := by decide +kernel
theorem dX1_readItem_74 : decode cX1_readItem 74 = .ok (.aload_n 1, 1) := by decide +kernel
theorem dX1_readItem_75 : decode cX1_readItem 75 = .ok (.iload_n 2, 1) := by decide +kernel
theorem dX1_readItem_76 : decode cX1_readItem 76 = .ok (.aload_n 0, 1) := by decide +kernel
theorem dX1_readItem_77 : decode cX1_readItem 77 = .ok (.getfield 15, 3) := by decide +kernel
theorem dX1_readItem_80 : decode cX1_readItem 80 = .ok (.invokevirtual 45, 3) := by decide +kernel
theorem dX1_readItem_83 : decode cX1_readItem 83 = .ok (.ireturn, 1) := by decide +kernel
theorem dX1_numbersBehind_0 : decode cX1_numbersBehind 0 = .ok (.iload_n 0, 1) := by decide +kernel
theorem dX1_numbersBehind_1 : decode cX1_numbersBehind 1 = .ok (.lookupswitch 49 #[(99, 47), (100, 43), (104, 45), (112, 43)], 43) := by decide +kernel
theorem dX1_numbersBehind_44 : decode cX1_numbersBehind 44 = .ok (.iconst 4, 1) := by decide +kernel
theorem dX1_numbersBehind_45 : decode cX1_numbersBehind 45 = .ok (.ireturn, 1) := by decide +kernel
theorem dX1_numbersBehind_46 : decode cX1_numbersBehind 46 = .ok (.iconst 3, 1) := by decide +kernel
theorem dX1_numbersBehind_47 : decode cX1_numbersBehind 47 = .ok (.ireturn, 1) := by decide +kernel
theorem dX1_numbersBehind_48 : decode cX1_numbersBehind 48 = .ok (.iconst 1, 1) := by decide +kernel
theorem dX1_numbersBehind_49 : decode cX1_numbersBehind 49 = .ok (.ireturn, 1) := by decide +kernel
theorem dX1_numbersBehind_50 : decode cX1_numbersBehind 50 = .ok (.iconst 0, 1) := by decide +kernel
theorem dX1_numbersBehind_51 : decode cX1_numbersBehind 51 = .ok (.ireturn, 1) := by decide +kernel
theorem dX1_readLetter_0 : decode cX1_readLetter 0 = .ok (.aload_n 0, 1) := by decide +kernel
theorem dX1_readLetter_1 : decode cX1_readLetter 1 = .ok (.getfield 27, 3) := by decide +kernel
theorem dX1_readLetter_4 : decode cX1_readLetter 4 = .ok (.aload_n 0, 1) := by decide +kernel
theorem dX1_readLetter_5 : decode cX1_readLetter 5 = .ok (.getfield 18, 3) := by decide +kernel
theorem dX1_readLetter_8 : decode cX1_readLetter 8 = .ok (.if_icmp .lt 6, 3) := by decide +kernel
theorem dX1_readLetter_11 : decode cX1_readLetter 11 = .ok (.bipush (-4), 2) := by decide +kernel
theorem dX1_readLetter_13 : decode cX1_readLetter 13 = .ok (.ireturn, 1) := by decide +kernel
theorem dX1_readLetter_14 : decode cX1_readLetter 14 = .ok (.aload_n 0, 1) := by decide +kernel
theorem dX1_readLetter_15 : decode cX1_readLetter 15 = .ok (.dup, 1) := by decide +kernel
theorem dX1_readLetter_16 : decode cX1_readLetter 16 = .ok (.getfield 27, 3) := by decide +kernel
theorem dX1_readLetter_19 : decode cX1_readLetter 19 = .ok (.iconst 1, 1) := by decide +kernel
theorem dX1_readLetter_20 : decode cX1_readLetter 20 = .ok (.iadd, 1) := by decide +kernel
theorem dX1_readLetter_21 : decode cX1_readLetter 21 = .ok (.putfield 27, 3) := by decide +kernel
theorem dX1_readLetter_24 : decode cX1_readLetter 24 = .ok (.aload_n 0, 1) := by decide +kernel
theorem dX1_readLetter_25 : decode cX1_readLetter 25 = .ok (.getfield 11, 3) := by decide +kernel
theorem dX1_readLetter_28 : decode cX1_readLetter 28 = .ok (.aload_n 0, 1) := by decide +kernel
theorem dX1_readLetter_29 : decode cX1_readLetter 29 = .ok (.getfield 27, 3) := by decide +kernel
theorem dX1_readLetter_32 : decode cX1_readLetter 32 = .ok (.iconst 1, 1) := by decide +kernel
theorem dX1_readLetter_33 : decode cX1_readLetter 33 = .ok (.isub, 1) := by decide +kernel
theorem dX1_readLetter_34 : decode cX1_readLetter 34 = .ok (.iaload, 1) := by decide +kernel
theorem dX1_readLetter_35 : decode cX1_readLetter 35 = .ok (.ireturn, 1) := by decide +kernel
theorem dX1_readNumber_0 : decode cX1_readNumber 0 = .ok (.bipush (-4), 2) := by decide +kernel
theorem dX1_readNumber_2 : decode cX1_readNumber 2 = .ok (.istore_n 1, 1) := by decide +kernel
theorem dX1_readNumber_3 : decode cX1_readNumber 3 = .ok (.iconst 0, 1) := by decide +kernel
theorem dX1_readNumber_4 : decode cX1_readNumber 4 = .ok (.istore_n 2, 1) := by decide +kernel
theorem dX1_readNumber_5 : decode cX1_readNumber 5 = .ok (.iload_n 2, 1) := by decide +kernel
theorem dX1_readNumber_6 : decode cX1_readNumber 6 = .ok (.iconst 2, 1) := by decide +kernel
theorem dX1_readNumber_7 : decode cX1_readNumber 7 = .ok (.if_icmp .ge 72, 3) := by decide +kernel
theorem dX1_readNumber_10 : decode cX1_readNumber 10 = .ok (.aload_n 0, 1) := by decide +kernel
theorem dX1_readNumber_11 : decode cX1_readNumber 11 = .ok (.getfield 27, 3) := by decide +kernel
theorem dX1_readNumber_14 : decode cX1_readNumber 14 = .ok (.aload_n 0, 1) := by decide +kernel
theorem dX1_readNumber_15 : decode cX1_readNumber 15 = .ok (.getfield 18, 3) := by decide +kernel
theorem dX1_readNumber_18 : decode cX1_readNumber 18 = .ok (.if_icmp .ge 61, 3) := by decide +kernel
theorem dX1_readNumber_21 : decode cX1_readNumber 21 = .ok (.aload_n 0, 1) := by decide +kernel
theorem dX1_readNumber_22 : decode cX1_readNumber 22 = .ok (.getfield 11, 3) := by decide +kernel
theorem dX1_readNumber_25 : decode cX1_readNumber 25 = .ok (.aload_n 0, 1) := by decide +kernel
theorem dX1_readNumber_26 : decode cX1_readNumber 26 = .ok (.getfield 27, 3) := by decide +kernel
theorem dX1_readNumber_29 : decode cX1_readNumber 29 = .ok (.iaload, 1) := by decide +kernel
theorem dX1_readNumber_30 : decode cX1_readNumber 30 = .ok (.istore_n 3, 1) := by decide +kernel
theorem dX1_readNumber_31 : decode cX1_readNumber 31 = .ok (.iload_n 3, 1) := by decide +kernel
theorem dX1_readNumber_32 : decode cX1_readNumber 32 = .ok (.bipush 48, 2) := by decide +kernel
theorem dX1_readNumber_34 : decode cX1_readNumber 34 = .ok (.bipush 57, 2) := by decide +kernel
theorem dX1_readNumber_36 : decode cX1_readNumber 36 = .ok (.invokestatic 49, 3) := by decide +kernel
theorem dX1_readNumber_39 : decode cX1_readNumber 39 = .ok (.ifCond .ne 6, 3) := by decide +kernel
theorem dX1_readNumber_42 : decode cX1_readNumber 42 = .ok (.goto 37, 3) := by decide +kernel
theorem dX1_readNumber_45 : decode cX1_readNumber 45 = .ok (.iload_n 2, 1) := by decide +kernel
theorem dX1_readNumber_46 : decode cX1_readNumber 46 = .ok (.ifCond .ne 7, 3) := by decide +kernel
theorem dX1_readNumber_49 : decode cX1_readNumber 49 = .ok (.iconst 0, 1) := by decide +kernel
theorem dX1_readNumber_50 : decode cX1_readNumber 50 = .ok (.goto 7, 3) := by decide +kernel
theorem dX1_readNumber_53 : decode cX1_readNumber 53 = .ok (.iload_n 1, 1) := by decide +kernel
theorem dX1_readNumber_54 : decode cX1_readNumber 54 = .ok (.bipush 10, 2) := by decide +kernel
theorem dX1_readNumber_56 : decode cX1_readNumber 56 = .ok (.imul, 1) := by decide +kernel
theorem dX1_readNumber_57 : decode cX1_readNumber 57 = .ok (.iload_n 3, 1) := by decide +kernel
theorem dX1_readNumber_58 : decode cX1_readNumber 58 = .ok (.iadd, 1) := by decide +kernel
theorem dX1_readNumber_59 : decode cX1_readNumber 59 = .ok (.bipush 48, 2) := by decide +kernel
theorem dX1_readNumber_61 : decode cX1_readNumber 61 = .ok (.isub, 1) := by decide +kernel
theorem dX1_readNumber_62 : decode cX1_readNumber 62 = .ok (.istore_n 1, 1) := by decide +kernel
theorem dX1_readNumber_63 : decode cX1_readNumber 63 = .ok (.aload_n 0, 1) := by decide +kernel
theorem dX1_readNumber_64 : decode cX1_readNumber 64 = .ok (.dup, 1) := by decide +kernel
theorem dX1_readNumber_65 : decode cX1_readNumber 65 = .ok (.getfield 27, 3) := by decide +kernel
theorem dX1_readNumber_68 : decode cX1_readNumber 68 = .ok (.iconst 1, 1) := by decide +kernel
theorem dX1_readNumber_69 : decode cX1_readNumber 69 = .ok (.iadd, 1) := by decide +kernel
theorem dX1_readNumber_70 : decode cX1_readNumber 70 = .ok (.putfield 27, 3) := by decide +kernel
theorem dX1_readNumber_73 : decode cX1_readNumber 73 = .ok (.iinc 2 1, 3) := by decide +kernel
theorem dX1_readNumber_76 : decode cX1_readNumber 76 = .ok (.goto (-71), 3) := by decide +kernel
theorem dX1_readNumber_79 : decode cX1_readNumber 79 = .ok (.iload_n 1, 1) := by decide +kernel
theorem dX1_readNumber_80 : decode cX1_readNumber 80 = .ok (.ireturn, 1) := by decide +kernel
end
section
theorem dX2_init_0 : decode cX2_init 0 = .ok (.aload_n 0, 1) := by decide +kernel
theorem dX2_init_1 : decode cX2_init 1 = .ok (.invokespecial 1, 3) := by decide +kernel
theorem dX2_init_4 : decode cX2_init 4 = .ok (.aload_n 0, 1) := by decide +kernel
theorem dX2_init_5 : decode cX2_init 5 = .ok (.iconst 1, 1) := by decide +kernel
theorem dX2_init_6 : decode cX2_init 6 = .ok (.iload_n 1, 1) := by decide +kernel
theorem dX2_init_7 : decode cX2_init 7 = .ok (.invokestatic 7, 3) := by decide +kernel
theorem dX2_init_10 : decode cX2_init 10 = .ok (.anewarray 13, 3) := by decide +kernel
theorem dX2_init_13 : decode cX2_init 13 = .ok (.putfield 15, 3) := by decide +kernel
theorem dX2_init_16 : decode cX2_init 16 = .ok (.iconst 0, 1) := by decide +kernel
theorem dX2_init_17 : decode cX2_init 17 = .ok (.istore_n 2, 1) := by decide +kernel
theorem dX2_init_18 : decode cX2_init 18 = .ok (.iload_n 2, 1) := by decide +kernel
theorem dX2_init_19 : decode cX2_init 19 = .ok (.aload_n 0, 1) := by decide +kernel
theorem dX2_init_20 : decode cX2_init 20 = .ok (.getfield 15, 3) := by decide +kernel
theorem dX2_init_23 : decode cX2_init 23 = .ok (.arraylength, 1) := by decide +kernel
theorem dX2_init_24 : decode cX2_init 24 = .ok (.if_icmp .ge 22, 3) := by decide +kernel
theorem dX2_init_27 : decode cX2_init 27 = .ok (.aload_n 0, 1) := by decide +kernel
theorem dX2_init_28 : decode cX2_init 28 = .ok (.getfield 15, 3) := by decide +kernel
theorem dX2_init_31 : decode cX2_init 31 = .ok (.iload_n 2, 1) := by decide +kernel
theorem dX2_init_32 : decode cX2_init 32 = .ok (.new 13, 3) := by decide +kernel
theorem dX2_init_35 : decode cX2_init 35 = .ok (.dup, 1) := by decide +kernel
theorem dX2_init_36 : decode cX2_init 36 = .ok (.invokespecial 21, 3) := by decide +kernel
theorem dX2_init_39 : decode cX2_init 39 = .ok (.aastore, 1) := by decide +kernel
theorem dX2_init_40 : decode cX2_init 40 = .ok (.iinc 2 1, 3) := by decide +kernel
theorem dX2_init_43 : decode cX2_init 43 = .ok (.goto (-25), 3) := by decide +kernel
theorem dX2_init_46 : decode cX2_init 46 = .ok (.return_, 1) := by decide +kernel
theorem dX2_put_0 : decode cX2_put 0 = .ok (.aload_n 0, 1) := by decide +kernel
theorem dX2_put_1 : decode cX2_put 1 = .ok (.aload_n 0, 1) := by decide +kernel
theorem dX2_put_2 : decode cX2_put 2 = .ok (.getfield 22, 3) := by decide +kernel
theorem dX2_put_5 : decode cX2_put 5 = .ok (.iconst 1, 1) := by decide +kernel
theorem dX2_put_6 : decode cX2_put 6 = .ok (.iadd, 1) := by decide +kernel
theorem dX2_put_7 : decode cX2_put 7 = .ok (.aload_n 0, 1) := by decide +kernel
theorem dX2_put_8 : decode cX2_put 8 = .ok (.getfield 15, 3) := by decide +kernel
theorem dX2_put_11 : decode cX2_put 11 = .ok (.arraylength, 1) := by decide +kernel
theorem dX2_put_12 : decode cX2_put 12 = .ok (.irem, 1) := by decide +kernel
theorem dX2_put_13 : decode cX2_put 13 = .ok (.putfield 22, 3) := by decide +kernel
theorem dX2_put_16 : decode cX2_put 16 = .ok (.aload_n 0, 1) := by decide +kernel
theorem dX2_put_17 : decode cX2_put 17 = .ok (.getfield 15, 3) := by decide +kernel
theorem dX2_put_20 : decode cX2_put 20 = .ok (.aload_n 0, 1) := by decide +kernel
theorem dX2_put_21 : decode cX2_put 21 = .ok (.getfield 22, 3) := by decide +kernel
theorem dX2_put_24 : decode cX2_put 24 = .ok (.aaload, 1) := by decide +kernel
theorem dX2_put_25 : decode cX2_put 25 = .ok (.aload_n 1, 1) := by decide +kernel
theorem dX2_put_26 : decode cX2_put 26 = .ok (.invokevirtual 26, 3) := by decide +kernel
theorem dX2_put_29 : decode cX2_put 29 = .ok (.aload_n 0, 1) := by decide +kernel
theorem dX2_put_30 : decode cX2_put 30 = .ok (.aload_n 0, 1) := by decide +kernel
theorem dX2_put_31 : decode cX2_put 31 = .ok (.getfield 15, 3) := by decide +kernel
theorem dX2_put_34 : decode cX2_put 34 = .ok (.arraylength, 1) := by decide +kernel
theorem dX2_put_35 : decode cX2_put 35 = .ok (.aload_n 0, 1) := by decide +kernel
theorem dX2_put_36 : decode cX2_put 36 = .ok (.getfield 30, 3) := by decide +kernel
theorem dX2_put_39 : decode cX2_put 39 = .ok (.iconst 1, 1) := by decide +kernel
theorem dX2_put_40 : decode cX2_put 40 = .ok (.iadd, 1) := by decide +kernel
theorem dX2_put_41 : decode cX2_put 41 = .ok (.invokestatic 33, 3) := by decide +kernel
theorem dX2_put_44 : decode cX2_put 44 = .ok (.putfield 30, 3) := by decide +kernel
theorem dX2_put_47 : decode cX2_put 47 = .ok (.return_, 1) := by decide +kernel
theorem dX2_takeLast_0 : decode cX2_takeLast 0 = .ok (.aload_n 0, 1) := by decide +kernel
theorem dX2_takeLast_1 : decode cX2_takeLast 1 = .ok (.getfield 30, 3) := by decide +kernel
theorem dX2_takeLast_4 : decode cX2_takeLast 4 = .ok (.ifCond .ne 5, 3) := by decide +kernel
theorem dX2_takeLast_7 : decode cX2_takeLast 7 = .ok (.iconst 0, 1) := by decide +kernel
theorem dX2_takeLast_8 : decode cX2_takeLast 8 = .ok (.ireturn, 1) := by decide +kernel
theorem dX2_takeLast_9 : decode cX2_takeLast 9 = .ok (.aload_n 1, 1) := by decide +kernel
theorem dX2_takeLast_10 : decode cX2_takeLast 10 = .ok (.aload_n 0, 1) := by decide +kernel
theorem dX2_takeLast_11 : decode cX2_takeLast 11 = .ok (.getfield 15, 3) := by decide +kernel
theorem dX2_takeLast_14 : decode cX2_takeLast 14 = .ok (.aload_n 0, 1) := by decide +kernel
theorem dX2_takeLast_15 : decode cX2_takeLast 15 = .ok (.getfield 22, 3) := by decide +kernel
theorem dX2_takeLast_18 : decode cX2_takeLast 18 = .ok (.aaload, 1) := by decide +kernel
theorem dX2_takeLast_19 : decode cX2_takeLast 19 = .ok (.invokevirtual 26, 3) := by decide +kernel
theorem dX2_takeLast_22 : decode cX2_takeLast 22 = .ok (.aload_n 0, 1) := by decide +kernel
theorem dX2_takeLast_23 : decode cX2_takeLast 23 = .ok (.aload_n 0, 1) := by decide +kernel
theorem dX2_takeLast_24 : decode cX2_takeLast 24 = .ok (.getfield 22, 3) := by decide +kernel
theorem dX2_takeLast_27 : decode cX2_takeLast 27 = .ok (.aload_n 0, 1) := by decide +kernel
theorem dX2_takeLast_28 : decode cX2_takeLast 28 = .ok (.getfield 15, 3) := by decide +kernel
theorem dX2_takeLast_31 : decode cX2_takeLast 31 = .ok (.arraylength, 1) := by decide +kernel
theorem dX2_takeLast_32 : decode cX2_takeLast 32 = .ok (.iadd, 1) := by decide +kernel
theorem dX2_takeLast_33 : decode cX2_takeLast 33 = .ok (.iconst 1, 1) := by decide +kernel
theorem dX2_takeLast_34 : decode cX2_takeLast 34 = .ok (.isub, 1) := by decide +kernel
theorem dX2_takeLast_35 : decode cX2_takeLast 35 = .ok (.aload_n 0, 1) := by decide +kernel
theorem dX2_takeLast_36 : decode cX2_takeLast 36 = .ok (.getfield 15, 3) := by decide +kernel
theorem dX2_takeLast_39 : decode cX2_takeLast 39 = .ok (.arraylength, 1) := by decide +kernel
theorem dX2_takeLast_40 : decode cX2_takeLast 40 = .ok (.irem, 1) := by decide +kernel
theorem dX2_takeLast_41 : decode cX2_takeLast 41 = .ok (.putfield 22, 3) := by decide +kernel
theorem dX2_takeLast_44 : decode cX2_takeLast 44 = .ok (.aload_n 0, 1) := by decide +kernel
theorem dX2_takeLast_45 : decode cX2_takeLast 45 = .ok (.dup, 1) := by decide +kernel
theorem dX2_takeLast_46 : decode cX2_takeLast 46 = .ok (.getfield 30, 3) := by decide +kernel
theorem dX2_takeLast_49 : decode cX2_takeLast 49 = .ok (.iconst 1, 1) := by decide +kernel
theorem dX2_takeLast_50 : decode cX2_takeLast 50 = .ok (.isub, 1) := by decide +kernel
theorem dX2_takeLast_51 : decode cX2_takeLast 51 = .ok (.putfield 30, 3) := by decide +kernel
theorem dX2_takeLast_54 : decode cX2_takeLast 54 = .ok (.iconst 1, 1) := by decide +kernel
theorem dX2_takeLast_55 : decode cX2_takeLast 55 = .ok (.ireturn, 1) := by decide +kernel
end
section
theorem dX3_init_0 : decode cX3_init 0 = .ok (.aload_n 0, 1) := by decide +kernel
theorem dX3_init_1 : decode cX3_init 1 = .ok (.invokespecial 3, 3) := by decide +kernel
theorem dX3_init_4 : decode cX3_init 4 = .ok (.aload_n 0, 1) := by decide +kernel
theorem dX3_init_5 : decode cX3_init 5 = .ok (.bipush 18, 2) := by decide +kernel
theorem dX3_init_7 : decode cX3_init 7 = .ok (.newarray .int, 2) := by decide +kernel
theorem dX3_init_9 : decode cX3_init 9 = .ok (.putfield 9, 3) := by decide +kernel
theorem dX3_init_12 : decode cX3_init 12 = .ok (.aload_n 0, 1) := by decide +kernel
theorem dX3_init_13 : decode cX3_init 13 = .ok (.bipush 6, 2) := by decide +kernel
theorem dX3_init_15 : decode cX3_init 15 = .ok (.newarray .int, 2) := by decide +kernel
theorem dX3_init_17 : decode cX3_init 17 = .ok (.putfield 15, 3) := by decide +kernel
theorem dX3_init_20 : decode cX3_init 20 = .ok (.aload_n 0, 1) := by decide +kernel
theorem dX3_init_21 : decode cX3_init 21 = .ok (.bipush 6, 2) := by decide +kernel
theorem dX3_init_23 : decode cX3_init 23 = .ok (.newarray .int, 2) := by decide +kernel
theorem dX3_init_25 : decode cX3_init 25 = .ok (.putfield 18, 3) := by decide +kernel
theorem dX3_init_28 : decode cX3_init 28 = .ok (.return_, 1) := by decide +kernel
theorem dX3_begin_0 : decode cX3_begin 0 = .ok (.aload_n 0, 1) := by decide +kernel
theorem dX3_begin_1 : decode cX3_begin 1 = .ok (.iconst 0, 1) := by decide +kernel
theorem dX3_begin_2 : decode cX3_begin 2 = .ok (.putfield 21, 3) := by decide +kernel
theorem dX3_begin_5 : decode cX3_begin 5 = .ok (.aload_n 1, 1) := by decide +kernel
theorem dX3_begin_6 : decode cX3_begin 6 = .ok (.getfield 25, 3) := by decide +kernel
theorem dX3_begin_9 : decode cX3_begin 9 = .ok (.iconst 0, 1) := by decide +kernel
theorem dX3_begin_10 : decode cX3_begin 10 = .ok (.aload_n 0, 1) := by decide +kernel
theorem dX3_begin_11 : decode cX3_begin 11 = .ok (.getfield 9, 3) := by decide +kernel
theorem dX3_begin_14 : decode cX3_begin 14 = .ok (.iconst 0, 1) := by decide +kernel
theorem dX3_begin_15 : decode cX3_begin 15 = .ok (.aload_n 0, 1) := by decide +kernel
theorem dX3_begin_16 : decode cX3_begin 16 = .ok (.getfield 9, 3) := by decide +kernel
theorem dX3_begin_19 : decode cX3_begin 19 = .ok (.arraylength, 1) := by decide +kernel
theorem dX3_begin_20 : decode cX3_begin 20 = .ok (.invokestatic 30, 3) := by decide +kernel
theorem dX3_begin_23 : decode cX3_begin 23 = .ok (.iconst 0, 1) := by decide +kernel
theorem dX3_begin_24 : decode cX3_begin 24 = .ok (.istore_n 2, 1) := by decide +kernel
theorem dX3_begin_25 : decode cX3_begin 25 = .ok (.iload_n 2, 1) := by decide +kernel
theorem dX3_begin_26 : decode cX3_begin 26 = .ok (.bipush 6, 2) := by decide +kernel
theorem dX3_begin_28 : decode cX3_begin 28 = .ok (.if_icmp .ge 23, 3) := by decide +kernel
theorem dX3_begin_31 : decode cX3_begin 31 = .ok (.aload_n 0, 1) := by decide +kernel
theorem dX3_begin_32 : decode cX3_begin 32 = .ok (.getfield 15, 3) := by decide +kernel
theorem dX3_begin_35 : decode cX3_begin 35 = .ok (.iload_n 2, 1) := by decide +kernel
theorem dX3_begin_36 : decode cX3_begin 36 = .ok (.iconst 0, 1) := by decide +kernel
theorem dX3_begin_37 : decode cX3_begin 37 = .ok (.iastore, 1) := by decide +kernel
theorem dX3_begin_38 : decode cX3_begin 38 = .ok (.aload_n 0, 1) := by decide +kernel
theorem dX3_begin_39 : decode cX3_begin 39 = .ok (.getfield 18, 3) := by decide +kernel
theorem dX3_begin_42 : decode cX3_begin 42 = .ok (.iload_n 2, 1) := by decide +kernel
theorem dX3_begin_43 : decode cX3_begin 43 = .ok (.iconst 0, 1) := by decide +kernel
theorem dX3_begin_44 : decode cX3_begin 44 = .ok (.iastore, 1) := by decide +kernel
theorem dX3_begin_45 : decode cX3_begin 45 = .ok (.iinc 2 1, 3) := by decide +kernel
theorem dX3_begin_48 : decode cX3_begin 48 = .ok (.goto (-23), 3) := by decide +kernel
theorem dX3_begin_51 : decode cX3_begin 51 = .ok (.return_, 1) := by decide +kernel
theorem dX3_copyFrom_0 : decode cX3_copyFrom 0 = .ok (.aload_n 1, 1) := by decide +kernel
theorem dX3_copyFrom_1 : decode cX3_copyFrom 1 = .ok (.getfield 9, 3) := by decide +kernel
theorem dX3_copyFrom_4 : decode cX3_copyFrom 4 = .ok (.iconst 0, 1) := by decide +kernel
theorem dX3_copyFrom_5 : decode cX3_copyFrom 5 = .ok (.aload_n 0, 1) := by decide +kernel
theorem dX3_copyFrom_6 : decode cX3_copyFrom 6 = .ok (.getfield 9, 3) := by decide +kernel
theorem dX3_copyFrom_9 : decode cX3_copyFrom 9 = .ok (.iconst 0, 1) := by decide +kernel
theorem dX3_copyFrom_10 : decode cX3_copyFrom 10 = .ok (.aload_n 0, 1) := by decide +kernel
theorem dX3_copyFrom_11 : decode cX3_copyFrom 11 = .ok (.getfield 9, 3) := by decide +kernel
theorem dX3_copyFrom_14 : decode cX3_copyFrom 14 = .ok (.arraylength, 1) := by decide +kernel
theorem dX3_copyFrom_15 : decode cX3_copyFrom 15 = .ok (.invokestatic 30, 3) := by decide +kernel
theorem dX3_copyFrom_18 : decode cX3_copyFrom 18 = .ok (.aload_n 1, 1) := by decide +kernel
theorem dX3_copyFrom_19 : decode cX3_copyFrom 19 = .ok (.getfield 15, 3) := by decide +kernel
theorem dX3_copyFrom_22 : decode cX3_copyFrom 22 = .ok (.iconst 0, 1) := by decide +kernel
theorem dX3_copyFrom_23 : decode cX3_copyFrom 23 = .ok (.aload_n 0, 1) := by decide +kernel
theorem dX3_copyFrom_24 : decode cX3_copyFrom 24 = .ok (.getfield 15, 3) := by decide +kernel
theorem dX3_copyFrom_27 : decode cX3_copyFrom 27 = .ok (.iconst 0, 1) := by decide +kernel
theorem dX3_copyFrom_28 : decode cX3_copyFrom 28 = .ok (.aload_n 0, 1) := by decide +kernel
theorem dX3_copyFrom_29 : decode cX3_copyFrom 29 = .ok (.getfield 15, 3) := by decide +kernel
theorem dX3_copyFrom_32 : decode cX3_copyFrom 32 = .ok (.arraylength, 1) := by decide +kernel
theorem dX3_copyFrom_33 : decode cX3_copyFrom 33 = .ok (.invokestatic 30, 3) := by decide +kernel
theorem dX3_copyFrom_36 : decode cX3_copyFrom 36 = .ok (.aload_n 1, 1) := by decide +kernel
theorem dX3_copyFrom_37 : decode cX3_copyFrom 37 = .ok (.getfield 18, 3) := by decide +kernel
theorem dX3_copyFrom_40 : decode cX3_copyFrom 40 = .ok (.iconst 0, 1) := by decide +kernel
theorem dX3_copyFrom_41 : decode cX3_copyFrom 41 = .ok (.aload_n 0, 1) := by decide +kernel
theorem dX3_copyFrom_42 : decode cX3_copyFrom 42 = .ok (.getfield 18, 3) := by decide +kernel
theorem dX3_copyFrom_45 : decode cX3_copyFrom 45 = .ok (.iconst 0, 1) := by decide +kernel
theorem dX3_copyFrom_46 : decode cX3_copyFrom 46 = .ok (.aload_n 0, 1) := by decide +kernel
theorem dX3_copyFrom_47 : decode cX3_copyFrom 47 = .ok (.getfield 18, 3) := by decide +kernel
theorem dX3_copyFrom_50 : decode cX3_copyFrom 50 = .ok (.arraylength, 1) := by decide +kernel
theorem dX3_copyFrom_51 : decode cX3_copyFrom 51 = .ok (.invokestatic 30, 3) := by decide +kernel
theorem dX3_copyFrom_54 : decode cX3_copyFrom 54 = .ok (.aload_n 0, 1) := by decide +kernel
theorem dX3_copyFrom_55 : decode cX3_copyFrom 55 = .ok (.aload_n 1, 1) := by decide +kernel
theorem dX3_copyFrom_56 : decode cX3_copyFrom 56 = .ok (.getfield 21, 3) := by decide +kernel
theorem dX3_copyFrom_59 : decode cX3_copyFrom 59 = .ok (.putfield 21, 3) := by decide +kernel
theorem dX3_copyFrom_62 : decode cX3_copyFrom 62 = .ok (.return_, 1) := by decide +kernel
theorem dX3_weekday_0 : decode cX3_weekday 0 = .ok (.aload_n 0, 1) := by decide +kernel
theorem dX3_weekday_1 : decode cX3_weekday 1 = .ok (.getfield 21, 3) := by decide +kernel
theorem dX3_weekday_4 : decode cX3_weekday 4 = .ok (.bipush 7, 2) := by decide +kernel
theorem dX3_weekday_6 : decode cX3_weekday 6 = .ok (.irem, 1) := by decide +kernel
theorem dX3_weekday_7 : decode cX3_weekday 7 = .ok (.ireturn, 1) := by decide +kernel
theorem dX3_hue_0 : decode cX3_hue 0 = .ok (.aload_n 0, 1) := by decide +kernel
theorem dX3_hue_1 : decode cX3_hue 1 = .ok (.getfield 9, 3) := by decide +kernel
theorem dX3_hue_4 : decode cX3_hue 4 = .ok (.iload_n 1, 1) := by decide +kernel
theorem dX3_hue_5 : decode cX3_hue 5 = .ok (.iconst 3, 1) := by decide +kernel
theorem dX3_hue_6 : decode cX3_hue 6 = .ok (.imul, 1) := by decide +kernel
theorem dX3_hue_7 : decode cX3_hue 7 = .ok (.invokestatic 36, 3) := by decide +kernel
theorem dX3_hue_10 : decode cX3_hue 10 = .ok (.ireturn, 1) := by decide +kernel
theorem dX3_perform_0 : decode cX3_perform 0 = .ok (.aload_n 1, 1) := by decide +kernel
theorem dX3_perform_1 : decode cX3_perform 1 = .ok (.iload_n 2, 1) := by decide +kernel
theorem dX3_perform_2 : decode cX3_perform 2 = .ok (.iload_n 3, 1) := by decide +kernel
theorem dX3_perform_3 : decode cX3_perform 3 = .ok (.aload_n 0, 1) := by decide +kernel
theorem dX3_perform_4 : decode cX3_perform 4 = .ok (.getfield 9, 3) := by decide +kernel
theorem dX3_perform_7 : decode cX3_perform 7 = .ok (.iload_n 2, 1) := by decide +kernel
theorem dX3_perform_8 : decode cX3_perform 8 = .ok (.iconst 3, 1) := by decide +kernel
theorem dX3_perform_9 : decode cX3_perform 9 = .ok (.imul, 1) := by decide +kernel
theorem dX3_perform_10 : decode cX3_perform 10 = .ok (.invokevirtual 40, 3) := by decide +kernel
theorem dX3_perform_13 : decode cX3_perform 13 = .ok (.ifCond .ne 6, 3) := by decide +kernel
theorem dX3_perform_16 : decode cX3_perform 16 = .ok (.bipush (-2), 2) := by decide +kernel
theorem dX3_perform_18 : decode cX3_perform 18 = .ok (.ireturn, 1) := by decide +kernel
theorem dX3_perform_19 : decode cX3_perform 19 = .ok (.aload_n 1, 1) := by decide +kernel
theorem dX3_perform_20 : decode cX3_perform 20 = .ok (.aload_n 0, 1) := by decide +kernel
theorem dX3_perform_21 : decode cX3_perform 21 = .ok (.getfield 9, 3) := by decide +kernel
theorem dX3_perform_24 : decode cX3_perform 24 = .ok (.iload_n 2, 1) := by decide +kernel
theorem dX3_perform_25 : decode cX3_perform 25 = .ok (.iconst 3, 1) := by decide +kernel
theorem dX3_perform_26 : decode cX3_perform 26 = .ok (.imul, 1) := by decide +kernel
theorem dX3_perform_27 : decode cX3_perform 27 = .ok (.invokevirtual 44, 3) := by decide +kernel
theorem dX3_perform_30 : decode cX3_perform 30 = .ok (.aload_n 0, 1) := by decide +kernel
theorem dX3_perform_31 : decode cX3_perform 31 = .ok (.getfield 18, 3) := by decide +kernel
theorem dX3_perform_34 : decode cX3_perform 34 = .ok (.iload_n 2, 1) := by decide +kernel
theorem dX3_perform_35 : decode cX3_perform 35 = .ok (.dup2, 1) := by decide +kernel
theorem dX3_perform_36 : decode cX3_perform 36 = .ok (.iaload, 1) := by decide +kernel
theorem dX3_perform_37 : decode cX3_perform 37 = .ok (.aload_n 1, 1) := by decide +kernel
theorem dX3_perform_38 : decode cX3_perform 38 = .ok (.getfield 48, 3) := by decide +kernel
theorem dX3_perform_41 : decode cX3_perform 41 = .ok (.iload_n 3, 1) := by decide +kernel
theorem dX3_perform_42 : decode cX3_perform 42 = .ok (.iaload, 1) := by decide +kernel
theorem dX3_perform_43 : decode cX3_perform 43 = .ok (.iadd, 1) := by decide +kernel
theorem dX3_perform_44 : decode cX3_perform 44 = .ok (.iastore, 1) := by decide +kernel
theorem dX3_perform_45 : decode cX3_perform 45 = .ok (.aload_n 1, 1) := by decide +kernel
theorem dX3_perform_46 : decode cX3_perform 46 = .ok (.invokevirtual 51, 3) := by decide +kernel
theorem dX3_perform_49 : decode cX3_perform 49 = .ok (.ireturn, 1) := by decide +kernel
theorem dX3_passDays_0 : decode cX3_passDays 0 = .ok (.iconst 0, 1) := by decide +kernel
theorem dX3_passDays_1 : decode cX3_passDays 1 = .ok (.istore_n 3, 1) := by decide +kernel
theorem dX3_passDays_2 : decode cX3_passDays 2 = .ok (.iload_n 3, 1) := by decide +kernel
theorem dX3_passDays_3 : decode cX3_passDays 3 = .ok (.iload_n 2, 1) := by decide +kernel
theorem dX3_passDays_4 : decode cX3_passDays 4 = .ok (.if_icmp .ge 24, 3) := by decide +kernel
theorem dX3_passDays_7 : decode cX3_passDays 7 = .ok (.aload_n 0, 1) := by decide +kernel
theorem dX3_passDays_8 : decode cX3_passDays 8 = .ok (.aload_n 1, 1) := by decide +kernel
theorem dX3_passDays_9 : decode cX3_passDays 9 = .ok (.invokevirtual 55, 3) := by decide +kernel
theorem dX3_passDays_12 : decode cX3_passDays 12 = .ok (.aload_n 0, 1) := by decide +kernel
theorem dX3_passDays_13 : decode cX3_passDays 13 = .ok (.aload_n 1, 1) := by decide +kernel
theorem dX3_passDays_14 : decode cX3_passDays 14 = .ok (.invokevirtual 59, 3) := by decide +kernel
theorem dX3_passDays_17 : decode cX3_passDays 17 = .ok (.aload_n 0, 1) := by decide +kernel
theorem dX3_passDays_18 : decode cX3_passDays 18 = .ok (.aload_n 1, 1) := by decide +kernel
theorem dX3_passDays_19 : decode cX3_passDays 19 = .ok (.invokevirtual 62, 3) := by decide +kernel
theorem dX3_passDays_22 : decode cX3_passDays 22 = .ok (.iinc 3 1, 3) := by decide +kernel
theorem dX3_passDays_25 : decode cX3_passDays 25 = .ok (.goto (-23), 3) := by decide +kernel
theorem dX3_passDays_28 : decode cX3_passDays 28 = .ok (.return_, 1) := by decide +kernel
theorem dX3_doTold_0 : decode cX3_doTold 0 = .ok (.iconst 0, 1) := by decide +kernel
theorem dX3_doTold_1 : decode cX3_doTold 1 = .ok (.istore_n 2, 1) := by decide +kernel
theorem dX3_doTold_2 : decode cX3_doTold 2 = .ok (.iload_n 2, 1) := by decide +kernel
theorem dX3_doTold_3 : decode cX3_doTold 3 = .ok (.aload_n 1, 1) := by decide +kernel
theorem dX3_doTold_4 : decode cX3_doTold 4 = .ok (.getfield 65, 3) := by decide +kernel
theorem dX3_doTold_7 : decode cX3_doTold 7 = .ok (.if_icmp .ge 36, 3) := by decide +kernel
theorem dX3_doTold_10 : decode cX3_doTold 10 = .ok (.aload_n 1, 1) := by decide +kernel
theorem dX3_doTold_11 : decode cX3_doTold 11 = .ok (.getfield 68, 3) := by decide +kernel
theorem dX3_doTold_14 : decode cX3_doTold 14 = .ok (.iload_n 2, 1) := by decide +kernel
theorem dX3_doTold_15 : decode cX3_doTold 15 = .ok (.bipush 7, 2) := by decide +kernel
theorem dX3_doTold_17 : decode cX3_doTold 17 = .ok (.imul, 1) := by decide +kernel
theorem dX3_doTold_18 : decode cX3_doTold 18 = .ok (.aload_n 0, 1) := by decide +kernel
theorem dX3_doTold_19 : decode cX3_doTold 19 = .ok (.invokevirtual 71, 3) := by decide +kernel
theorem dX3_doTold_22 : decode cX3_doTold 22 = .ok (.iadd, 1) := by decide +kernel
theorem dX3_doTold_23 : decode cX3_doTold 23 = .ok (.iaload, 1) := by decide +kernel
theorem dX3_doTold_24 : decode cX3_doTold 24 = .ok (.istore_n 3, 1) := by decide +kernel
theorem dX3_doTold_25 : decode cX3_doTold 25 = .ok (.iload_n 3, 1) := by decide +kernel
theorem dX3_doTold_26 : decode cX3_doTold 26 = .ok (.ifCond .lt 11, 3) := by decide +kernel
theorem dX3_doTold_29 : decode cX3_doTold 29 = .ok (.aload_n 0, 1) := by decide +kernel
theorem dX3_doTold_30 : decode cX3_doTold 30 = .ok (.aload_n 1, 1) := by decide +kernel
theorem dX3_doTold_31 : decode cX3_doTold 31 = .ok (.iload_n 2, 1) := by decide +kernel
theorem dX3_doTold_32 : decode cX3_doTold 32 = .ok (.iload_n 3, 1) := by decide +kernel
theorem dX3_doTold_33 : decode cX3_doTold 33 = .ok (.invokevirtual 74, 3) := by decide +kernel
theorem dX3_doTold_36 : decode cX3_doTold 36 = .ok (.pop, 1) := by decide +kernel
theorem dX3_doTold_37 : decode cX3_doTold 37 = .ok (.iinc 2 1, 3) := by decide +kernel
theorem dX3_doTold_40 : decode cX3_doTold 40 = .ok (.goto (-38), 3) := by decide +kernel
theorem dX3_doTold_43 : decode cX3_doTold 43 = .ok (.return_, 1) := by decide +kernel
theorem dX3_doDrawn_0 : decode cX3_doDrawn 0 = .ok (.iconst 0, 1) := by decide +kernel
theorem dX3_doDrawn_1 : decode cX3_doDrawn 1 = .ok (.istore 4, 2) := by decide +kernel
theorem dX3_doDrawn_3 : decode cX3_doDrawn 3 = .ok (.iload 4, 2) := by decide +kernel
theorem dX3_doDrawn_5 : decode cX3_doDrawn 5 = .ok (.aload_n 1, 1) := by decide +kernel
theorem dX3_doDrawn_6 : decode cX3_doDrawn 6 = .ok (.getfield 65, 3) := by decide +kernel
theorem dX3_doDrawn_9 : decode cX3_doDrawn 9 = .ok (.if_icmp .ge 44, 3) := by decide +kernel
theorem dX3_doDrawn_12 : decode cX3_doDrawn 12 = .ok (.iload_n 2, 1) := by decide +kernel
theorem dX3_doDrawn_13 : decode cX3_doDrawn 13 = .ok (.iload_n 3, 1) := by decide +kernel
theorem dX3_doDrawn_14 : decode cX3_doDrawn 14 = .ok (.iload 4, 2) := by decide +kernel
theorem dX3_doDrawn_16 : decode cX3_doDrawn 16 = .ok (.invokestatic 78, 3) := by decide +kernel
theorem dX3_doDrawn_19 : decode cX3_doDrawn 19 = .ok (.aload_n 1, 1) := by decide +kernel
theorem dX3_doDrawn_20 : decode cX3_doDrawn 20 = .ok (.getfield 82, 3) := by decide +kernel
theorem dX3_doDrawn_23 : decode cX3_doDrawn 23 = .ok (.iconst 1, 1) := by decide +kernel
theorem dX3_doDrawn_24 : decode cX3_doDrawn 24 = .ok (.iadd, 1) := by decide +kernel
theorem dX3_doDrawn_25 : decode cX3_doDrawn 25 = .ok (.irem, 1) := by decide +kernel
theorem dX3_doDrawn_26 : decode cX3_doDrawn 26 = .ok (.istore 5, 2) := by decide +kernel
theorem dX3_doDrawn_28 : decode cX3_doDrawn 28 = .ok (.iload 5, 2) := by decide +kernel
theorem dX3_doDrawn_30 : decode cX3_doDrawn 30 = .ok (.aload_n 1, 1) := by decide +kernel
theorem dX3_doDrawn_31 : decode cX3_doDrawn 31 = .ok (.getfield 82, 3) := by decide +kernel
theorem dX3_doDrawn_34 : decode cX3_doDrawn 34 = .ok (.if_icmp .ge 13, 3) := by decide +kernel
theorem dX3_doDrawn_37 : decode cX3_doDrawn 37 = .ok (.aload_n 0, 1) := by decide +kernel
theorem dX3_doDrawn_38 : decode cX3_doDrawn 38 = .ok (.aload_n 1, 1) := by decide +kernel
theorem dX3_doDrawn_39 : decode cX3_doDrawn 39 = .ok (.iload 4, 2) := by decide +kernel
theorem dX3_doDrawn_41 : decode cX3_doDrawn 41 = .ok (.iload 5, 2) := by decide +kernel
theorem dX3_doDrawn_43 : decode cX3_doDrawn 43 = .ok (.invokevirtual 74, 3) := by decide +kernel
theorem dX3_doDrawn_46 : decode cX3_doDrawn 46 = .ok (.pop, 1) := by decide +kernel
theorem dX3_doDrawn_47 : decode cX3_doDrawn 47 = .ok (.iinc 4 1, 3) := by decide +kernel
theorem dX3_doDrawn_50 : decode cX3_doDrawn 50 = .ok (.goto (-47), 3) := by decide +kernel
theorem dX3_doDrawn_53 : decode cX3_doDrawn 53 = .ok (.return_, 1) := by decide +kernel
theorem dX3_draw_0 : decode cX3_draw 0 = .ok (.ldc2_w 85, 3) := by decide +kernel
theorem dX3_draw_3 : decode cX3_draw 3 = .ok (.iload_n 0, 1) := by decide +kernel
theorem dX3_draw_4 : decode cX3_draw 4 = .ok (.i2l, 1) := by decide +kernel
theorem dX3_draw_5 : decode cX3_draw 5 = .ok (.lmul, 1) := by decide +kernel
theorem dX3_draw_6 : decode cX3_draw 6 = .ok (.ldc2_w 87, 3) := by decide +kernel
theorem dX3_draw_9 : decode cX3_draw 9 = .ok (.iload_n 1, 1) := by decide +kernel
theorem dX3_draw_10 : decode cX3_draw 10 = .ok (.i2l, 1) := by decide +kernel
theorem dX3_draw_11 : decode cX3_draw 11 = .ok (.lmul, 1) := by decide +kernel
theorem dX3_draw_12 : decode cX3_draw 12 = .ok (.ladd, 1) := by decide +kernel
theorem dX3_draw_13 : decode cX3_draw 13 = .ok (.ldc2_w 89, 3) := by decide +kernel
theorem dX3_draw_16 : decode cX3_draw 16 = .ok (.iload_n 2, 1) := by decide +kernel
theorem dX3_draw_17 : decode cX3_draw 17 = .ok (.i2l, 1) := by decide +kernel
theorem dX3_draw_18 : decode cX3_draw 18 = .ok (.lmul, 1) := by decide +kernel
theorem dX3_draw_19 : decode cX3_draw 19 = .ok (.ladd, 1) := by decide +kernel
theorem dX3_draw_20 : decode cX3_draw 20 = .ok (.lconst 1, 1) := by decide +kernel
theorem dX3_draw_21 : decode cX3_draw 21 = .ok (.ladd, 1) := by decide +kernel
theorem dX3_draw_22 : decode cX3_draw 22 = .ok (.lstore_n 3, 1) := by decide +kernel
theorem dX3_draw_23 : decode cX3_draw 23 = .ok (.lload_n 3, 1) := by decide +kernel
theorem dX3_draw_24 : decode cX3_draw 24 = .ok (.lload_n 3, 1) := by decide +kernel
theorem dX3_draw_25 : decode cX3_draw 25 = .ok (.lmul, 1) := by decide +kernel
theorem dX3_draw_26 : decode cX3_draw 26 = .ok (.ldc2_w 91, 3) := by decide +kernel
theorem dX3_draw_29 : decode cX3_draw 29 = .ok (.lrem, 1) := by decide +kernel
theorem dX3_draw_30 : decode cX3_draw 30 = .ok (.ldc2_w 93, 3) := by decide +kernel
theorem dX3_draw_33 : decode cX3_draw 33 = .ok (.ldiv, 1) := by decide +kernel
theorem dX3_draw_34 : decode cX3_draw 34 = .ok (.l2i, 1) := by decide +kernel
theorem dX3_draw_35 : decode cX3_draw 35 = .ok (.ireturn, 1) := by decide +kernel
theorem dX3_fade_0 : decode cX3_fade 0 = .ok (.iconst 0, 1) := by decide +kernel
theorem dX3_fade_1 : decode cX3_fade 1 = .ok (.istore_n 2, 1) := by decide +kernel
theorem dX3_fade_2 : decode cX3_fade 2 = .ok (.iload_n 2, 1) := by decide +kernel
theorem dX3_fade_3 : decode cX3_fade 3 = .ok (.aload_n 1, 1) := by decide +kernel
theorem dX3_fade_4 : decode cX3_fade 4 = .ok (.getfield 65, 3) := by decide +kernel
theorem dX3_fade_7 : decode cX3_fade 7 = .ok (.if_icmp .ge 21, 3) := by decide +kernel
theorem dX3_fade_10 : decode cX3_fade 10 = .ok (.aload_n 1, 1) := by decide +kernel
theorem dX3_fade_11 : decode cX3_fade 11 = .ok (.iload_n 2, 1) := by decide +kernel
theorem dX3_fade_12 : decode cX3_fade 12 = .ok (.aload_n 0, 1) := by decide +kernel
theorem dX3_fade_13 : decode cX3_fade 13 = .ok (.getfield 9, 3) := by decide +kernel
theorem dX3_fade_16 : decode cX3_fade 16 = .ok (.iload_n 2, 1) := by decide +kernel
theorem dX3_fade_17 : decode cX3_fade 17 = .ok (.iconst 3, 1) := by decide +kernel
theorem dX3_fade_18 : decode cX3_fade 18 = .ok (.imul, 1) := by decide +kernel
theorem dX3_fade_19 : decode cX3_fade 19 = .ok (.invokevirtual 95, 3) := by decide +kernel
theorem dX3_fade_22 : decode cX3_fade 22 = .ok (.iinc 2 1, 3) := by decide +kernel
theorem dX3_fade_25 : decode cX3_fade 25 = .ok (.goto (-23), 3) := by decide +kernel
theorem dX3_fade_28 : decode cX3_fade 28 = .ok (.return_, 1) := by decide +kernel
theorem dX3_endDay_0 : decode cX3_endDay 0 = .ok (.aload_n 0, 1) := by decide +kernel
theorem dX3_endDay_1 : decode cX3_endDay 1 = .ok (.invokevirtual 71, 3) := by decide +kernel
theorem dX3_endDay_4 : decode cX3_endDay 4 = .ok (.bipush 6, 2) := by decide +kernel
theorem dX3_endDay_6 : decode cX3_endDay 6 = .ok (.if_icmp .ne 31, 3) := by decide +kernel
theorem dX3_endDay_9 : decode cX3_endDay 9 = .ok (.iconst 0, 1) := by decide +kernel
theorem dX3_endDay_10 : decode cX3_endDay 10 = .ok (.istore_n 2, 1) := by decide +kernel
theorem dX3_endDay_11 : decode cX3_endDay 11 = .ok (.iload_n 2, 1) := by decide +kernel
theorem dX3_endDay_12 : decode cX3_endDay 12 = .ok (.aload_n 1, 1) := by decide +kernel
theorem dX3_endDay_13 : decode cX3_endDay 13 = .ok (.getfield 65, 3) := by decide +kernel
theorem dX3_endDay_16 : decode cX3_endDay 16 = .ok (.if_icmp .ge 21, 3) := by decide +kernel
theorem dX3_endDay_19 : decode cX3_endDay 19 = .ok (.aload_n 1, 1) := by decide +kernel
theorem dX3_endDay_20 : decode cX3_endDay 20 = .ok (.iload_n 2, 1) := by decide +kernel
theorem dX3_endDay_21 : decode cX3_endDay 21 = .ok (.aload_n 0, 1) := by decide +kernel
theorem dX3_endDay_22 : decode cX3_endDay 22 = .ok (.getfield 9, 3) := by decide +kernel
theorem dX3_endDay_25 : decode cX3_endDay 25 = .ok (.iload_n 2, 1) := by decide +kernel
theorem dX3_endDay_26 : decode cX3_endDay 26 = .ok (.iconst 3, 1) := by decide +kernel
theorem dX3_endDay_27 : decode cX3_endDay 27 = .ok (.imul, 1) := by decide +kernel
theorem dX3_endDay_28 : decode cX3_endDay 28 = .ok (.invokevirtual 98, 3) := by decide +kernel
theorem dX3_endDay_31 : decode cX3_endDay 31 = .ok (.iinc 2 1, 3) := by decide +kernel
theorem dX3_endDay_34 : decode cX3_endDay 34 = .ok (.goto (-23), 3) := by decide +kernel
theorem dX3_endDay_37 : decode cX3_endDay 37 = .ok (.aload_n 0, 1) := by decide +kernel
theorem dX3_endDay_38 : decode cX3_endDay 38 = .ok (.dup, 1) := by decide +kernel
theorem dX3_endDay_39 : decode cX3_endDay 39 = .ok (.getfield 21, 3) := by decide +kernel
theorem dX3_endDay_42 : decode cX3_endDay 42 = .ok (.iconst 1, 1) := by decide +kernel
theorem dX3_endDay_43 : decode cX3_endDay 43 = .ok (.iadd, 1) := by decide +kernel
theorem dX3_endDay_44 : decode cX3_endDay 44 = .ok (.putfield 21, 3) := by decide +kernel
theorem dX3_endDay_47 : decode cX3_endDay 47 = .ok (.return_, 1) := by decide +kernel
theorem dX3_firstGrey_0 : decode cX3_firstGrey 0 = .ok (.iconst 0, 1) := by decide +kernel
theorem dX3_firstGrey_1 : decode cX3_firstGrey 1 = .ok (.istore_n 2, 1) := by decide +kernel
theorem dX3_firstGrey_2 : decode cX3_firstGrey 2 = .ok (.iload_n 2, 1) := by decide +kernel
theorem dX3_firstGrey_3 : decode cX3_firstGrey 3 = .ok (.aload_n 1, 1) := by decide +kernel
theorem dX3_firstGrey_4 : decode cX3_firstGrey 4 = .ok (.getfield 65, 3) := by decide +kernel
theorem dX3_firstGrey_7 : decode cX3_firstGrey 7 = .ok (.if_icmp .ge 19, 3) := by decide +kernel
theorem dX3_firstGrey_10 : decode cX3_firstGrey 10 = .ok (.aload_n 0, 1) := by decide +kernel
theorem dX3_firstGrey_11 : decode cX3_firstGrey 11 = .ok (.iload_n 2, 1) := by decide +kernel
theorem dX3_firstGrey_12 : decode cX3_firstGrey 12 = .ok (.invokevirtual 101, 3) := by decide +kernel
theorem dX3_firstGrey_15 : decode cX3_firstGrey 15 = .ok (.ifCond .ne 5, 3) := by decide +kernel
theorem dX3_firstGrey_18 : decode cX3_firstGrey 18 = .ok (.iload_n 2, 1) := by decide +kernel
theorem dX3_firstGrey_19 : decode cX3_firstGrey 19 = .ok (.ireturn, 1) := by decide +kernel
theorem dX3_firstGrey_20 : decode cX3_firstGrey 20 = .ok (.iinc 2 1, 3) := by decide +kernel
theorem dX3_firstGrey_23 : decode cX3_firstGrey 23 = .ok (.goto (-21), 3) := by decide +kernel
theorem dX3_firstGrey_26 : decode cX3_firstGrey 26 = .ok (.bipush (-4), 2) := by decide +kernel
theorem dX3_firstGrey_28 : decode cX3_firstGrey 28 = .ok (.ireturn, 1) := by decide +kernel
theorem dX3_countGrey_0 : decode cX3_countGrey 0 = .ok (.iconst 0, 1) := by decide +kernel
theorem dX3_countGrey_1 : decode cX3_countGrey 1 = .ok (.istore_n 2, 1) := by decide +kernel
theorem dX3_countGrey_2 : decode cX3_countGrey 2 = .ok (.iconst 0, 1) := by decide +kernel
theorem dX3_countGrey_3 : decode cX3_countGrey 3 = .ok (.istore_n 3, 1) := by decide +kernel
theorem dX3_countGrey_4 : decode cX3_countGrey 4 = .ok (.iload_n 3, 1) := by decide +kernel
theorem dX3_countGrey_5 : decode cX3_countGrey 5 = .ok (.aload_n 1, 1) := by decide +kernel
theorem dX3_countGrey_6 : decode cX3_countGrey 6 = .ok (.getfield 65, 3) := by decide +kernel
theorem dX3_countGrey_9 : decode cX3_countGrey 9 = .ok (.if_icmp .ge 25, 3) := by decide +kernel
theorem dX3_countGrey_12 : decode cX3_countGrey 12 = .ok (.iload_n 2, 1) := by decide +kernel
theorem dX3_countGrey_13 : decode cX3_countGrey 13 = .ok (.aload_n 0, 1) := by decide +kernel
theorem dX3_countGrey_14 : decode cX3_countGrey 14 = .ok (.iload_n 3, 1) := by decide +kernel
theorem dX3_countGrey_15 : decode cX3_countGrey 15 = .ok (.invokevirtual 101, 3) := by decide +kernel
theorem dX3_countGrey_18 : decode cX3_countGrey 18 = .ok (.ifCond .ne 7, 3) := by decide +kernel
theorem dX3_countGrey_21 : decode cX3_countGrey 21 = .ok (.iconst 1, 1) := by decide +kernel
theorem dX3_countGrey_22 : decode cX3_countGrey 22 = .ok (.goto 4, 3) := by decide +kernel
theorem dX3_countGrey_25 : decode cX3_countGrey 25 = .ok (.iconst 0, 1) := by decide +kernel
theorem dX3_countGrey_26 : decode cX3_countGrey 26 = .ok (.iadd, 1) := by decide +kernel
theorem dX3_countGrey_27 : decode cX3_countGrey 27 = .ok (.istore_n 2, 1) := by decide +kernel
theorem dX3_countGrey_28 : decode cX3_countGrey 28 = .ok (.iinc 3 1, 3) := by decide +kernel
theorem dX3_countGrey_31 : decode cX3_countGrey 31 = .ok (.goto (-27), 3) := by decide +kernel
theorem dX3_countGrey_34 : decode cX3_countGrey 34 = .ok (.iload_n 2, 1) := by decide +kernel
theorem dX3_countGrey_35 : decode cX3_countGrey 35 = .ok (.ireturn, 1) := by decide +kernel
theorem dX3_worthOfAll_0 : decode cX3_worthOfAll 0 = .ok (.iconst 0, 1) := by decide +kernel
theorem dX3_worthOfAll_1 : decode cX3_worthOfAll 1 = .ok (.istore_n 2, 1) := by decide +kernel
theorem dX3_worthOfAll_2 : decode cX3_worthOfAll 2 = .ok (.iconst 0, 1) := by decide +kernel
theorem dX3_worthOfAll_3 : decode cX3_worthOfAll 3 = .ok (.istore_n 3, 1) := by decide +kernel
theorem dX3_worthOfAll_4 : decode cX3_worthOfAll 4 = .ok (.iload_n 3, 1) := by decide +kernel
theorem dX3_worthOfAll_5 : decode cX3_worthOfAll 5 = .ok (.aload_n 1, 1) := by decide +kernel
theorem dX3_worthOfAll_6 : decode cX3_worthOfAll 6 = .ok (.getfield 65, 3) := by decide +kernel
theorem dX3_worthOfAll_9 : decode cX3_worthOfAll 9 = .ok (.if_icmp .ge 18, 3) := by decide +kernel
theorem dX3_worthOfAll_12 : decode cX3_worthOfAll 12 = .ok (.iload_n 2, 1) := by decide +kernel
theorem dX3_worthOfAll_13 : decode cX3_worthOfAll 13 = .ok (.aload_n 0, 1) := by decide +kernel
theorem dX3_worthOfAll_14 : decode cX3_worthOfAll 14 = .ok (.getfield 18, 3) := by decide +kernel
theorem dX3_worthOfAll_17 : decode cX3_worthOfAll 17 = .ok (.iload_n 3, 1) := by decide +kernel
theorem dX3_worthOfAll_18 : decode cX3_worthOfAll 18 = .ok (.iaload, 1) := by decide +kernel
theorem dX3_worthOfAll_19 : decode cX3_worthOfAll 19 = .ok (.iadd, 1) := by decide +kernel
theorem dX3_worthOfAll_20 : decode cX3_worthOfAll 20 = .ok (.istore_n 2, 1) := by decide +kernel
theorem dX3_worthOfAll_21 : decode cX3_worthOfAll 21 = .ok (.iinc 3 1, 3) := by decide +kernel
theorem dX3_worthOfAll_24 : decode cX3_worthOfAll 24 = .ok (.goto (-20), 3) := by decide +kernel
theorem dX3_worthOfAll_27 : decode cX3_worthOfAll 27 = .ok (.iload_n 2, 1) := by decide +kernel
theorem dX3_worthOfAll_28 : decode cX3_worthOfAll 28 = .ok (.ireturn, 1) := by decide +kernel
theorem dX3_thimblesOfAll_0 : decode cX3_thimblesOfAll 0 = .ok (.iconst 0, 1) := by decide +kernel
theorem dX3_thimblesOfAll_1 : decode cX3_thimblesOfAll 1 = .ok (.istore_n 2, 1) := by decide +kernel
theorem dX3_thimblesOfAll_2 : decode cX3_thimblesOfAll 2 = .ok (.iconst 0, 1) := by decide +kernel
theorem dX3_thimblesOfAll_3 : decode cX3_thimblesOfAll 3 = .ok (.istore_n 3, 1) := by decide +kernel
theorem dX3_thimblesOfAll_4 : decode cX3_thimblesOfAll 4 = .ok (.iload_n 3, 1) := by decide +kernel
theorem dX3_thimblesOfAll_5 : decode cX3_thimblesOfAll 5 = .ok (.aload_n 1, 1) := by decide +kernel
theorem dX3_thimblesOfAll_6 : decode cX3_thimblesOfAll 6 = .ok (.getfield 65, 3) := by decide +kernel
theorem dX3_thimblesOfAll_9 : decode cX3_thimblesOfAll 9 = .ok (.iconst 3, 1) := by decide +kernel
theorem dX3_thimblesOfAll_10 : decode cX3_thimblesOfAll 10 = .ok (.imul, 1) := by decide +kernel
theorem dX3_thimblesOfAll_11 : decode cX3_thimblesOfAll 11 = .ok (.if_icmp .ge 18, 3) := by decide +kernel
theorem dX3_thimblesOfAll_14 : decode cX3_thimblesOfAll 14 = .ok (.iload_n 2, 1) := by decide +kernel
theorem dX3_thimblesOfAll_15 : decode cX3_thimblesOfAll 15 = .ok (.aload_n 0, 1) := by decide +kernel
theorem dX3_thimblesOfAll_16 : decode cX3_thimblesOfAll 16 = .ok (.getfield 9, 3) := by decide +kernel
theorem dX3_thimblesOfAll_19 : decode cX3_thimblesOfAll 19 = .ok (.iload_n 3, 1) := by decide +kernel
theorem dX3_thimblesOfAll_20 : decode cX3_thimblesOfAll 20 = .ok (.iaload, 1) := by decide +kernel
theorem dX3_thimblesOfAll_21 : decode cX3_thimblesOfAll 21 = .ok (.iadd, 1) := by decide +kernel
theorem dX3_thimblesOfAll_22 : decode cX3_thimblesOfAll 22 = .ok (.istore_n 2, 1) := by decide +kernel
theorem dX3_thimblesOfAll_23 : decode cX3_thimblesOfAll 23 = .ok (.iinc 3 1, 3) := by decide +kernel
theorem dX3_thimblesOfAll_26 : decode cX3_thimblesOfAll 26 = .ok (.goto (-22), 3) := by decide +kernel
theorem dX3_thimblesOfAll_29 : decode cX3_thimblesOfAll 29 = .ok (.iload_n 2, 1) := by decide +kernel
theorem dX3_thimblesOfAll_30 : decode cX3_thimblesOfAll 30 = .ok (.ireturn, 1) := by decide +kernel
theorem dX3_takeFromRichest_0 : decode cX3_takeFromRichest 0 = .ok (.iload_n 2, 1) := by decide +kernel
theorem dX3_takeFromRichest_1 : decode cX3_takeFromRichest 1 = .ok (.istore_n 3, 1) := by decide +kernel
theorem dX3_takeFromRichest_2 : decode cX3_takeFromRichest 2 = .ok (.iconst 1, 1) := by decide +kernel
theorem dX3_takeFromRichest_3 : decode cX3_takeFromRichest 3 = .ok (.istore 4, 2) := by decide +kernel
theorem dX3_takeFromRichest_5 : decode cX3_takeFromRichest 5 = .ok (.iload 4, 2) := by decide +kernel
theorem dX3_takeFromRichest_7 : decode cX3_takeFromRichest 7 = .ok (.aload_n 1, 1) := by decide +kernel
theorem dX3_takeFromRichest_8 : decode cX3_takeFromRichest 8 = .ok (.getfield 65, 3) := by decide +kernel
theorem dX3_takeFromRichest_11 : decode cX3_takeFromRichest 11 = .ok (.if_icmp .ge 36, 3) := by decide +kernel
theorem dX3_takeFromRichest_14 : decode cX3_takeFromRichest 14 = .ok (.aload_n 0, 1) := by decide +kernel
theorem dX3_takeFromRichest_15 : decode cX3_takeFromRichest 15 = .ok (.getfield 9, 3) := by decide +kernel
theorem dX3_takeFromRichest_18 : decode cX3_takeFromRichest 18 = .ok (.iload 4, 2) := by decide +kernel
theorem dX3_takeFromRichest_20 : decode cX3_takeFromRichest 20 = .ok (.iconst 3, 1) := by decide +kernel
theorem dX3_takeFromRichest_21 : decode cX3_takeFromRichest 21 = .ok (.imul, 1) := by decide +kernel
theorem dX3_takeFromRichest_22 : decode cX3_takeFromRichest 22 = .ok (.iload_n 2, 1) := by decide +kernel
theorem dX3_takeFromRichest_23 : decode cX3_takeFromRichest 23 = .ok (.iadd, 1) := by decide +kernel
theorem dX3_takeFromRichest_24 : decode cX3_takeFromRichest 24 = .ok (.iaload, 1) := by decide +kernel
theorem dX3_takeFromRichest_25 : decode cX3_takeFromRichest 25 = .ok (.aload_n 0, 1) := by decide +kernel
theorem dX3_takeFromRichest_26 : decode cX3_takeFromRichest 26 = .ok (.getfield 9, 3) := by decide +kernel
theorem dX3_takeFromRichest_29 : decode cX3_takeFromRichest 29 = .ok (.iload_n 3, 1) := by decide +kernel
theorem dX3_takeFromRichest_30 : decode cX3_takeFromRichest 30 = .ok (.iaload, 1) := by decide +kernel
theorem dX3_takeFromRichest_31 : decode cX3_takeFromRichest 31 = .ok (.if_icmp .le 10, 3) := by decide +kernel
theorem dX3_takeFromRichest_34 : decode cX3_takeFromRichest 34 = .ok (.iload 4, 2) := by decide +kernel
theorem dX3_takeFromRichest_36 : decode cX3_takeFromRichest 36 = .ok (.iconst 3, 1) := by decide +kernel
theorem dX3_takeFromRichest_37 : decode cX3_takeFromRichest 37 = .ok (.imul, 1) := by decide +kernel
theorem dX3_takeFromRichest_38 : decode cX3_takeFromRichest 38 = .ok (.iload_n 2, 1) := by decide +kernel
theorem dX3_takeFromRichest_39 : decode cX3_takeFromRichest 39 = .ok (.iadd, 1) := by decide +kernel
theorem dX3_takeFromRichest_40 : decode cX3_takeFromRichest 40 = .ok (.istore_n 3, 1) := by decide +kernel
theorem dX3_takeFromRichest_41 : decode cX3_takeFromRichest 41 = .ok (.iinc 4 1, 3) := by decide +kernel
theorem dX3_takeFromRichest_44 : decode cX3_takeFromRichest 44 = .ok (.goto (-39), 3) := by decide +kernel
theorem dX3_takeFromRichest_47 : decode cX3_takeFromRichest 47 = .ok (.aload_n 0, 1) := by decide +kernel
theorem dX3_takeFromRichest_48 : decode cX3_takeFromRichest 48 = .ok (.getfield 9, 3) := by decide +kernel
theorem dX3_takeFromRichest_51 : decode cX3_takeFromRichest 51 = .ok (.iload_n 3, 1) := by decide +kernel
theorem dX3_takeFromRichest_52 : decode cX3_takeFromRichest 52 = .ok (.iaload, 1) := by decide +kernel
theorem dX3_takeFromRichest_53 : decode cX3_takeFromRichest 53 = .ok (.ifCond .ne 5, 3) := by decide +kernel
theorem dX3_takeFromRichest_56 : decode cX3_takeFromRichest 56 = .ok (.iconst 0, 1) := by decide +kernel
theorem dX3_takeFromRichest_57 : decode cX3_takeFromRichest 57 = .ok (.ireturn, 1) := by decide +kernel
theorem dX3_takeFromRichest_58 : decode cX3_takeFromRichest 58 = .ok (.aload_n 0, 1) := by decide +kernel
theorem dX3_takeFromRichest_59 : decode cX3_takeFromRichest 59 = .ok (.getfield 9, 3) := by decide +kernel
theorem dX3_takeFromRichest_62 : decode cX3_takeFromRichest 62 = .ok (.iload_n 3, 1) := by decide +kernel
theorem dX3_takeFromRichest_63 : decode cX3_takeFromRichest 63 = .ok (.dup2, 1) := by decide +kernel
theorem dX3_takeFromRichest_64 : decode cX3_takeFromRichest 64 = .ok (.iaload, 1) := by decide +kernel
theorem dX3_takeFromRichest_65 : decode cX3_takeFromRichest 65 = .ok (.iconst 1, 1) := by decide +kernel
theorem dX3_takeFromRichest_66 : decode cX3_takeFromRichest 66 = .ok (.isub, 1) := by decide +kernel
theorem dX3_takeFromRichest_67 : decode cX3_takeFromRichest 67 = .ok (.iastore, 1) := by decide +kernel
theorem dX3_takeFromRichest_68 : decode cX3_takeFromRichest 68 = .ok (.iconst 1, 1) := by decide +kernel
theorem dX3_takeFromRichest_69 : decode cX3_takeFromRichest 69 = .ok (.ireturn, 1) := by decide +kernel
end
section
theorem dX4_init_0 : decode cX4_init 0 = .ok (.aload_n 0, 1) := by decide +kernel
theorem dX4_init_1 : decode cX4_init 1 = .ok (.invokespecial 3, 3) := by decide +kernel
theorem dX4_init_4 : decode cX4_init 4 = .ok (.aload_n 0, 1) := by decide +kernel
theorem dX4_init_5 : decode cX4_init 5 = .ok (.bipush 6, 2) := by decide +kernel
theorem dX4_init_7 : decode cX4_init 7 = .ok (.newarray .int, 2) := by decide +kernel
theorem dX4_init_9 : decode cX4_init 9 = .ok (.putfield 9, 3) := by decide +kernel
theorem dX4_init_12 : decode cX4_init 12 = .ok (.aload_n 0, 1) := by decide +kernel
theorem dX4_init_13 : decode cX4_init 13 = .ok (.bipush 18, 2) := by decide +kernel
theorem dX4_init_15 : decode cX4_init 15 = .ok (.newarray .int, 2) := by decide +kernel
theorem dX4_init_17 : decode cX4_init 17 = .ok (.putfield 15, 3) := by decide +kernel
theorem dX4_init_20 : decode cX4_init 20 = .ok (.aload_n 0, 1) := by decide +kernel
theorem dX4_init_21 : decode cX4_init 21 = .ok (.bipush 18, 2) := by decide +kernel
theorem dX4_init_23 : decode cX4_init 23 = .ok (.newarray .int, 2) := by decide +kernel
theorem dX4_init_25 : decode cX4_init 25 = .ok (.putfield 18, 3) := by decide +kernel
theorem dX4_init_28 : decode cX4_init 28 = .ok (.aload_n 0, 1) := by decide +kernel
theorem dX4_init_29 : decode cX4_init 29 = .ok (.bipush 6, 2) := by decide +kernel
theorem dX4_init_31 : decode cX4_init 31 = .ok (.newarray .int, 2) := by decide +kernel
theorem dX4_init_33 : decode cX4_init 33 = .ok (.putfield 21, 3) := by decide +kernel
theorem dX4_init_36 : decode cX4_init 36 = .ok (.aload_n 0, 1) := by decide +kernel
theorem dX4_init_37 : decode cX4_init 37 = .ok (.bipush 42, 2) := by decide +kernel
theorem dX4_init_39 : decode cX4_init 39 = .ok (.newarray .int, 2) := by decide +kernel
theorem dX4_init_41 : decode cX4_init 41 = .ok (.putfield 24, 3) := by decide +kernel
theorem dX4_init_44 : decode cX4_init 44 = .ok (.aload_n 0, 1) := by decide +kernel
theorem dX4_init_45 : decode cX4_init 45 = .ok (.iconst 3, 1) := by decide +kernel
theorem dX4_init_46 : decode cX4_init 46 = .ok (.newarray .int, 2) := by decide +kernel
theorem dX4_init_48 : decode cX4_init 48 = .ok (.putfield 27, 3) := by decide +kernel
theorem dX4_init_51 : decode cX4_init 51 = .ok (.return_, 1) := by decide +kernel
theorem dX4_empty_0 : decode cX4_empty 0 = .ok (.aload_n 0, 1) := by decide +kernel
theorem dX4_empty_1 : decode cX4_empty 1 = .ok (.iconst 0, 1) := by decide +kernel
theorem dX4_empty_2 : decode cX4_empty 2 = .ok (.putfield 30, 3) := by decide +kernel
theorem dX4_empty_5 : decode cX4_empty 5 = .ok (.aload_n 0, 1) := by decide +kernel
theorem dX4_empty_6 : decode cX4_empty 6 = .ok (.iconst 0, 1) := by decide +kernel
theorem dX4_empty_7 : decode cX4_empty 7 = .ok (.putfield 34, 3) := by decide +kernel
theorem dX4_empty_10 : decode cX4_empty 10 = .ok (.aload_n 0, 1) := by decide +kernel
theorem dX4_empty_11 : decode cX4_empty 11 = .ok (.iconst 1, 1) := by decide +kernel
theorem dX4_empty_12 : decode cX4_empty 12 = .ok (.putfield 37, 3) := by decide +kernel
theorem dX4_empty_15 : decode cX4_empty 15 = .ok (.iconst 0, 1) := by decide +kernel
theorem dX4_empty_16 : decode cX4_empty 16 = .ok (.istore_n 1, 1) := by decide +kernel
theorem dX4_empty_17 : decode cX4_empty 17 = .ok (.iload_n 1, 1) := by decide +kernel
theorem dX4_empty_18 : decode cX4_empty 18 = .ok (.aload_n 0, 1) := by decide +kernel
theorem dX4_empty_19 : decode cX4_empty 19 = .ok (.getfield 24, 3) := by decide +kernel
theorem dX4_empty_22 : decode cX4_empty 22 = .ok (.arraylength, 1) := by decide +kernel
theorem dX4_empty_23 : decode cX4_empty 23 = .ok (.if_icmp .ge 17, 3) := by decide +kernel
theorem dX4_empty_26 : decode cX4_empty 26 = .ok (.aload_n 0, 1) := by decide +kernel
theorem dX4_empty_27 : decode cX4_empty 27 = .ok (.getfield 24, 3) := by decide +kernel
theorem dX4_empty_30 : decode cX4_empty 30 = .ok (.iload_n 1, 1) := by decide +kernel
theorem dX4_empty_31 : decode cX4_empty 31 = .ok (.bipush (-4), 2) := by decide +kernel
theorem dX4_empty_33 : decode cX4_empty 33 = .ok (.iastore, 1) := by decide +kernel
theorem dX4_empty_34 : decode cX4_empty 34 = .ok (.iinc 1 1, 3) := by decide +kernel
theorem dX4_empty_37 : decode cX4_empty 37 = .ok (.goto (-20), 3) := by decide +kernel
theorem dX4_empty_40 : decode cX4_empty 40 = .ok (.return_, 1) := by decide +kernel
theorem dX4_take_0 : decode cX4_take 0 = .ok (.iload_n 1, 1) := by decide +kernel
theorem dX4_take_1 : decode cX4_take 1 = .ok (.lookupswitch 67 #[(99, 61), (100, 49), (104, 55), (112, 43)], 43) := by decide +kernel
theorem dX4_take_44 : decode cX4_take 44 = .ok (.aload_n 0, 1) := by decide +kernel
theorem dX4_take_45 : decode cX4_take 45 = .ok (.aload_n 2, 1) := by decide +kernel
theorem dX4_take_46 : decode cX4_take 46 = .ok (.invokevirtual 40, 3) := by decide +kernel
theorem dX4_take_49 : decode cX4_take 49 = .ok (.ireturn, 1) := by decide +kernel
theorem dX4_take_50 : decode cX4_take 50 = .ok (.aload_n 0, 1) := by decide +kernel
theorem dX4_take_51 : decode cX4_take 51 = .ok (.aload_n 2, 1) := by decide +kernel
theorem dX4_take_52 : decode cX4_take 52 = .ok (.invokevirtual 44, 3) := by decide +kernel
theorem dX4_take_55 : decode cX4_take 55 = .ok (.ireturn, 1) := by decide +kernel
theorem dX4_take_56 : decode cX4_take 56 = .ok (.aload_n 0, 1) := by decide +kernel
theorem dX4_take_57 : decode cX4_take 57 = .ok (.aload_n 2, 1) := by decide +kernel
theorem dX4_take_58 : decode cX4_take 58 = .ok (.invokevirtual 47, 3) := by decide +kernel
theorem dX4_take_61 : decode cX4_take 61 = .ok (.ireturn, 1) := by decide +kernel
theorem dX4_take_62 : decode cX4_take 62 = .ok (.aload_n 0, 1) := by decide +kernel
theorem dX4_take_63 : decode cX4_take 63 = .ok (.aload_n 2, 1) := by decide +kernel
theorem dX4_take_64 : decode cX4_take 64 = .ok (.invokevirtual 50, 3) := by decide +kernel
theorem dX4_take_67 : decode cX4_take 67 = .ok (.ireturn, 1) := by decide +kernel
theorem dX4_take_68 : decode cX4_take 68 = .ok (.iconst 0, 1) := by decide +kernel
theorem dX4_take_69 : decode cX4_take 69 = .ok (.ireturn, 1) := by decide +kernel
theorem dX4_takePerson_0 : decode cX4_takePerson 0 = .ok (.aload_n 0, 1) := by decide +kernel
theorem dX4_takePerson_1 : decode cX4_takePerson 1 = .ok (.getfield 30, 3) := by decide +kernel
theorem dX4_takePerson_4 : decode cX4_takePerson 4 = .ok (.bipush 6, 2) := by decide +kernel
theorem dX4_takePerson_6 : decode cX4_takePerson 6 = .ok (.if_icmp .ge 20, 3) := by decide +kernel
theorem dX4_takePerson_9 : decode cX4_takePerson 9 = .ok (.aload_n 1, 1) := by decide +kernel
theorem dX4_takePerson_10 : decode cX4_takePerson 10 = .ok (.iconst 0, 1) := by decide +kernel
theorem dX4_takePerson_11 : decode cX4_takePerson 11 = .ok (.iaload, 1) := by decide +kernel
theorem dX4_takePerson_12 : decode cX4_takePerson 12 = .ok (.iconst 4, 1) := by decide +kernel
theorem dX4_takePerson_13 : decode cX4_takePerson 13 = .ok (.if_icmp .gt 13, 3) := by decide +kernel
theorem dX4_takePerson_16 : decode cX4_takePerson 16 = .ok (.bipush 9, 2) := by decide +kernel
theorem dX4_takePerson_18 : decode cX4_takePerson 18 = .ok (.aload_n 1, 1) := by decide +kernel
theorem dX4_takePerson_19 : decode cX4_takePerson 19 = .ok (.iconst 1, 1) := by decide +kernel
theorem dX4_takePerson_20 : decode cX4_takePerson 20 = .ok (.invokestatic 53, 3) := by decide +kernel
theorem dX4_takePerson_23 : decode cX4_takePerson 23 = .ok (.ifCond .ne 5, 3) := by decide +kernel
theorem dX4_takePerson_26 : decode cX4_takePerson 26 = .ok (.iconst 0, 1) := by decide +kernel
theorem dX4_takePerson_27 : decode cX4_takePerson 27 = .ok (.ireturn, 1) := by decide +kernel
theorem dX4_takePerson_28 : decode cX4_takePerson 28 = .ok (.aload_n 0, 1) := by decide +kernel
theorem dX4_takePerson_29 : decode cX4_takePerson 29 = .ok (.getfield 9, 3) := by decide +kernel
theorem dX4_takePerson_32 : decode cX4_takePerson 32 = .ok (.aload_n 0, 1) := by decide +kernel
theorem dX4_takePerson_33 : decode cX4_takePerson 33 = .ok (.getfield 30, 3) := by decide +kernel
theorem dX4_takePerson_36 : decode cX4_takePerson 36 = .ok (.aload_n 1, 1) := by decide +kernel
theorem dX4_takePerson_37 : decode cX4_takePerson 37 = .ok (.iconst 0, 1) := by decide +kernel
theorem dX4_takePerson_38 : decode cX4_takePerson 38 = .ok (.iaload, 1) := by decide +kernel
theorem dX4_takePerson_39 : decode cX4_takePerson 39 = .ok (.iastore, 1) := by decide +kernel
theorem dX4_takePerson_40 : decode cX4_takePerson 40 = .ok (.aload_n 1, 1) := by decide +kernel
theorem dX4_takePerson_41 : decode cX4_takePerson 41 = .ok (.iconst 1, 1) := by decide +kernel
theorem dX4_takePerson_42 : decode cX4_takePerson 42 = .ok (.aload_n 0, 1) := by decide +kernel
theorem dX4_takePerson_43 : decode cX4_takePerson 43 = .ok (.getfield 15, 3) := by decide +kernel
theorem dX4_takePerson_46 : decode cX4_takePerson 46 = .ok (.aload_n 0, 1) := by decide +kernel
theorem dX4_takePerson_47 : decode cX4_takePerson 47 = .ok (.getfield 30, 3) := by decide +kernel
theorem dX4_takePerson_50 : decode cX4_takePerson 50 = .ok (.iconst 3, 1) := by decide +kernel
theorem dX4_takePerson_51 : decode cX4_takePerson 51 = .ok (.imul, 1) := by decide +kernel
theorem dX4_takePerson_52 : decode cX4_takePerson 52 = .ok (.iconst 3, 1) := by decide +kernel
theorem dX4_takePerson_53 : decode cX4_takePerson 53 = .ok (.invokestatic 57, 3) := by decide +kernel
theorem dX4_takePerson_56 : decode cX4_takePerson 56 = .ok (.aload_n 0, 1) := by decide +kernel
theorem dX4_takePerson_57 : decode cX4_takePerson 57 = .ok (.dup, 1) := by decide +kernel
theorem dX4_takePerson_58 : decode cX4_takePerson 58 = .ok (.getfield 30, 3) := by decide +kernel
theorem dX4_takePerson_61 : decode cX4_takePerson 61 = .ok (.iconst 1, 1) := by decide +kernel
theorem dX4_takePerson_62 : decode cX4_takePerson 62 = .ok (.iadd, 1) := by decide +kernel
theorem dX4_takePerson_63 : decode cX4_takePerson 63 = .ok (.putfield 30, 3) := by decide +kernel
theorem dX4_takePerson_66 : decode cX4_takePerson 66 = .ok (.iconst 1, 1) := by decide +kernel
theorem dX4_takePerson_67 : decode cX4_takePerson 67 = .ok (.ireturn, 1) := by decide +kernel
theorem dX4_takeDeed_0 : decode cX4_takeDeed 0 = .ok (.aload_n 0, 1) := by decide +kernel
theorem dX4_takeDeed_1 : decode cX4_takeDeed 1 = .ok (.getfield 34, 3) := by decide +kernel
theorem dX4_takeDeed_4 : decode cX4_takeDeed 4 = .ok (.bipush 6, 2) := by decide +kernel
theorem dX4_takeDeed_6 : decode cX4_takeDeed 6 = .ok (.if_icmp .ge 35, 3) := by decide +kernel
theorem dX4_takeDeed_9 : decode cX4_takeDeed 9 = .ok (.iconst 4, 1) := by decide +kernel
theorem dX4_takeDeed_10 : decode cX4_takeDeed 10 = .ok (.aload_n 1, 1) := by decide +kernel
theorem dX4_takeDeed_11 : decode cX4_takeDeed 11 = .ok (.iconst 0, 1) := by decide +kernel
theorem dX4_takeDeed_12 : decode cX4_takeDeed 12 = .ok (.invokestatic 53, 3) := by decide +kernel
theorem dX4_takeDeed_15 : decode cX4_takeDeed 15 = .ok (.ifCond .eq 26, 3) := by decide +kernel
theorem dX4_takeDeed_18 : decode cX4_takeDeed 18 = .ok (.aload_n 1, 1) := by decide +kernel
theorem dX4_takeDeed_19 : decode cX4_takeDeed 19 = .ok (.iconst 3, 1) := by decide +kernel
theorem dX4_takeDeed_20 : decode cX4_takeDeed 20 = .ok (.iaload, 1) := by decide +kernel
theorem dX4_takeDeed_21 : decode cX4_takeDeed 21 = .ok (.bipush 9, 2) := by decide +kernel
theorem dX4_takeDeed_23 : decode cX4_takeDeed 23 = .ok (.if_icmp .gt 18, 3) := by decide +kernel
theorem dX4_takeDeed_26 : decode cX4_takeDeed 26 = .ok (.aload_n 1, 1) := by decide +kernel
theorem dX4_takeDeed_27 : decode cX4_takeDeed 27 = .ok (.iconst 0, 1) := by decide +kernel
theorem dX4_takeDeed_28 : decode cX4_takeDeed 28 = .ok (.iaload, 1) := by decide +kernel
theorem dX4_takeDeed_29 : decode cX4_takeDeed 29 = .ok (.aload_n 1, 1) := by decide +kernel
theorem dX4_takeDeed_30 : decode cX4_takeDeed 30 = .ok (.iconst 1, 1) := by decide +kernel
theorem dX4_takeDeed_31 : decode cX4_takeDeed 31 = .ok (.iaload, 1) := by decide +kernel
theorem dX4_takeDeed_32 : decode cX4_takeDeed 32 = .ok (.iadd, 1) := by decide +kernel
theorem dX4_takeDeed_33 : decode cX4_takeDeed 33 = .ok (.aload_n 1, 1) := by decide +kernel
theorem dX4_takeDeed_34 : decode cX4_takeDeed 34 = .ok (.iconst 2, 1) := by decide +kernel
theorem dX4_takeDeed_35 : decode cX4_takeDeed 35 = .ok (.iaload, 1) := by decide +kernel
theorem dX4_takeDeed_36 : decode cX4_takeDeed 36 = .ok (.iadd, 1) := by decide +kernel
theorem dX4_takeDeed_37 : decode cX4_takeDeed 37 = .ok (.iconst 1, 1) := by decide +kernel
theorem dX4_takeDeed_38 : decode cX4_takeDeed 38 = .ok (.if_icmp .ge 5, 3) := by decide +kernel
theorem dX4_takeDeed_41 : decode cX4_takeDeed 41 = .ok (.iconst 0, 1) := by decide +kernel
theorem dX4_takeDeed_42 : decode cX4_takeDeed 42 = .ok (.ireturn, 1) := by decide +kernel
theorem dX4_takeDeed_43 : decode cX4_takeDeed 43 = .ok (.aload_n 1, 1) := by decide +kernel
theorem dX4_takeDeed_44 : decode cX4_takeDeed 44 = .ok (.iconst 0, 1) := by decide +kernel
theorem dX4_takeDeed_45 : decode cX4_takeDeed 45 = .ok (.aload_n 0, 1) := by decide +kernel
theorem dX4_takeDeed_46 : decode cX4_takeDeed 46 = .ok (.getfield 18, 3) := by decide +kernel
theorem dX4_takeDeed_49 : decode cX4_takeDeed 49 = .ok (.aload_n 0, 1) := by decide +kernel
theorem dX4_takeDeed_50 : decode cX4_takeDeed 50 = .ok (.getfield 34, 3) := by decide +kernel
theorem dX4_takeDeed_53 : decode cX4_takeDeed 53 = .ok (.iconst 3, 1) := by decide +kernel
theorem dX4_takeDeed_54 : decode cX4_takeDeed 54 = .ok (.imul, 1) := by decide +kernel
theorem dX4_takeDeed_55 : decode cX4_takeDeed 55 = .ok (.iconst 3, 1) := by decide +kernel
theorem dX4_takeDeed_56 : decode cX4_takeDeed 56 = .ok (.invokestatic 57, 3) := by decide +kernel
theorem dX4_takeDeed_59 : decode cX4_takeDeed 59 = .ok (.aload_n 0, 1) := by decide +kernel
theorem dX4_takeDeed_60 : decode cX4_takeDeed 60 = .ok (.getfield 21, 3) := by decide +kernel
theorem dX4_takeDeed_63 : decode cX4_takeDeed 63 = .ok (.aload_n 0, 1) := by decide +kernel
theorem dX4_takeDeed_64 : decode cX4_takeDeed 64 = .ok (.getfield 34, 3) := by decide +kernel
theorem dX4_takeDeed_67 : decode cX4_takeDeed 67 = .ok (.aload_n 1, 1) := by decide +kernel
theorem dX4_takeDeed_68 : decode cX4_takeDeed 68 = .ok (.iconst 3, 1) := by decide +kernel
theorem dX4_takeDeed_69 : decode cX4_takeDeed 69 = .ok (.iaload, 1) := by decide +kernel
theorem dX4_takeDeed_70 : decode cX4_takeDeed 70 = .ok (.iastore, 1) := by decide +kernel
theorem dX4_takeDeed_71 : decode cX4_takeDeed 71 = .ok (.aload_n 0, 1) := by decide +kernel
theorem dX4_takeDeed_72 : decode cX4_takeDeed 72 = .ok (.dup, 1) := by decide +kernel
theorem dX4_takeDeed_73 : decode cX4_takeDeed 73 = .ok (.getfield 34, 3) := by decide +kernel
theorem dX4_takeDeed_76 : decode cX4_takeDeed 76 = .ok (.iconst 1, 1) := by decide +kernel
theorem dX4_takeDeed_77 : decode cX4_takeDeed 77 = .ok (.iadd, 1) := by decide +kernel
theorem dX4_takeDeed_78 : decode cX4_takeDeed 78 = .ok (.putfield 34, 3) := by decide +kernel
theorem dX4_takeDeed_81 : decode cX4_takeDeed 81 = .ok (.iconst 1, 1) := by decide +kernel
theorem dX4_takeDeed_82 : decode cX4_takeDeed 82 = .ok (.ireturn, 1) := by decide +kernel
theorem dX4_takeHabit_0 : decode cX4_takeHabit 0 = .ok (.aload_n 1, 1) := by decide +kernel
theorem dX4_takeHabit_1 : decode cX4_takeHabit 1 = .ok (.iconst 0, 1) := by decide +kernel
theorem dX4_takeHabit_2 : decode cX4_takeHabit 2 = .ok (.iaload, 1) := by decide +kernel
theorem dX4_takeHabit_3 : decode cX4_takeHabit 3 = .ok (.aload_n 0, 1) := by decide +kernel
theorem dX4_takeHabit_4 : decode cX4_takeHabit 4 = .ok (.getfield 30, 3) := by decide +kernel
theorem dX4_takeHabit_7 : decode cX4_takeHabit 7 = .ok (.if_icmp .ge 21, 3) := by decide +kernel
theorem dX4_takeHabit_10 : decode cX4_takeHabit 10 = .ok (.aload_n 1, 1) := by decide +kernel
theorem dX4_takeHabit_11 : decode cX4_takeHabit 11 = .ok (.iconst 1, 1) := by decide +kernel
theorem dX4_takeHabit_12 : decode cX4_takeHabit 12 = .ok (.iaload, 1) := by decide +kernel
theorem dX4_takeHabit_13 : decode cX4_takeHabit 13 = .ok (.bipush 7, 2) := by decide +kernel
theorem dX4_takeHabit_15 : decode cX4_takeHabit 15 = .ok (.if_icmp .ge 13, 3) := by decide +kernel
theorem dX4_takeHabit_18 : decode cX4_takeHabit 18 = .ok (.aload_n 1, 1) := by decide +kernel
theorem dX4_takeHabit_19 : decode cX4_takeHabit 19 = .ok (.iconst 2, 1) := by decide +kernel
theorem dX4_takeHabit_20 : decode cX4_takeHabit 20 = .ok (.iaload, 1) := by decide +kernel
theorem dX4_takeHabit_21 : decode cX4_takeHabit 21 = .ok (.aload_n 0, 1) := by decide +kernel
theorem dX4_takeHabit_22 : decode cX4_takeHabit 22 = .ok (.getfield 34, 3) := by decide +kernel
theorem dX4_takeHabit_25 : decode cX4_takeHabit 25 = .ok (.if_icmp .lt 5, 3) := by decide +kernel
theorem dX4_takeHabit_28 : decode cX4_takeHabit 28 = .ok (.iconst 0, 1) := by decide +kernel
theorem dX4_takeHabit_29 : decode cX4_takeHabit 29 = .ok (.ireturn, 1) := by decide +kernel
theorem dX4_takeHabit_30 : decode cX4_takeHabit 30 = .ok (.aload_n 0, 1) := by decide +kernel
theorem dX4_takeHabit_31 : decode cX4_takeHabit 31 = .ok (.getfield 24, 3) := by decide +kernel
theorem dX4_takeHabit_34 : decode cX4_takeHabit 34 = .ok (.aload_n 1, 1) := by decide +kernel
theorem dX4_takeHabit_35 : decode cX4_takeHabit 35 = .ok (.iconst 0, 1) := by decide +kernel
theorem dX4_takeHabit_36 : decode cX4_takeHabit 36 = .ok (.iaload, 1) := by decide +kernel
theorem dX4_takeHabit_37 : decode cX4_takeHabit 37 = .ok (.bipush 7, 2) := by decide +kernel
theorem dX4_takeHabit_39 : decode cX4_takeHabit 39 = .ok (.imul, 1) := by decide +kernel
theorem dX4_takeHabit_40 : decode cX4_takeHabit 40 = .ok (.aload_n 1, 1) := by decide +kernel
theorem dX4_takeHabit_41 : decode cX4_takeHabit 41 = .ok (.iconst 1, 1) := by decide +kernel
theorem dX4_takeHabit_42 : decode cX4_takeHabit 42 = .ok (.iaload, 1) := by decide +kernel
theorem dX4_takeHabit_43 : decode cX4_takeHabit 43 = .ok (.iadd, 1) := by decide +kernel
theorem dX4_takeHabit_44 : decode cX4_takeHabit 44 = .ok (.aload_n 1, 1) := by decide +kernel
theorem dX4_takeHabit_45 : decode cX4_takeHabit 45 = .ok (.iconst 2, 1) := by decide +kernel
theorem dX4_takeHabit_46 : decode cX4_takeHabit 46 = .ok (.iaload, 1) := by decide +kernel
theorem dX4_takeHabit_47 : decode cX4_takeHabit 47 = .ok (.iastore, 1) := by decide +kernel
theorem dX4_takeHabit_48 : decode cX4_takeHabit 48 = .ok (.iconst 1, 1) := by decide +kernel
theorem dX4_takeHabit_49 : decode cX4_takeHabit 49 = .ok (.ireturn, 1) := by decide +kernel
theorem dX4_takePrice_0 : decode cX4_takePrice 0 = .ok (.aload_n 1, 1) := by decide +kernel
theorem dX4_takePrice_1 : decode cX4_takePrice 1 = .ok (.iconst 0, 1) := by decide +kernel
theorem dX4_takePrice_2 : decode cX4_takePrice 2 = .ok (.iaload, 1) := by decide +kernel
theorem dX4_takePrice_3 : decode cX4_takePrice 3 = .ok (.bipush 9, 2) := by decide +kernel
theorem dX4_takePrice_5 : decode cX4_takePrice 5 = .ok (.if_icmp .le 5, 3) := by decide +kernel
theorem dX4_takePrice_8 : decode cX4_takePrice 8 = .ok (.iconst 0, 1) := by decide +kernel
theorem dX4_takePrice_9 : decode cX4_takePrice 9 = .ok (.ireturn, 1) := by decide +kernel
theorem dX4_takePrice_10 : decode cX4_takePrice 10 = .ok (.aload_n 0, 1) := by decide +kernel
theorem dX4_takePrice_11 : decode cX4_takePrice 11 = .ok (.aload_n 1, 1) := by decide +kernel
theorem dX4_takePrice_12 : decode cX4_takePrice 12 = .ok (.iconst 0, 1) := by decide +kernel
theorem dX4_takePrice_13 : decode cX4_takePrice 13 = .ok (.iaload, 1) := by decide +kernel
theorem dX4_takePrice_14 : decode cX4_takePrice 14 = .ok (.putfield 37, 3) := by decide +kernel
theorem dX4_takePrice_17 : decode cX4_takePrice 17 = .ok (.iconst 1, 1) := by decide +kernel
theorem dX4_takePrice_18 : decode cX4_takePrice 18 = .ok (.ireturn, 1) := by decide +kernel
theorem dX4_eachUpTo_0 : decode cX4_eachUpTo 0 = .ok (.iconst 0, 1) := by decide +kernel
theorem dX4_eachUpTo_1 : decode cX4_eachUpTo 1 = .ok (.istore_n 3, 1) := by decide +kernel
theorem dX4_eachUpTo_2 : decode cX4_eachUpTo 2 = .ok (.iload_n 3, 1) := by decide +kernel
theorem dX4_eachUpTo_3 : decode cX4_eachUpTo 3 = .ok (.iconst 3, 1) := by decide +kernel
theorem dX4_eachUpTo_4 : decode cX4_eachUpTo 4 = .ok (.if_icmp .ge 20, 3) := by decide +kernel
theorem dX4_eachUpTo_7 : decode cX4_eachUpTo 7 = .ok (.aload_n 1, 1) := by decide +kernel
theorem dX4_eachUpTo_8 : decode cX4_eachUpTo 8 = .ok (.iload_n 2, 1) := by decide +kernel
theorem dX4_eachUpTo_9 : decode cX4_eachUpTo 9 = .ok (.iload_n 3, 1) := by decide +kernel
theorem dX4_eachUpTo_10 : decode cX4_eachUpTo 10 = .ok (.iadd, 1) := by decide +kernel
theorem dX4_eachUpTo_11 : decode cX4_eachUpTo 11 = .ok (.iaload, 1) := by decide +kernel
theorem dX4_eachUpTo_12 : decode cX4_eachUpTo 12 = .ok (.iload_n 0, 1) := by decide +kernel
theorem dX4_eachUpTo_13 : decode cX4_eachUpTo 13 = .ok (.if_icmp .le 5, 3) := by decide +kernel
theorem dX4_eachUpTo_16 : decode cX4_eachUpTo 16 = .ok (.iconst 0, 1) := by decide +kernel
theorem dX4_eachUpTo_17 : decode cX4_eachUpTo 17 = .ok (.ireturn, 1) := by decide +kernel
theorem dX4_eachUpTo_18 : decode cX4_eachUpTo 18 = .ok (.iinc 3 1, 3) := by decide +kernel
theorem dX4_eachUpTo_21 : decode cX4_eachUpTo 21 = .ok (.goto (-19), 3) := by decide +kernel
theorem dX4_eachUpTo_24 : decode cX4_eachUpTo 24 = .ok (.iconst 1, 1) := by decide +kernel
theorem dX4_eachUpTo_25 : decode cX4_eachUpTo 25 = .ok (.ireturn, 1) := by decide +kernel
theorem dX4_writeBill_0 : decode cX4_writeBill 0 = .ok (.aload_n 0, 1) := by decide +kernel
theorem dX4_writeBill_1 : decode cX4_writeBill 1 = .ok (.getfield 18, 3) := by decide +kernel
theorem dX4_writeBill_4 : decode cX4_writeBill 4 = .ok (.iload_n 2, 1) := by decide +kernel
theorem dX4_writeBill_5 : decode cX4_writeBill 5 = .ok (.iconst 3, 1) := by decide +kernel
theorem dX4_writeBill_6 : decode cX4_writeBill 6 = .ok (.imul, 1) := by decide +kernel
theorem dX4_writeBill_7 : decode cX4_writeBill 7 = .ok (.aload_n 0, 1) := by decide +kernel
theorem dX4_writeBill_8 : decode cX4_writeBill 8 = .ok (.getfield 27, 3) := by decide +kernel
theorem dX4_writeBill_11 : decode cX4_writeBill 11 = .ok (.iconst 0, 1) := by decide +kernel
theorem dX4_writeBill_12 : decode cX4_writeBill 12 = .ok (.iconst 3, 1) := by decide +kernel
theorem dX4_writeBill_13 : decode cX4_writeBill 13 = .ok (.invokestatic 57, 3) := by decide +kernel
theorem dX4_writeBill_16 : decode cX4_writeBill 16 = .ok (.aload_n 0, 1) := by decide +kernel
theorem dX4_writeBill_17 : decode cX4_writeBill 17 = .ok (.getfield 9, 3) := by decide +kernel
theorem dX4_writeBill_20 : decode cX4_writeBill 20 = .ok (.iload_n 1, 1) := by decide +kernel
theorem dX4_writeBill_21 : decode cX4_writeBill 21 = .ok (.iaload, 1) := by decide +kernel
theorem dX4_writeBill_22 : decode cX4_writeBill 22 = .ok (.iconst 3, 1) := by decide +kernel
theorem dX4_writeBill_23 : decode cX4_writeBill 23 = .ok (.if_icmp .ne 11, 3) := by decide +kernel
theorem dX4_writeBill_26 : decode cX4_writeBill 26 = .ok (.aload_n 0, 1) := by decide +kernel
theorem dX4_writeBill_27 : decode cX4_writeBill 27 = .ok (.invokevirtual 63, 3) := by decide +kernel
theorem dX4_writeBill_30 : decode cX4_writeBill 30 = .ok (.iconst 1, 1) := by decide +kernel
theorem dX4_writeBill_31 : decode cX4_writeBill 31 = .ok (.if_icmp .gt 4, 3) := by decide +kernel
theorem dX4_writeBill_34 : decode cX4_writeBill 34 = .ok (.return_, 1) := by decide +kernel
theorem dX4_writeBill_35 : decode cX4_writeBill 35 = .ok (.iconst 0, 1) := by decide +kernel
theorem dX4_writeBill_36 : decode cX4_writeBill 36 = .ok (.istore_n 3, 1) := by decide +kernel
theorem dX4_writeBill_37 : decode cX4_writeBill 37 = .ok (.iload_n 3, 1) := by decide +kernel
theorem dX4_writeBill_38 : decode cX4_writeBill 38 = .ok (.iconst 3, 1) := by decide +kernel
theorem dX4_writeBill_39 : decode cX4_writeBill 39 = .ok (.if_icmp .ge 29, 3) := by decide +kernel
theorem dX4_writeBill_42 : decode cX4_writeBill 42 = .ok (.aload_n 0, 1) := by decide +kernel
theorem dX4_writeBill_43 : decode cX4_writeBill 43 = .ok (.getfield 27, 3) := by decide +kernel
theorem dX4_writeBill_46 : decode cX4_writeBill 46 = .ok (.iload_n 3, 1) := by decide +kernel
theorem dX4_writeBill_47 : decode cX4_writeBill 47 = .ok (.iaload, 1) := by decide +kernel
theorem dX4_writeBill_48 : decode cX4_writeBill 48 = .ok (.ifCond .le 14, 3) := by decide +kernel
theorem dX4_writeBill_51 : decode cX4_writeBill 51 = .ok (.aload_n 0, 1) := by decide +kernel
theorem dX4_writeBill_52 : decode cX4_writeBill 52 = .ok (.getfield 27, 3) := by decide +kernel
theorem dX4_writeBill_55 : decode cX4_writeBill 55 = .ok (.iload_n 3, 1) := by decide +kernel
theorem dX4_writeBill_56 : decode cX4_writeBill 56 = .ok (.dup2, 1) := by decide +kernel
theorem dX4_writeBill_57 : decode cX4_writeBill 57 = .ok (.iaload, 1) := by decide +kernel
theorem dX4_writeBill_58 : decode cX4_writeBill 58 = .ok (.iconst 1, 1) := by decide +kernel
theorem dX4_writeBill_59 : decode cX4_writeBill 59 = .ok (.isub, 1) := by decide +kernel
theorem dX4_writeBill_60 : decode cX4_writeBill 60 = .ok (.iastore, 1) := by decide +kernel
theorem dX4_writeBill_61 : decode cX4_writeBill 61 = .ok (.return_, 1) := by decide +kernel
theorem dX4_writeBill_62 : decode cX4_writeBill 62 = .ok (.iinc 3 1, 3) := by decide +kernel
theorem dX4_writeBill_65 : decode cX4_writeBill 65 = .ok (.goto (-28), 3) := by decide +kernel
theorem dX4_writeBill_68 : decode cX4_writeBill 68 = .ok (.return_, 1) := by decide +kernel
theorem dX4_affords_0 : decode cX4_affords 0 = .ok (.aload_n 0, 1) := by decide +kernel
theorem dX4_affords_1 : decode cX4_affords 1 = .ok (.iload_n 1, 1) := by decide +kernel
theorem dX4_affords_2 : decode cX4_affords 2 = .ok (.iload_n 2, 1) := by decide +kernel
theorem dX4_affords_3 : decode cX4_affords 3 = .ok (.invokevirtual 67, 3) := by decide +kernel
theorem dX4_affords_6 : decode cX4_affords 6 = .ok (.iconst 0, 1) := by decide +kernel
theorem dX4_affords_7 : decode cX4_affords 7 = .ok (.istore 5, 2) := by decide +kernel
theorem dX4_affords_9 : decode cX4_affords 9 = .ok (.iconst 0, 1) := by decide +kernel
theorem dX4_affords_10 : decode cX4_affords 10 = .ok (.istore 6, 2) := by decide +kernel
theorem dX4_affords_12 : decode cX4_affords 12 = .ok (.iconst 0, 1) := by decide +kernel
theorem dX4_affords_13 : decode cX4_affords 13 = .ok (.istore 7, 2) := by decide +kernel
theorem dX4_affords_15 : decode cX4_affords 15 = .ok (.iload 7, 2) := by decide +kernel
theorem dX4_affords_17 : decode cX4_affords 17 = .ok (.iconst 3, 1) := by decide +kernel
theorem dX4_affords_18 : decode cX4_affords 18 = .ok (.if_icmp .ge 42, 3) := by decide +kernel
theorem dX4_affords_21 : decode cX4_affords 21 = .ok (.aload_n 0, 1) := by decide +kernel
theorem dX4_affords_22 : decode cX4_affords 22 = .ok (.getfield 27, 3) := by decide +kernel
theorem dX4_affords_25 : decode cX4_affords 25 = .ok (.iload 7, 2) := by decide +kernel
theorem dX4_affords_27 : decode cX4_affords 27 = .ok (.iaload, 1) := by decide +kernel
theorem dX4_affords_28 : decode cX4_affords 28 = .ok (.aload_n 3, 1) := by decide +kernel
theorem dX4_affords_29 : decode cX4_affords 29 = .ok (.iload 4, 2) := by decide +kernel
theorem dX4_affords_31 : decode cX4_affords 31 = .ok (.iload 7, 2) := by decide +kernel
theorem dX4_affords_33 : decode cX4_affords 33 = .ok (.iadd, 1) := by decide +kernel
theorem dX4_affords_34 : decode cX4_affords 34 = .ok (.iaload, 1) := by decide +kernel
theorem dX4_affords_35 : decode cX4_affords 35 = .ok (.isub, 1) := by decide +kernel
theorem dX4_affords_36 : decode cX4_affords 36 = .ok (.istore 8, 2) := by decide +kernel
theorem dX4_affords_38 : decode cX4_affords 38 = .ok (.iload 8, 2) := by decide +kernel
theorem dX4_affords_40 : decode cX4_affords 40 = .ok (.ifCond .le 14, 3) := by decide +kernel
theorem dX4_affords_43 : decode cX4_affords 43 = .ok (.iload 5, 2) := by decide +kernel
theorem dX4_affords_45 : decode cX4_affords 45 = .ok (.iload 8, 2) := by decide +kernel
theorem dX4_affords_47 : decode cX4_affords 47 = .ok (.iadd, 1) := by decide +kernel
theorem dX4_affords_48 : decode cX4_affords 48 = .ok (.istore 5, 2) := by decide +kernel
theorem dX4_affords_50 : decode cX4_affords 50 = .ok (.iload 7, 2) := by decide +kernel
theorem dX4_affords_52 : decode cX4_affords 52 = .ok (.istore 6, 2) := by decide +kernel
theorem dX4_affords_54 : decode cX4_affords 54 = .ok (.iinc 7 1, 3) := by decide +kernel
theorem dX4_affords_57 : decode cX4_affords 57 = .ok (.goto (-42), 3) := by decide +kernel
theorem dX4_affords_60 : decode cX4_affords 60 = .ok (.iload 5, 2) := by decide +kernel
theorem dX4_affords_62 : decode cX4_affords 62 = .ok (.ifCond .ne 5, 3) := by decide +kernel
theorem dX4_affords_65 : decode cX4_affords 65 = .ok (.iconst 1, 1) := by decide +kernel
theorem dX4_affords_66 : decode cX4_affords 66 = .ok (.ireturn, 1) := by decide +kernel
theorem dX4_affords_67 : decode cX4_affords 67 = .ok (.iload 5, 2) := by decide +kernel
theorem dX4_affords_69 : decode cX4_affords 69 = .ok (.iconst 1, 1) := by decide +kernel
theorem dX4_affords_70 : decode cX4_affords 70 = .ok (.if_icmp .ne 29, 3) := by decide +kernel
theorem dX4_affords_73 : decode cX4_affords 73 = .ok (.aload_n 0, 1) := by decide +kernel
theorem dX4_affords_74 : decode cX4_affords 74 = .ok (.getfield 9, 3) := by decide +kernel
theorem dX4_affords_77 : decode cX4_affords 77 = .ok (.iload_n 1, 1) := by decide +kernel
theorem dX4_affords_78 : decode cX4_affords 78 = .ok (.iaload, 1) := by decide +kernel
theorem dX4_affords_79 : decode cX4_affords 79 = .ok (.iconst 4, 1) := by decide +kernel
theorem dX4_affords_80 : decode cX4_affords 80 = .ok (.if_icmp .ne 19, 3) := by decide +kernel
theorem dX4_affords_83 : decode cX4_affords 83 = .ok (.aload_n 0, 1) := by decide +kernel
theorem dX4_affords_84 : decode cX4_affords 84 = .ok (.aload_n 3, 1) := by decide +kernel
theorem dX4_affords_85 : decode cX4_affords 85 = .ok (.iload 4, 2) := by decide +kernel
theorem dX4_affords_87 : decode cX4_affords 87 = .ok (.iload 6, 2) := by decide +kernel
theorem dX4_affords_89 : decode cX4_affords 89 = .ok (.invokevirtual 71, 3) := by decide +kernel
theorem dX4_affords_92 : decode cX4_affords 92 = .ok (.ifCond .eq 7, 3) := by decide +kernel
theorem dX4_affords_95 : decode cX4_affords 95 = .ok (.iconst 1, 1) := by decide +kernel
theorem dX4_affords_96 : decode cX4_affords 96 = .ok (.goto 4, 3) := by decide +kernel
theorem dX4_affords_99 : decode cX4_affords 99 = .ok (.iconst 0, 1) := by decide +kernel
theorem dX4_affords_100 : decode cX4_affords 100 = .ok (.ireturn, 1) := by decide +kernel
theorem dX4_mix_0 : decode cX4_mix 0 = .ok (.aload_n 0, 1) := by decide +kernel
theorem dX4_mix_1 : decode cX4_mix 1 = .ok (.getfield 27, 3) := by decide +kernel
theorem dX4_mix_4 : decode cX4_mix 4 = .ok (.iload_n 3, 1) := by decide +kernel
theorem dX4_mix_5 : decode cX4_mix 5 = .ok (.dup2, 1) := by decide +kernel
theorem dX4_mix_6 : decode cX4_mix 6 = .ok (.iaload, 1) := by decide +kernel
theorem dX4_mix_7 : decode cX4_mix 7 = .ok (.iconst 1, 1) := by decide +kernel
theorem dX4_mix_8 : decode cX4_mix 8 = .ok (.isub, 1) := by decide +kernel
theorem dX4_mix_9 : decode cX4_mix 9 = .ok (.iastore, 1) := by decide +kernel
theorem dX4_mix_10 : decode cX4_mix 10 = .ok (.iconst 0, 1) := by decide +kernel
theorem dX4_mix_11 : decode cX4_mix 11 = .ok (.istore 4, 2) := by decide +kernel
theorem dX4_mix_13 : decode cX4_mix 13 = .ok (.iconst 1, 1) := by decide +kernel
theorem dX4_mix_14 : decode cX4_mix 14 = .ok (.istore 5, 2) := by decide +kernel
theorem dX4_mix_16 : decode cX4_mix 16 = .ok (.iload 5, 2) := by decide +kernel
theorem dX4_mix_18 : decode cX4_mix 18 = .ok (.iconst 3, 1) := by decide +kernel
theorem dX4_mix_19 : decode cX4_mix 19 = .ok (.if_icmp .ge 44, 3) := by decide +kernel
theorem dX4_mix_22 : decode cX4_mix 22 = .ok (.aload_n 1, 1) := by decide +kernel
theorem dX4_mix_23 : decode cX4_mix 23 = .ok (.iload_n 2, 1) := by decide +kernel
theorem dX4_mix_24 : decode cX4_mix 24 = .ok (.iload 5, 2) := by decide +kernel
theorem dX4_mix_26 : decode cX4_mix 26 = .ok (.iadd, 1) := by decide +kernel
theorem dX4_mix_27 : decode cX4_mix 27 = .ok (.iaload, 1) := by decide +kernel
theorem dX4_mix_28 : decode cX4_mix 28 = .ok (.aload_n 0, 1) := by decide +kernel
theorem dX4_mix_29 : decode cX4_mix 29 = .ok (.getfield 27, 3) := by decide +kernel
theorem dX4_mix_32 : decode cX4_mix 32 = .ok (.iload 5, 2) := by decide +kernel
theorem dX4_mix_34 : decode cX4_mix 34 = .ok (.iaload, 1) := by decide +kernel
theorem dX4_mix_35 : decode cX4_mix 35 = .ok (.isub, 1) := by decide +kernel
theorem dX4_mix_36 : decode cX4_mix 36 = .ok (.aload_n 1, 1) := by decide +kernel
theorem dX4_mix_37 : decode cX4_mix 37 = .ok (.iload_n 2, 1) := by decide +kernel
theorem dX4_mix_38 : decode cX4_mix 38 = .ok (.iload 4, 2) := by decide +kernel
theorem dX4_mix_40 : decode cX4_mix 40 = .ok (.iadd, 1) := by decide +kernel
theorem dX4_mix_41 : decode cX4_mix 41 = .ok (.iaload, 1) := by decide +kernel
theorem dX4_mix_42 : decode cX4_mix 42 = .ok (.aload_n 0, 1) := by decide +kernel
theorem dX4_mix_43 : decode cX4_mix 43 = .ok (.getfield 27, 3) := by decide +kernel
theorem dX4_mix_46 : decode cX4_mix 46 = .ok (.iload 4, 2) := by decide +kernel
theorem dX4_mix_48 : decode cX4_mix 48 = .ok (.iaload, 1) := by decide +kernel
theorem dX4_mix_49 : decode cX4_mix 49 = .ok (.isub, 1) := by decide +kernel
theorem dX4_mix_50 : decode cX4_mix 50 = .ok (.if_icmp .le 7, 3) := by decide +kernel
theorem dX4_mix_53 : decode cX4_mix 53 = .ok (.iload 5, 2) := by decide +kernel
theorem dX4_mix_55 : decode cX4_mix 55 = .ok (.istore 4, 2) := by decide +kernel
theorem dX4_mix_57 : decode cX4_mix 57 = .ok (.iinc 5 1, 3) := by decide +kernel
theorem dX4_mix_60 : decode cX4_mix 60 = .ok (.goto (-44), 3) := by decide +kernel
theorem dX4_mix_63 : decode cX4_mix 63 = .ok (.aload_n 1, 1) := by decide +kernel
theorem dX4_mix_64 : decode cX4_mix 64 = .ok (.iload_n 2, 1) := by decide +kernel
theorem dX4_mix_65 : decode cX4_mix 65 = .ok (.iload 4, 2) := by decide +kernel
theorem dX4_mix_67 : decode cX4_mix 67 = .ok (.iadd, 1) := by decide +kernel
theorem dX4_mix_68 : decode cX4_mix 68 = .ok (.iaload, 1) := by decide +kernel
theorem dX4_mix_69 : decode cX4_mix 69 = .ok (.aload_n 0, 1) := by decide +kernel
theorem dX4_mix_70 : decode cX4_mix 70 = .ok (.getfield 27, 3) := by decide +kernel
theorem dX4_mix_73 : decode cX4_mix 73 = .ok (.iload 4, 2) := by decide +kernel
theorem dX4_mix_75 : decode cX4_mix 75 = .ok (.iaload, 1) := by decide +kernel
theorem dX4_mix_76 : decode cX4_mix 76 = .ok (.isub, 1) := by decide +kernel
theorem dX4_mix_77 : decode cX4_mix 77 = .ok (.iconst 2, 1) := by decide +kernel
theorem dX4_mix_78 : decode cX4_mix 78 = .ok (.if_icmp .ge 5, 3) := by decide +kernel
theorem dX4_mix_81 : decode cX4_mix 81 = .ok (.iconst 0, 1) := by decide +kernel
theorem dX4_mix_82 : decode cX4_mix 82 = .ok (.ireturn, 1) := by decide +kernel
theorem dX4_mix_83 : decode cX4_mix 83 = .ok (.aload_n 0, 1) := by decide +kernel
theorem dX4_mix_84 : decode cX4_mix 84 = .ok (.getfield 27, 3) := by decide +kernel
theorem dX4_mix_87 : decode cX4_mix 87 = .ok (.iload 4, 2) := by decide +kernel
theorem dX4_mix_89 : decode cX4_mix 89 = .ok (.dup2, 1) := by decide +kernel
theorem dX4_mix_90 : decode cX4_mix 90 = .ok (.iaload, 1) := by decide +kernel
theorem dX4_mix_91 : decode cX4_mix 91 = .ok (.iconst 2, 1) := by decide +kernel
theorem dX4_mix_92 : decode cX4_mix 92 = .ok (.iadd, 1) := by decide +kernel
theorem dX4_mix_93 : decode cX4_mix 93 = .ok (.iastore, 1) := by decide +kernel
theorem dX4_mix_94 : decode cX4_mix 94 = .ok (.iconst 1, 1) := by decide +kernel
theorem dX4_mix_95 : decode cX4_mix 95 = .ok (.ireturn, 1) := by decide +kernel
theorem dX4_billSum_0 : decode cX4_billSum 0 = .ok (.aload_n 0, 1) := by decide +kernel
theorem dX4_billSum_1 : decode cX4_billSum 1 = .ok (.getfield 27, 3) := by decide +kernel
theorem dX4_billSum_4 : decode cX4_billSum 4 = .ok (.iconst 0, 1) := by decide +kernel
theorem dX4_billSum_5 : decode cX4_billSum 5 = .ok (.iaload, 1) := by decide +kernel
theorem dX4_billSum_6 : decode cX4_billSum 6 = .ok (.aload_n 0, 1) := by decide +kernel
theorem dX4_billSum_7 : decode cX4_billSum 7 = .ok (.getfield 27, 3) := by decide +kernel
theorem dX4_billSum_10 : decode cX4_billSum 10 = .ok (.iconst 1, 1) := by decide +kernel
theorem dX4_billSum_11 : decode cX4_billSum 11 = .ok (.iaload, 1) := by decide +kernel
theorem dX4_billSum_12 : decode cX4_billSum 12 = .ok (.iadd, 1) := by decide +kernel
theorem dX4_billSum_13 : decode cX4_billSum 13 = .ok (.aload_n 0, 1) := by decide +kernel
theorem dX4_billSum_14 : decode cX4_billSum 14 = .ok (.getfield 27, 3) := by decide +kernel
theorem dX4_billSum_17 : decode cX4_billSum 17 = .ok (.iconst 2, 1) := by decide +kernel
theorem dX4_billSum_18 : decode cX4_billSum 18 = .ok (.iaload, 1) := by decide +kernel
theorem dX4_billSum_19 : decode cX4_billSum 19 = .ok (.iadd, 1) := by decide +kernel
theorem dX4_billSum_20 : decode cX4_billSum 20 = .ok (.ireturn, 1) := by decide +kernel
theorem dX4_pay_0 : decode cX4_pay 0 = .ok (.iconst 0, 1) := by decide +kernel
theorem dX4_pay_1 : decode cX4_pay 1 = .ok (.istore_n 3, 1) := by decide +kernel
theorem dX4_pay_2 : decode cX4_pay 2 = .ok (.iload_n 3, 1) := by decide +kernel
theorem dX4_pay_3 : decode cX4_pay 3 = .ok (.iconst 3, 1) := by decide +kernel
theorem dX4_pay_4 : decode cX4_pay 4 = .ok (.if_icmp .ge 23, 3) := by decide +kernel
theorem dX4_pay_7 : decode cX4_pay 7 = .ok (.aload_n 1, 1) := by decide +kernel
theorem dX4_pay_8 : decode cX4_pay 8 = .ok (.iload_n 2, 1) := by decide +kernel
theorem dX4_pay_9 : decode cX4_pay 9 = .ok (.iload_n 3, 1) := by decide +kernel
theorem dX4_pay_10 : decode cX4_pay 10 = .ok (.iadd, 1) := by decide +kernel
theorem dX4_pay_11 : decode cX4_pay 11 = .ok (.dup2, 1) := by decide +kernel
theorem dX4_pay_12 : decode cX4_pay 12 = .ok (.iaload, 1) := by decide +kernel
theorem dX4_pay_13 : decode cX4_pay 13 = .ok (.aload_n 0, 1) := by decide +kernel
theorem dX4_pay_14 : decode cX4_pay 14 = .ok (.getfield 27, 3) := by decide +kernel
theorem dX4_pay_17 : decode cX4_pay 17 = .ok (.iload_n 3, 1) := by decide +kernel
theorem dX4_pay_18 : decode cX4_pay 18 = .ok (.iaload, 1) := by decide +kernel
theorem dX4_pay_19 : decode cX4_pay 19 = .ok (.isub, 1) := by decide +kernel
theorem dX4_pay_20 : decode cX4_pay 20 = .ok (.iastore, 1) := by decide +kernel
theorem dX4_pay_21 : decode cX4_pay 21 = .ok (.iinc 3 1, 3) := by decide +kernel
theorem dX4_pay_24 : decode cX4_pay 24 = .ok (.goto (-22), 3) := by decide +kernel
theorem dX4_pay_27 : decode cX4_pay 27 = .ok (.return_, 1) := by decide +kernel
theorem dX4_fade_0 : decode cX4_fade 0 = .ok (.aload_n 0, 1) := by decide +kernel
theorem dX4_fade_1 : decode cX4_fade 1 = .ok (.getfield 9, 3) := by decide +kernel
theorem dX4_fade_4 : decode cX4_fade 4 = .ok (.iload_n 1, 1) := by decide +kernel
theorem dX4_fade_5 : decode cX4_fade 5 = .ok (.iaload, 1) := by decide +kernel
theorem dX4_fade_6 : decode cX4_fade 6 = .ok (.iconst 2, 1) := by decide +kernel
theorem dX4_fade_7 : decode cX4_fade 7 = .ok (.if_icmp .ne 20, 3) := by decide +kernel
theorem dX4_fade_10 : decode cX4_fade 10 = .ok (.aload_n 2, 1) := by decide +kernel
theorem dX4_fade_11 : decode cX4_fade 11 = .ok (.iload_n 3, 1) := by decide +kernel
theorem dX4_fade_12 : decode cX4_fade 12 = .ok (.iconst 2, 1) := by decide +kernel
theorem dX4_fade_13 : decode cX4_fade 13 = .ok (.iadd, 1) := by decide +kernel
theorem dX4_fade_14 : decode cX4_fade 14 = .ok (.iaload, 1) := by decide +kernel
theorem dX4_fade_15 : decode cX4_fade 15 = .ok (.ifCond .le 12, 3) := by decide +kernel
theorem dX4_fade_18 : decode cX4_fade 18 = .ok (.aload_n 2, 1) := by decide +kernel
theorem dX4_fade_19 : decode cX4_fade 19 = .ok (.iload_n 3, 1) := by decide +kernel
theorem dX4_fade_20 : decode cX4_fade 20 = .ok (.iconst 2, 1) := by decide +kernel
theorem dX4_fade_21 : decode cX4_fade 21 = .ok (.iadd, 1) := by decide +kernel
theorem dX4_fade_22 : decode cX4_fade 22 = .ok (.dup2, 1) := by decide +kernel
theorem dX4_fade_23 : decode cX4_fade 23 = .ok (.iaload, 1) := by decide +kernel
theorem dX4_fade_24 : decode cX4_fade 24 = .ok (.iconst 1, 1) := by decide +kernel
theorem dX4_fade_25 : decode cX4_fade 25 = .ok (.isub, 1) := by decide +kernel
theorem dX4_fade_26 : decode cX4_fade 26 = .ok (.iastore, 1) := by decide +kernel
theorem dX4_fade_27 : decode cX4_fade 27 = .ok (.return_, 1) := by decide +kernel
theorem dX4_renew_0 : decode cX4_renew 0 = .ok (.iconst 0, 1) := by decide +kernel
theorem dX4_renew_1 : decode cX4_renew 1 = .ok (.istore 4, 2) := by decide +kernel
theorem dX4_renew_3 : decode cX4_renew 3 = .ok (.iload 4, 2) := by decide +kernel
theorem dX4_renew_5 : decode cX4_renew 5 = .ok (.iconst 3, 1) := by decide +kernel
theorem dX4_renew_6 : decode cX4_renew 6 = .ok (.if_icmp .ge 56, 3) := by decide +kernel
theorem dX4_renew_9 : decode cX4_renew 9 = .ok (.aload_n 0, 1) := by decide +kernel
theorem dX4_renew_10 : decode cX4_renew 10 = .ok (.getfield 9, 3) := by decide +kernel
theorem dX4_renew_13 : decode cX4_renew 13 = .ok (.iload_n 1, 1) := by decide +kernel
theorem dX4_renew_14 : decode cX4_renew 14 = .ok (.iaload, 1) := by decide +kernel
theorem dX4_renew_15 : decode cX4_renew 15 = .ok (.iconst 1, 1) := by decide +kernel
theorem dX4_renew_16 : decode cX4_renew 16 = .ok (.if_icmp .ne 12, 3) := by decide +kernel
theorem dX4_renew_19 : decode cX4_renew 19 = .ok (.aload_n 2, 1) := by decide +kernel
theorem dX4_renew_20 : decode cX4_renew 20 = .ok (.iload_n 3, 1) := by decide +kernel
theorem dX4_renew_21 : decode cX4_renew 21 = .ok (.iload 4, 2) := by decide +kernel
theorem dX4_renew_23 : decode cX4_renew 23 = .ok (.iadd, 1) := by decide +kernel
theorem dX4_renew_24 : decode cX4_renew 24 = .ok (.iaload, 1) := by decide +kernel
theorem dX4_renew_25 : decode cX4_renew 25 = .ok (.goto 4, 3) := by decide +kernel
theorem dX4_renew_28 : decode cX4_renew 28 = .ok (.iconst 0, 1) := by decide +kernel
theorem dX4_renew_29 : decode cX4_renew 29 = .ok (.istore 5, 2) := by decide +kernel
theorem dX4_renew_31 : decode cX4_renew 31 = .ok (.aload_n 2, 1) := by decide +kernel
theorem dX4_renew_32 : decode cX4_renew 32 = .ok (.iload_n 3, 1) := by decide +kernel
theorem dX4_renew_33 : decode cX4_renew 33 = .ok (.iload 4, 2) := by decide +kernel
theorem dX4_renew_35 : decode cX4_renew 35 = .ok (.iadd, 1) := by decide +kernel
theorem dX4_renew_36 : decode cX4_renew 36 = .ok (.bipush 99, 2) := by decide +kernel
theorem dX4_renew_38 : decode cX4_renew 38 = .ok (.iload 5, 2) := by decide +kernel
theorem dX4_renew_40 : decode cX4_renew 40 = .ok (.aload_n 0, 1) := by decide +kernel
theorem dX4_renew_41 : decode cX4_renew 41 = .ok (.getfield 15, 3) := by decide +kernel
theorem dX4_renew_44 : decode cX4_renew 44 = .ok (.iload_n 1, 1) := by decide +kernel
theorem dX4_renew_45 : decode cX4_renew 45 = .ok (.iconst 3, 1) := by decide +kernel
theorem dX4_renew_46 : decode cX4_renew 46 = .ok (.imul, 1) := by decide +kernel
theorem dX4_renew_47 : decode cX4_renew 47 = .ok (.iload 4, 2) := by decide +kernel
theorem dX4_renew_49 : decode cX4_renew 49 = .ok (.iadd, 1) := by decide +kernel
theorem dX4_renew_50 : decode cX4_renew 50 = .ok (.iaload, 1) := by decide +kernel
theorem dX4_renew_51 : decode cX4_renew 51 = .ok (.iadd, 1) := by decide +kernel
theorem dX4_renew_52 : decode cX4_renew 52 = .ok (.invokestatic 75, 3) := by decide +kernel
theorem dX4_renew_55 : decode cX4_renew 55 = .ok (.iastore, 1) := by decide +kernel
theorem dX4_renew_56 : decode cX4_renew 56 = .ok (.iinc 4 1, 3) := by decide +kernel
theorem dX4_renew_59 : decode cX4_renew 59 = .ok (.goto (-56), 3) := by decide +kernel
theorem dX4_renew_62 : decode cX4_renew 62 = .ok (.return_, 1) := by decide +kernel
end
section
theorem dX5_init_0 : decode cX5_init 0 = .ok (.aload_n 0, 1) := by decide +kernel
theorem dX5_init_1 : decode cX5_init 1 = .ok (.invokespecial 3, 3) := by decide +kernel
theorem dX5_init_4 : decode cX5_init 4 = .ok (.aload_n 0, 1) := by decide +kernel
theorem dX5_init_5 : decode cX5_init 5 = .ok (.bipush 7, 2) := by decide +kernel
theorem dX5_init_7 : decode cX5_init 7 = .ok (.newarray .int, 2) := by decide +kernel
theorem dX5_init_9 : decode cX5_init 9 = .ok (.putfield 11, 3) := by decide +kernel
theorem dX5_init_12 : decode cX5_init 12 = .ok (.aload_n 0, 1) := by decide +kernel
theorem dX5_init_13 : decode cX5_init 13 = .ok (.bipush 7, 2) := by decide +kernel
theorem dX5_init_15 : decode cX5_init 15 = .ok (.newarray .int, 2) := by decide +kernel
theorem dX5_init_17 : decode cX5_init 17 = .ok (.putfield 15, 3) := by decide +kernel
theorem dX5_init_20 : decode cX5_init 20 = .ok (.aload_n 0, 1) := by decide +kernel
theorem dX5_init_21 : decode cX5_init 21 = .ok (.bipush 7, 2) := by decide +kernel
theorem dX5_init_23 : decode cX5_init 23 = .ok (.newarray .int, 2) := by decide +kernel
theorem dX5_init_25 : decode cX5_init 25 = .ok (.putfield 18, 3) := by decide +kernel
theorem dX5_init_28 : decode cX5_init 28 = .ok (.aload_n 0, 1) := by decide +kernel
theorem dX5_init_29 : decode cX5_init 29 = .ok (.bipush 15, 2) := by decide +kernel
theorem dX5_init_31 : decode cX5_init 31 = .ok (.newarray .int, 2) := by decide +kernel
theorem dX5_init_33 : decode cX5_init 33 = .ok (.putfield 21, 3) := by decide +kernel
theorem dX5_init_36 : decode cX5_init 36 = .ok (.aload_n 0, 1) := by decide +kernel
theorem dX5_init_37 : decode cX5_init 37 = .ok (.iconst 4, 1) := by decide +kernel
theorem dX5_init_38 : decode cX5_init 38 = .ok (.newarray .int, 2) := by decide +kernel
theorem dX5_init_40 : decode cX5_init 40 = .ok (.putfield 24, 3) := by decide +kernel
theorem dX5_init_43 : decode cX5_init 43 = .ok (.aload_n 0, 1) := by decide +kernel
theorem dX5_init_44 : decode cX5_init 44 = .ok (.iconst 4, 1) := by decide +kernel
theorem dX5_init_45 : decode cX5_init 45 = .ok (.newarray .int, 2) := by decide +kernel
theorem dX5_init_47 : decode cX5_init 47 = .ok (.putfield 27, 3) := by decide +kernel
theorem dX5_init_50 : decode cX5_init 50 = .ok (.return_, 1) := by decide +kernel
theorem dX5_add_0 : decode cX5_add 0 = .ok (.aload_n 0, 1) := by decide +kernel
theorem dX5_add_1 : decode cX5_add 1 = .ok (.getfield 30, 3) := by decide +kernel
theorem dX5_add_4 : decode cX5_add 4 = .ok (.bipush 7, 2) := by decide +kernel
theorem dX5_add_6 : decode cX5_add 6 = .ok (.if_icmp .lt 5, 3) := by decide +kernel
theorem dX5_add_9 : decode cX5_add 9 = .ok (.iconst 0, 1) := by decide +kernel
theorem dX5_add_10 : decode cX5_add 10 = .ok (.ireturn, 1) := by decide +kernel
theorem dX5_add_11 : decode cX5_add 11 = .ok (.aload_n 0, 1) := by decide +kernel
theorem dX5_add_12 : decode cX5_add 12 = .ok (.getfield 11, 3) := by decide +kernel
theorem dX5_add_15 : decode cX5_add 15 = .ok (.aload_n 0, 1) := by decide +kernel
theorem dX5_add_16 : decode cX5_add 16 = .ok (.getfield 30, 3) := by decide +kernel
theorem dX5_add_19 : decode cX5_add 19 = .ok (.iload_n 1, 1) := by decide +kernel
theorem dX5_add_20 : decode cX5_add 20 = .ok (.iastore, 1) := by decide +kernel
theorem dX5_add_21 : decode cX5_add 21 = .ok (.aload_n 0, 1) := by decide +kernel
theorem dX5_add_22 : decode cX5_add 22 = .ok (.getfield 15, 3) := by decide +kernel
theorem dX5_add_25 : decode cX5_add 25 = .ok (.aload_n 0, 1) := by decide +kernel
theorem dX5_add_26 : decode cX5_add 26 = .ok (.getfield 30, 3) := by decide +kernel
theorem dX5_add_29 : decode cX5_add 29 = .ok (.iload_n 2, 1) := by decide +kernel
theorem dX5_add_30 : decode cX5_add 30 = .ok (.iastore, 1) := by decide +kernel
theorem dX5_add_31 : decode cX5_add 31 = .ok (.aload_n 0, 1) := by decide +kernel
theorem dX5_add_32 : decode cX5_add 32 = .ok (.getfield 18, 3) := by decide +kernel
theorem dX5_add_35 : decode cX5_add 35 = .ok (.aload_n 0, 1) := by decide +kernel
theorem dX5_add_36 : decode cX5_add 36 = .ok (.getfield 30, 3) := by decide +kernel
theorem dX5_add_39 : decode cX5_add 39 = .ok (.iload_n 3, 1) := by decide +kernel
theorem dX5_add_40 : decode cX5_add 40 = .ok (.iastore, 1) := by decide +kernel
theorem dX5_add_41 : decode cX5_add 41 = .ok (.aload_n 0, 1) := by decide +kernel
theorem dX5_add_42 : decode cX5_add 42 = .ok (.dup, 1) := by decide +kernel
theorem dX5_add_43 : decode cX5_add 43 = .ok (.getfield 30, 3) := by decide +kernel
theorem dX5_add_46 : decode cX5_add 46 = .ok (.iconst 1, 1) := by decide +kernel
theorem dX5_add_47 : decode cX5_add 47 = .ok (.iadd, 1) := by decide +kernel
theorem dX5_add_48 : decode cX5_add 48 = .ok (.putfield 30, 3) := by decide +kernel
theorem dX5_add_51 : decode cX5_add 51 = .ok (.iconst 1, 1) := by decide +kernel
theorem dX5_add_52 : decode cX5_add 52 = .ok (.ireturn, 1) := by decide +kernel
theorem dX5_lastDay_0 : decode cX5_lastDay 0 = .ok (.iconst 0, 1) := by decide +kernel
theorem dX5_lastDay_1 : decode cX5_lastDay 1 = .ok (.istore_n 2, 1) := by decide +kernel
theorem dX5_lastDay_2 : decode cX5_lastDay 2 = .ok (.iconst 0, 1) := by decide +kernel
theorem dX5_lastDay_3 : decode cX5_lastDay 3 = .ok (.istore_n 3, 1) := by decide +kernel
theorem dX5_lastDay_4 : decode cX5_lastDay 4 = .ok (.iload_n 3, 1) := by decide +kernel
theorem dX5_lastDay_5 : decode cX5_lastDay 5 = .ok (.aload_n 0, 1) := by decide +kernel
theorem dX5_lastDay_6 : decode cX5_lastDay 6 = .ok (.getfield 30, 3) := by decide +kernel
theorem dX5_lastDay_9 : decode cX5_lastDay 9 = .ok (.if_icmp .ge 30, 3) := by decide +kernel
theorem dX5_lastDay_12 : decode cX5_lastDay 12 = .ok (.aload_n 0, 1) := by decide +kernel
theorem dX5_lastDay_13 : decode cX5_lastDay 13 = .ok (.getfield 11, 3) := by decide +kernel
theorem dX5_lastDay_16 : decode cX5_lastDay 16 = .ok (.iload_n 3, 1) := by decide +kernel
theorem dX5_lastDay_17 : decode cX5_lastDay 17 = .ok (.iaload, 1) := by decide +kernel
theorem dX5_lastDay_18 : decode cX5_lastDay 18 = .ok (.iload_n 1, 1) := by decide +kernel
theorem dX5_lastDay_19 : decode cX5_lastDay 19 = .ok (.if_icmp .ne 14, 3) := by decide +kernel
theorem dX5_lastDay_22 : decode cX5_lastDay 22 = .ok (.iload_n 2, 1) := by decide +kernel
theorem dX5_lastDay_23 : decode cX5_lastDay 23 = .ok (.aload_n 0, 1) := by decide +kernel
theorem dX5_lastDay_24 : decode cX5_lastDay 24 = .ok (.getfield 15, 3) := by decide +kernel
theorem dX5_lastDay_27 : decode cX5_lastDay 27 = .ok (.iload_n 3, 1) := by decide +kernel
theorem dX5_lastDay_28 : decode cX5_lastDay 28 = .ok (.iaload, 1) := by decide +kernel
theorem dX5_lastDay_29 : decode cX5_lastDay 29 = .ok (.invokestatic 34, 3) := by decide +kernel
theorem dX5_lastDay_32 : decode cX5_lastDay 32 = .ok (.istore_n 2, 1) := by decide +kernel
theorem dX5_lastDay_33 : decode cX5_lastDay 33 = .ok (.iinc 3 1, 3) := by decide +kernel
theorem dX5_lastDay_36 : decode cX5_lastDay 36 = .ok (.goto (-32), 3) := by decide +kernel
theorem dX5_lastDay_39 : decode cX5_lastDay 39 = .ok (.iload_n 2, 1) := by decide +kernel
theorem dX5_lastDay_40 : decode cX5_lastDay 40 = .ok (.ireturn, 1) := by decide +kernel
theorem dX5_agrees_0 : decode cX5_agrees 0 = .ok (.iconst 0, 1) := by decide +kernel
theorem dX5_agrees_1 : decode cX5_agrees 1 = .ok (.istore 4, 2) := by decide +kernel
theorem dX5_agrees_3 : decode cX5_agrees 3 = .ok (.iload 4, 2) := by decide +kernel
theorem dX5_agrees_5 : decode cX5_agrees 5 = .ok (.aload_n 0, 1) := by decide +kernel
theorem dX5_agrees_6 : decode cX5_agrees 6 = .ok (.getfield 30, 3) := by decide +kernel
theorem dX5_agrees_9 : decode cX5_agrees 9 = .ok (.if_icmp .ge 44, 3) := by decide +kernel
theorem dX5_agrees_12 : decode cX5_agrees 12 = .ok (.aload_n 0, 1) := by decide +kernel
theorem dX5_agrees_13 : decode cX5_agrees 13 = .ok (.getfield 11, 3) := by decide +kernel
theorem dX5_agrees_16 : decode cX5_agrees 16 = .ok (.iload 4, 2) := by decide +kernel
theorem dX5_agrees_18 : decode cX5_agrees 18 = .ok (.iaload, 1) := by decide +kernel
theorem dX5_agrees_19 : decode cX5_agrees 19 = .ok (.iload_n 1, 1) := by decide +kernel
theorem dX5_agrees_20 : decode cX5_agrees 20 = .ok (.if_icmp .ne 27, 3) := by decide +kernel
theorem dX5_agrees_23 : decode cX5_agrees 23 = .ok (.aload_n 0, 1) := by decide +kernel
theorem dX5_agrees_24 : decode cX5_agrees 24 = .ok (.getfield 15, 3) := by decide +kernel
theorem dX5_agrees_27 : decode cX5_agrees 27 = .ok (.iload 4, 2) := by decide +kernel
theorem dX5_agrees_29 : decode cX5_agrees 29 = .ok (.iaload, 1) := by decide +kernel
theorem dX5_agrees_30 : decode cX5_agrees 30 = .ok (.iload_n 2, 1) := by decide +kernel
theorem dX5_agrees_31 : decode cX5_agrees 31 = .ok (.if_icmp .ne 16, 3) := by decide +kernel
theorem dX5_agrees_34 : decode cX5_agrees 34 = .ok (.aload_n 0, 1) := by decide +kernel
theorem dX5_agrees_35 : decode cX5_agrees 35 = .ok (.getfield 18, 3) := by decide +kernel
theorem dX5_agrees_38 : decode cX5_agrees 38 = .ok (.iload 4, 2) := by decide +kernel
theorem dX5_agrees_40 : decode cX5_agrees 40 = .ok (.iaload, 1) := by decide +kernel
theorem dX5_agrees_41 : decode cX5_agrees 41 = .ok (.iload_n 3, 1) := by decide +kernel
theorem dX5_agrees_42 : decode cX5_agrees 42 = .ok (.if_icmp .eq 5, 3) := by decide +kernel
theorem dX5_agrees_45 : decode cX5_agrees 45 = .ok (.iconst 0, 1) := by decide +kernel
theorem dX5_agrees_46 : decode cX5_agrees 46 = .ok (.ireturn, 1) := by decide +kernel
theorem dX5_agrees_47 : decode cX5_agrees 47 = .ok (.iinc 4 1, 3) := by decide +kernel
theorem dX5_agrees_50 : decode cX5_agrees 50 = .ok (.goto (-47), 3) := by decide +kernel
theorem dX5_agrees_53 : decode cX5_agrees 53 = .ok (.iconst 1, 1) := by decide +kernel
theorem dX5_agrees_54 : decode cX5_agrees 54 = .ok (.ireturn, 1) := by decide +kernel
theorem dX5_recall_0 : decode cX5_recall 0 = .ok (.aload_n 0, 1) := by decide +kernel
theorem dX5_recall_1 : decode cX5_recall 1 = .ok (.iconst 0, 1) := by decide +kernel
theorem dX5_recall_2 : decode cX5_recall 2 = .ok (.putfield 40, 3) := by decide +kernel
theorem dX5_recall_5 : decode cX5_recall 5 = .ok (.aload_n 3, 1) := by decide +kernel
theorem dX5_recall_6 : decode cX5_recall 6 = .ok (.getfield 43, 3) := by decide +kernel
theorem dX5_recall_9 : decode cX5_recall 9 = .ok (.iload_n 2, 1) := by decide +kernel
theorem dX5_recall_10 : decode cX5_recall 10 = .ok (.iconst 3, 1) := by decide +kernel
theorem dX5_recall_11 : decode cX5_recall 11 = .ok (.imul, 1) := by decide +kernel
theorem dX5_recall_12 : decode cX5_recall 12 = .ok (.aload_n 0, 1) := by decide +kernel
theorem dX5_recall_13 : decode cX5_recall 13 = .ok (.getfield 21, 3) := by decide +kernel
theorem dX5_recall_16 : decode cX5_recall 16 = .ok (.iconst 0, 1) := by decide +kernel
theorem dX5_recall_17 : decode cX5_recall 17 = .ok (.iconst 3, 1) := by decide +kernel
theorem dX5_recall_18 : decode cX5_recall 18 = .ok (.invokestatic 48, 3) := by decide +kernel
theorem dX5_recall_21 : decode cX5_recall 21 = .ok (.aload_n 0, 1) := by decide +kernel
theorem dX5_recall_22 : decode cX5_recall 22 = .ok (.aload_n 1, 1) := by decide +kernel
theorem dX5_recall_23 : decode cX5_recall 23 = .ok (.iload_n 2, 1) := by decide +kernel
theorem dX5_recall_24 : decode cX5_recall 24 = .ok (.aload_n 3, 1) := by decide +kernel
theorem dX5_recall_25 : decode cX5_recall 25 = .ok (.invokevirtual 54, 3) := by decide +kernel
theorem dX5_recall_28 : decode cX5_recall 28 = .ok (.iconst 0, 1) := by decide +kernel
theorem dX5_recall_29 : decode cX5_recall 29 = .ok (.aload_n 0, 1) := by decide +kernel
theorem dX5_recall_30 : decode cX5_recall 30 = .ok (.iload_n 2, 1) := by decide +kernel
theorem dX5_recall_31 : decode cX5_recall 31 = .ok (.invokevirtual 58, 3) := by decide +kernel
theorem dX5_recall_34 : decode cX5_recall 34 = .ok (.invokevirtual 62, 3) := by decide +kernel
theorem dX5_recall_37 : decode cX5_recall 37 = .ok (.return_, 1) := by decide +kernel
theorem dX5_search_0 : decode cX5_search 0 = .ok (.iload 4, 2) := by decide +kernel
theorem dX5_search_2 : decode cX5_search 2 = .ok (.iload 5, 2) := by decide +kernel
theorem dX5_search_4 : decode cX5_search 4 = .ok (.if_icmp .lt 35, 3) := by decide +kernel
theorem dX5_search_7 : decode cX5_search 7 = .ok (.aload_n 0, 1) := by decide +kernel
theorem dX5_search_8 : decode cX5_search 8 = .ok (.getfield 40, 3) := by decide +kernel
theorem dX5_search_11 : decode cX5_search 11 = .ok (.ifCond .ne 17, 3) := by decide +kernel
theorem dX5_search_14 : decode cX5_search 14 = .ok (.aload_n 0, 1) := by decide +kernel
theorem dX5_search_15 : decode cX5_search 15 = .ok (.getfield 24, 3) := by decide +kernel
theorem dX5_search_18 : decode cX5_search 18 = .ok (.iconst 0, 1) := by decide +kernel
theorem dX5_search_19 : decode cX5_search 19 = .ok (.aload_n 0, 1) := by decide +kernel
theorem dX5_search_20 : decode cX5_search 20 = .ok (.getfield 27, 3) := by decide +kernel
theorem dX5_search_23 : decode cX5_search 23 = .ok (.iconst 0, 1) := by decide +kernel
theorem dX5_search_24 : decode cX5_search 24 = .ok (.iconst 4, 1) := by decide +kernel
theorem dX5_search_25 : decode cX5_search 25 = .ok (.invokestatic 48, 3) := by decide +kernel
theorem dX5_search_28 : decode cX5_search 28 = .ok (.aload_n 0, 1) := by decide +kernel
theorem dX5_search_29 : decode cX5_search 29 = .ok (.dup, 1) := by decide +kernel
theorem dX5_search_30 : decode cX5_search 30 = .ok (.getfield 40, 3) := by decide +kernel
theorem dX5_search_33 : decode cX5_search 33 = .ok (.iconst 1, 1) := by decide +kernel
theorem dX5_search_34 : decode cX5_search 34 = .ok (.iadd, 1) := by decide +kernel
theorem dX5_search_35 : decode cX5_search 35 = .ok (.putfield 40, 3) := by decide +kernel
theorem dX5_search_38 : decode cX5_search 38 = .ok (.return_, 1) := by decide +kernel
theorem dX5_search_39 : decode cX5_search 39 = .ok (.iconst (-1), 1) := by decide +kernel
theorem dX5_search_40 : decode cX5_search 40 = .ok (.istore 6, 2) := by decide +kernel
theorem dX5_search_42 : decode cX5_search 42 = .ok (.iload 6, 2) := by decide +kernel
theorem dX5_search_44 : decode cX5_search 44 = .ok (.aload_n 1, 1) := by decide +kernel
theorem dX5_search_45 : decode cX5_search 45 = .ok (.getfield 66, 3) := by decide +kernel
theorem dX5_search_48 : decode cX5_search 48 = .ok (.if_icmp .ge 60, 3) := by decide +kernel
theorem dX5_search_51 : decode cX5_search 51 = .ok (.aload_n 0, 1) := by decide +kernel
theorem dX5_search_52 : decode cX5_search 52 = .ok (.getfield 24, 3) := by decide +kernel
theorem dX5_search_55 : decode cX5_search 55 = .ok (.iload 4, 2) := by decide +kernel
theorem dX5_search_57 : decode cX5_search 57 = .ok (.iload 6, 2) := by decide +kernel
theorem dX5_search_59 : decode cX5_search 59 = .ok (.ifCond .ge 8, 3) := by decide +kernel
theorem dX5_search_62 : decode cX5_search 62 = .ok (.bipush (-4), 2) := by decide +kernel
theorem dX5_search_64 : decode cX5_search 64 = .ok (.goto 5, 3) := by decide +kernel
theorem dX5_search_67 : decode cX5_search 67 = .ok (.iload 6, 2) := by decide +kernel
theorem dX5_search_69 : decode cX5_search 69 = .ok (.iastore, 1) := by decide +kernel
theorem dX5_search_70 : decode cX5_search 70 = .ok (.aload_n 0, 1) := by decide +kernel
theorem dX5_search_71 : decode cX5_search 71 = .ok (.aload_n 1, 1) := by decide +kernel
theorem dX5_search_72 : decode cX5_search 72 = .ok (.iload_n 2, 1) := by decide +kernel
theorem dX5_search_73 : decode cX5_search 73 = .ok (.iload 6, 2) := by decide +kernel
theorem dX5_search_75 : decode cX5_search 75 = .ok (.iload_n 3, 1) := by decide +kernel
theorem dX5_search_76 : decode cX5_search 76 = .ok (.iload 4, 2) := by decide +kernel
theorem dX5_search_78 : decode cX5_search 78 = .ok (.invokevirtual 71, 3) := by decide +kernel
theorem dX5_search_81 : decode cX5_search 81 = .ok (.ifCond .eq 21, 3) := by decide +kernel
theorem dX5_search_84 : decode cX5_search 84 = .ok (.aload_n 0, 1) := by decide +kernel
theorem dX5_search_85 : decode cX5_search 85 = .ok (.aload_n 1, 1) := by decide +kernel
theorem dX5_search_86 : decode cX5_search 86 = .ok (.iload_n 2, 1) := by decide +kernel
theorem dX5_search_87 : decode cX5_search 87 = .ok (.iload_n 3, 1) := by decide +kernel
theorem dX5_search_88 : decode cX5_search 88 = .ok (.iconst 1, 1) := by decide +kernel
theorem dX5_search_89 : decode cX5_search 89 = .ok (.iadd, 1) := by decide +kernel
theorem dX5_search_90 : decode cX5_search 90 = .ok (.bipush 7, 2) := by decide +kernel
theorem dX5_search_92 : decode cX5_search 92 = .ok (.irem, 1) := by decide +kernel
theorem dX5_search_93 : decode cX5_search 93 = .ok (.iload 4, 2) := by decide +kernel
theorem dX5_search_95 : decode cX5_search 95 = .ok (.iconst 1, 1) := by decide +kernel
theorem dX5_search_96 : decode cX5_search 96 = .ok (.iadd, 1) := by decide +kernel
theorem dX5_search_97 : decode cX5_search 97 = .ok (.iload 5, 2) := by decide +kernel
theorem dX5_search_99 : decode cX5_search 99 = .ok (.invokevirtual 62, 3) := by decide +kernel
theorem dX5_search_102 : decode cX5_search 102 = .ok (.iinc 6 1, 3) := by decide +kernel
theorem dX5_search_105 : decode cX5_search 105 = .ok (.goto (-63), 3) := by decide +kernel
theorem dX5_search_108 : decode cX5_search 108 = .ok (.return_, 1) := by decide +kernel
theorem dX5_spendDay_0 : decode cX5_spendDay 0 = .ok (.iload 5, 2) := by decide +kernel
theorem dX5_spendDay_2 : decode cX5_spendDay 2 = .ok (.iconst 1, 1) := by decide +kernel
theorem dX5_spendDay_3 : decode cX5_spendDay 3 = .ok (.iadd, 1) := by decide +kernel
theorem dX5_spendDay_4 : decode cX5_spendDay 4 = .ok (.iconst 3, 1) := by decide +kernel
theorem dX5_spendDay_5 : decode cX5_spendDay 5 = .ok (.imul, 1) := by decide +kernel
theorem dX5_spendDay_6 : decode cX5_spendDay 6 = .ok (.istore 6, 2) := by decide +kernel
theorem dX5_spendDay_8 : decode cX5_spendDay 8 = .ok (.aload_n 0, 1) := by decide +kernel
theorem dX5_spendDay_9 : decode cX5_spendDay 9 = .ok (.getfield 21, 3) := by decide +kernel
theorem dX5_spendDay_12 : decode cX5_spendDay 12 = .ok (.iload 5, 2) := by decide +kernel
theorem dX5_spendDay_14 : decode cX5_spendDay 14 = .ok (.iconst 3, 1) := by decide +kernel
theorem dX5_spendDay_15 : decode cX5_spendDay 15 = .ok (.imul, 1) := by decide +kernel
theorem dX5_spendDay_16 : decode cX5_spendDay 16 = .ok (.aload_n 0, 1) := by decide +kernel
theorem dX5_spendDay_17 : decode cX5_spendDay 17 = .ok (.getfield 21, 3) := by decide +kernel
theorem dX5_spendDay_20 : decode cX5_spendDay 20 = .ok (.iload 6, 2) := by decide +kernel
theorem dX5_spendDay_22 : decode cX5_spendDay 22 = .ok (.iconst 3, 1) := by decide +kernel
theorem dX5_spendDay_23 : decode cX5_spendDay 23 = .ok (.invokestatic 48, 3) := by decide +kernel
theorem dX5_spendDay_26 : decode cX5_spendDay 26 = .ok (.iload_n 3, 1) := by decide +kernel
theorem dX5_spendDay_27 : decode cX5_spendDay 27 = .ok (.ifCond .lt 30, 3) := by decide +kernel
theorem dX5_spendDay_30 : decode cX5_spendDay 30 = .ok (.aload_n 1, 1) := by decide +kernel
theorem dX5_spendDay_31 : decode cX5_spendDay 31 = .ok (.iload_n 2, 1) := by decide +kernel
theorem dX5_spendDay_32 : decode cX5_spendDay 32 = .ok (.iload_n 3, 1) := by decide +kernel
theorem dX5_spendDay_33 : decode cX5_spendDay 33 = .ok (.aload_n 0, 1) := by decide +kernel
theorem dX5_spendDay_34 : decode cX5_spendDay 34 = .ok (.getfield 21, 3) := by decide +kernel
theorem dX5_spendDay_37 : decode cX5_spendDay 37 = .ok (.iload 6, 2) := by decide +kernel
theorem dX5_spendDay_39 : decode cX5_spendDay 39 = .ok (.invokevirtual 75, 3) := by decide +kernel
theorem dX5_spendDay_42 : decode cX5_spendDay 42 = .ok (.ifCond .ne 5, 3) := by decide +kernel
theorem dX5_spendDay_45 : decode cX5_spendDay 45 = .ok (.iconst 0, 1) := by decide +kernel
theorem dX5_spendDay_46 : decode cX5_spendDay 46 = .ok (.ireturn, 1) := by decide +kernel
theorem dX5_spendDay_47 : decode cX5_spendDay 47 = .ok (.aload_n 1, 1) := by decide +kernel
theorem dX5_spendDay_48 : decode cX5_spendDay 48 = .ok (.aload_n 0, 1) := by decide +kernel
theorem dX5_spendDay_49 : decode cX5_spendDay 49 = .ok (.getfield 21, 3) := by decide +kernel
theorem dX5_spendDay_52 : decode cX5_spendDay 52 = .ok (.iload 6, 2) := by decide +kernel
theorem dX5_spendDay_54 : decode cX5_spendDay 54 = .ok (.invokevirtual 79, 3) := by decide +kernel
theorem dX5_spendDay_57 : decode cX5_spendDay 57 = .ok (.aload_n 1, 1) := by decide +kernel
theorem dX5_spendDay_58 : decode cX5_spendDay 58 = .ok (.iload_n 2, 1) := by decide +kernel
theorem dX5_spendDay_59 : decode cX5_spendDay 59 = .ok (.aload_n 0, 1) := by decide +kernel
theorem dX5_spendDay_60 : decode cX5_spendDay 60 = .ok (.getfield 21, 3) := by decide +kernel
theorem dX5_spendDay_63 : decode cX5_spendDay 63 = .ok (.iload 6, 2) := by decide +kernel
theorem dX5_spendDay_65 : decode cX5_spendDay 65 = .ok (.invokevirtual 83, 3) := by decide +kernel
theorem dX5_spendDay_68 : decode cX5_spendDay 68 = .ok (.aload_n 0, 1) := by decide +kernel
theorem dX5_spendDay_69 : decode cX5_spendDay 69 = .ok (.iload_n 2, 1) := by decide +kernel
theorem dX5_spendDay_70 : decode cX5_spendDay 70 = .ok (.iload 5, 2) := by decide +kernel
theorem dX5_spendDay_72 : decode cX5_spendDay 72 = .ok (.iconst 1, 1) := by decide +kernel
theorem dX5_spendDay_73 : decode cX5_spendDay 73 = .ok (.iadd, 1) := by decide +kernel
theorem dX5_spendDay_74 : decode cX5_spendDay 74 = .ok (.aload_n 0, 1) := by decide +kernel
theorem dX5_spendDay_75 : decode cX5_spendDay 75 = .ok (.getfield 21, 3) := by decide +kernel
theorem dX5_spendDay_78 : decode cX5_spendDay 78 = .ok (.iload 6, 2) := by decide +kernel
theorem dX5_spendDay_80 : decode cX5_spendDay 80 = .ok (.invokestatic 87, 3) := by decide +kernel
theorem dX5_spendDay_83 : decode cX5_spendDay 83 = .ok (.invokevirtual 91, 3) := by decide +kernel
theorem dX5_spendDay_86 : decode cX5_spendDay 86 = .ok (.ifCond .ne 5, 3) := by decide +kernel
theorem dX5_spendDay_89 : decode cX5_spendDay 89 = .ok (.iconst 0, 1) := by decide +kernel
theorem dX5_spendDay_90 : decode cX5_spendDay 90 = .ok (.ireturn, 1) := by decide +kernel
theorem dX5_spendDay_91 : decode cX5_spendDay 91 = .ok (.iload 4, 2) := by decide +kernel
theorem dX5_spendDay_93 : decode cX5_spendDay 93 = .ok (.bipush 6, 2) := by decide +kernel
theorem dX5_spendDay_95 : decode cX5_spendDay 95 = .ok (.if_icmp .ne 14, 3) := by decide +kernel
theorem dX5_spendDay_98 : decode cX5_spendDay 98 = .ok (.aload_n 1, 1) := by decide +kernel
theorem dX5_spendDay_99 : decode cX5_spendDay 99 = .ok (.iload_n 2, 1) := by decide +kernel
theorem dX5_spendDay_100 : decode cX5_spendDay 100 = .ok (.aload_n 0, 1) := by decide +kernel
theorem dX5_spendDay_101 : decode cX5_spendDay 101 = .ok (.getfield 21, 3) := by decide +kernel
theorem dX5_spendDay_104 : decode cX5_spendDay 104 = .ok (.iload 6, 2) := by decide +kernel
theorem dX5_spendDay_106 : decode cX5_spendDay 106 = .ok (.invokevirtual 95, 3) := by decide +kernel
theorem dX5_spendDay_109 : decode cX5_spendDay 109 = .ok (.iconst 1, 1) := by decide +kernel
theorem dX5_spendDay_110 : decode cX5_spendDay 110 = .ok (.ireturn, 1) := by decide +kernel
end
section
theorem dX6_init_0 : decode cX6_init 0 = .ok (.aload_n 0, 1) := by decide +kernel
theorem dX6_init_1 : decode cX6_init 1 = .ok (.invokespecial 1, 3) := by decide +kernel
theorem dX6_init_4 : decode cX6_init 4 = .ok (.aload_n 0, 1) := by decide +kernel
theorem dX6_init_5 : decode cX6_init 5 = .ok (.new 7, 3) := by decide +kernel
theorem dX6_init_8 : decode cX6_init 8 = .ok (.dup, 1) := by decide +kernel
theorem dX6_init_9 : decode cX6_init 9 = .ok (.invokespecial 9, 3) := by decide +kernel
theorem dX6_init_12 : decode cX6_init 12 = .ok (.putfield 10, 3) := by decide +kernel
theorem dX6_init_15 : decode cX6_init 15 = .ok (.aload_n 0, 1) := by decide +kernel
theorem dX6_init_16 : decode cX6_init 16 = .ok (.new 16, 3) := by decide +kernel
theorem dX6_init_19 : decode cX6_init 19 = .ok (.dup, 1) := by decide +kernel
theorem dX6_init_20 : decode cX6_init 20 = .ok (.invokespecial 18, 3) := by decide +kernel
theorem dX6_init_23 : decode cX6_init 23 = .ok (.putfield 19, 3) := by decide +kernel
theorem dX6_init_26 : decode cX6_init 26 = .ok (.aload_n 0, 1) := by decide +kernel
theorem dX6_init_27 : decode cX6_init 27 = .ok (.new 16, 3) := by decide +kernel
theorem dX6_init_30 : decode cX6_init 30 = .ok (.dup, 1) := by decide +kernel
theorem dX6_init_31 : decode cX6_init 31 = .ok (.invokespecial 18, 3) := by decide +kernel
theorem dX6_init_34 : decode cX6_init 34 = .ok (.putfield 23, 3) := by decide +kernel
theorem dX6_init_37 : decode cX6_init 37 = .ok (.aload_n 0, 1) := by decide +kernel
theorem dX6_init_38 : decode cX6_init 38 = .ok (.new 26, 3) := by decide +kernel
theorem dX6_init_41 : decode cX6_init 41 = .ok (.dup, 1) := by decide +kernel
theorem dX6_init_42 : decode cX6_init 42 = .ok (.invokespecial 28, 3) := by decide +kernel
theorem dX6_init_45 : decode cX6_init 45 = .ok (.putfield 29, 3) := by decide +kernel
theorem dX6_init_48 : decode cX6_init 48 = .ok (.aload_n 0, 1) := by decide +kernel
theorem dX6_init_49 : decode cX6_init 49 = .ok (.new 26, 3) := by decide +kernel
theorem dX6_init_52 : decode cX6_init 52 = .ok (.dup, 1) := by decide +kernel
theorem dX6_init_53 : decode cX6_init 53 = .ok (.invokespecial 28, 3) := by decide +kernel
theorem dX6_init_56 : decode cX6_init 56 = .ok (.putfield 33, 3) := by decide +kernel
theorem dX6_init_59 : decode cX6_init 59 = .ok (.aload_n 0, 1) := by decide +kernel
theorem dX6_init_60 : decode cX6_init 60 = .ok (.new 36, 3) := by decide +kernel
theorem dX6_init_63 : decode cX6_init 63 = .ok (.dup, 1) := by decide +kernel
theorem dX6_init_64 : decode cX6_init 64 = .ok (.bipush 8, 2) := by decide +kernel
theorem dX6_init_66 : decode cX6_init 66 = .ok (.invokespecial 38, 3) := by decide +kernel
theorem dX6_init_69 : decode cX6_init 69 = .ok (.putfield 41, 3) := by decide +kernel
theorem dX6_init_72 : decode cX6_init 72 = .ok (.aload_n 0, 1) := by decide +kernel
theorem dX6_init_73 : decode cX6_init 73 = .ok (.new 36, 3) := by decide +kernel
theorem dX6_init_76 : decode cX6_init 76 = .ok (.dup, 1) := by decide +kernel
theorem dX6_init_77 : decode cX6_init 77 = .ok (.iconst 2, 1) := by decide +kernel
theorem dX6_init_78 : decode cX6_init 78 = .ok (.invokespecial 38, 3) := by decide +kernel
theorem dX6_init_81 : decode cX6_init 81 = .ok (.putfield 45, 3) := by decide +kernel
theorem dX6_init_84 : decode cX6_init 84 = .ok (.aload_n 0, 1) := by decide +kernel
theorem dX6_init_85 : decode cX6_init 85 = .ok (.new 48, 3) := by decide +kernel
theorem dX6_init_88 : decode cX6_init 88 = .ok (.dup, 1) := by decide +kernel
theorem dX6_init_89 : decode cX6_init 89 = .ok (.invokespecial 50, 3) := by decide +kernel
theorem dX6_init_92 : decode cX6_init 92 = .ok (.putfield 51, 3) := by decide +kernel
theorem dX6_init_95 : decode cX6_init 95 = .ok (.aload_n 0, 1) := by decide +kernel
theorem dX6_init_96 : decode cX6_init 96 = .ok (.new 55, 3) := by decide +kernel
theorem dX6_init_99 : decode cX6_init 99 = .ok (.dup, 1) := by decide +kernel
theorem dX6_init_100 : decode cX6_init 100 = .ok (.invokespecial 57, 3) := by decide +kernel
theorem dX6_init_103 : decode cX6_init 103 = .ok (.putfield 58, 3) := by decide +kernel
theorem dX6_init_106 : decode cX6_init 106 = .ok (.aload_n 0, 1) := by decide +kernel
theorem dX6_init_107 : decode cX6_init 107 = .ok (.iconst 3, 1) := by decide +kernel
theorem dX6_init_108 : decode cX6_init 108 = .ok (.newarray .int, 2) := by decide +kernel
theorem dX6_init_110 : decode cX6_init 110 = .ok (.putfield 62, 3) := by decide +kernel
theorem dX6_init_113 : decode cX6_init 113 = .ok (.iconst 0, 1) := by decide +kernel
theorem dX6_init_114 : decode cX6_init 114 = .ok (.istore_n 1, 1) := by decide +kernel
theorem dX6_init_115 : decode cX6_init 115 = .ok (.iload_n 1, 1) := by decide +kernel
theorem dX6_init_116 : decode cX6_init 116 = .ok (.ldc 66, 2) := by decide +kernel
theorem dX6_init_118 : decode cX6_init 118 = .ok (.invokevirtual 68, 3) := by decide +kernel
theorem dX6_init_121 : decode cX6_init 121 = .ok (.if_icmp .ge 23, 3) := by decide +kernel
theorem dX6_init_124 : decode cX6_init 124 = .ok (.aload_n 0, 1) := by decide +kernel
theorem dX6_init_125 : decode cX6_init 125 = .ok (.getfield 10, 3) := by decide +kernel
theorem dX6_init_128 : decode cX6_init 128 = .ok (.ldc 66, 2) := by decide +kernel
theorem dX6_init_130 : decode cX6_init 130 = .ok (.iload_n 1, 1) := by decide +kernel
theorem dX6_init_131 : decode cX6_init 131 = .ok (.invokevirtual 74, 3) := by decide +kernel
theorem dX6_init_134 : decode cX6_init 134 = .ok (.invokevirtual 78, 3) := by decide +kernel
theorem dX6_init_137 : decode cX6_init 137 = .ok (.pop, 1) := by decide +kernel
theorem dX6_init_138 : decode cX6_init 138 = .ok (.iinc 1 1, 3) := by decide +kernel
theorem dX6_init_141 : decode cX6_init 141 = .ok (.goto (-26), 3) := by decide +kernel
theorem dX6_init_144 : decode cX6_init 144 = .ok (.aload_n 0, 1) := by decide +kernel
theorem dX6_init_145 : decode cX6_init 145 = .ok (.getfield 10, 3) := by decide +kernel
theorem dX6_init_148 : decode cX6_init 148 = .ok (.aload_n 0, 1) := by decide +kernel
theorem dX6_init_149 : decode cX6_init 149 = .ok (.getfield 19, 3) := by decide +kernel
theorem dX6_init_152 : decode cX6_init 152 = .ok (.invokevirtual 82, 3) := by decide +kernel
theorem dX6_init_155 : decode cX6_init 155 = .ok (.pop, 1) := by decide +kernel
theorem dX6_init_156 : decode cX6_init 156 = .ok (.aload_n 0, 1) := by decide +kernel
theorem dX6_init_157 : decode cX6_init 157 = .ok (.getfield 10, 3) := by decide +kernel
theorem dX6_init_160 : decode cX6_init 160 = .ok (.iconst 0, 1) := by decide +kernel
theorem dX6_init_161 : decode cX6_init 161 = .ok (.putfield 86, 3) := by decide +kernel
theorem dX6_init_164 : decode cX6_init 164 = .ok (.aload_n 0, 1) := by decide +kernel
theorem dX6_init_165 : decode cX6_init 165 = .ok (.getfield 29, 3) := by decide +kernel
theorem dX6_init_168 : decode cX6_init 168 = .ok (.aload_n 0, 1) := by decide +kernel
theorem dX6_init_169 : decode cX6_init 169 = .ok (.getfield 19, 3) := by decide +kernel
theorem dX6_init_172 : decode cX6_init 172 = .ok (.invokevirtual 89, 3) := by decide +kernel
theorem dX6_init_175 : decode cX6_init 175 = .ok (.return_, 1) := by decide +kernel
theorem dX6_write_0 : decode cX6_write 0 = .ok (.iload_n 1, 1) := by decide +kernel
theorem dX6_write_1 : decode cX6_write 1 = .ok (.bipush 32, 2) := by decide +kernel
theorem dX6_write_3 : decode cX6_write 3 = .ok (.bipush 126, 2) := by decide +kernel
theorem dX6_write_5 : decode cX6_write 5 = .ok (.invokestatic 93, 3) := by decide +kernel
theorem dX6_write_8 : decode cX6_write 8 = .ok (.ifCond .ne 5, 3) := by decide +kernel
theorem dX6_write_11 : decode cX6_write 11 = .ok (.iconst (-1), 1) := by decide +kernel
theorem dX6_write_12 : decode cX6_write 12 = .ok (.ireturn, 1) := by decide +kernel
theorem dX6_write_13 : decode cX6_write 13 = .ok (.aload_n 0, 1) := by decide +kernel
theorem dX6_write_14 : decode cX6_write 14 = .ok (.getfield 10, 3) := by decide +kernel
theorem dX6_write_17 : decode cX6_write 17 = .ok (.iload_n 1, 1) := by decide +kernel
theorem dX6_write_18 : decode cX6_write 18 = .ok (.invokevirtual 78, 3) := by decide +kernel
theorem dX6_write_21 : decode cX6_write 21 = .ok (.ifCond .eq 13, 3) := by decide +kernel
theorem dX6_write_24 : decode cX6_write 24 = .ok (.aload_n 0, 1) := by decide +kernel
theorem dX6_write_25 : decode cX6_write 25 = .ok (.getfield 10, 3) := by decide +kernel
theorem dX6_write_28 : decode cX6_write 28 = .ok (.getfield 86, 3) := by decide +kernel
theorem dX6_write_31 : decode cX6_write 31 = .ok (.goto 5, 3) := by decide +kernel
theorem dX6_write_34 : decode cX6_write 34 = .ok (.bipush (-3), 2) := by decide +kernel
theorem dX6_write_36 : decode cX6_write 36 = .ok (.ireturn, 1) := by decide +kernel
theorem dX6_wipe_0 : decode cX6_wipe 0 = .ok (.aload_n 0, 1) := by decide +kernel
theorem dX6_wipe_1 : decode cX6_wipe 1 = .ok (.getfield 10, 3) := by decide +kernel
theorem dX6_wipe_4 : decode cX6_wipe 4 = .ok (.getfield 86, 3) := by decide +kernel
theorem dX6_wipe_7 : decode cX6_wipe 7 = .ok (.istore_n 1, 1) := by decide +kernel
theorem dX6_wipe_8 : decode cX6_wipe 8 = .ok (.aload_n 0, 1) := by decide +kernel
theorem dX6_wipe_9 : decode cX6_wipe 9 = .ok (.getfield 10, 3) := by decide +kernel
theorem dX6_wipe_12 : decode cX6_wipe 12 = .ok (.iconst 0, 1) := by decide +kernel
theorem dX6_wipe_13 : decode cX6_wipe 13 = .ok (.putfield 86, 3) := by decide +kernel
theorem dX6_wipe_16 : decode cX6_wipe 16 = .ok (.iload_n 1, 1) := by decide +kernel
theorem dX6_wipe_17 : decode cX6_wipe 17 = .ok (.ireturn, 1) := by decide +kernel
theorem dX6_fault_0 : decode cX6_fault 0 = .ok (.aload_n 0, 1) := by decide +kernel
theorem dX6_fault_1 : decode cX6_fault 1 = .ok (.getfield 10, 3) := by decide +kernel
theorem dX6_fault_4 : decode cX6_fault 4 = .ok (.aload_n 0, 1) := by decide +kernel
theorem dX6_fault_5 : decode cX6_fault 5 = .ok (.getfield 23, 3) := by decide +kernel
theorem dX6_fault_8 : decode cX6_fault 8 = .ok (.invokevirtual 82, 3) := by decide +kernel
theorem dX6_fault_11 : decode cX6_fault 11 = .ok (.ireturn, 1) := by decide +kernel
theorem dX6_lay_0 : decode cX6_lay 0 = .ok (.aload_n 0, 1) := by decide +kernel
theorem dX6_lay_1 : decode cX6_lay 1 = .ok (.getfield 10, 3) := by decide +kernel
theorem dX6_lay_4 : decode cX6_lay 4 = .ok (.aload_n 0, 1) := by decide +kernel
theorem dX6_lay_5 : decode cX6_lay 5 = .ok (.getfield 23, 3) := by decide +kernel
theorem dX6_lay_8 : decode cX6_lay 8 = .ok (.invokevirtual 82, 3) := by decide +kernel
theorem dX6_lay_11 : decode cX6_lay 11 = .ok (.bipush (-4), 2) := by decide +kernel
theorem dX6_lay_13 : decode cX6_lay 13 = .ok (.if_icmp .ne 13, 3) := by decide +kernel
theorem dX6_lay_16 : decode cX6_lay 16 = .ok (.aload_n 0, 1) := by decide +kernel
theorem dX6_lay_17 : decode cX6_lay 17 = .ok (.getfield 23, 3) := by decide +kernel
theorem dX6_lay_20 : decode cX6_lay 20 = .ok (.getfield 97, 3) := by decide +kernel
theorem dX6_lay_23 : decode cX6_lay 23 = .ok (.ifCond .ne 6, 3) := by decide +kernel
theorem dX6_lay_26 : decode cX6_lay 26 = .ok (.bipush (-2), 2) := by decide +kernel
theorem dX6_lay_28 : decode cX6_lay 28 = .ok (.ireturn, 1) := by decide +kernel
theorem dX6_lay_29 : decode cX6_lay 29 = .ok (.aload_n 0, 1) := by decide +kernel
theorem dX6_lay_30 : decode cX6_lay 30 = .ok (.getfield 19, 3) := by decide +kernel
theorem dX6_lay_33 : decode cX6_lay 33 = .ok (.astore_n 1, 1) := by decide +kernel
theorem dX6_lay_34 : decode cX6_lay 34 = .ok (.aload_n 0, 1) := by decide +kernel
theorem dX6_lay_35 : decode cX6_lay 35 = .ok (.aload_n 0, 1) := by decide +kernel
theorem dX6_lay_36 : decode cX6_lay 36 = .ok (.getfield 23, 3) := by decide +kernel
theorem dX6_lay_39 : decode cX6_lay 39 = .ok (.putfield 19, 3) := by decide +kernel
theorem dX6_lay_42 : decode cX6_lay 42 = .ok (.aload_n 0, 1) := by decide +kernel
theorem dX6_lay_43 : decode cX6_lay 43 = .ok (.aload_n 1, 1) := by decide +kernel
theorem dX6_lay_44 : decode cX6_lay 44 = .ok (.putfield 23, 3) := by decide +kernel
theorem dX6_lay_47 : decode cX6_lay 47 = .ok (.aload_n 0, 1) := by decide +kernel
theorem dX6_lay_48 : decode cX6_lay 48 = .ok (.getfield 29, 3) := by decide +kernel
theorem dX6_lay_51 : decode cX6_lay 51 = .ok (.aload_n 0, 1) := by decide +kernel
theorem dX6_lay_52 : decode cX6_lay 52 = .ok (.getfield 19, 3) := by decide +kernel
theorem dX6_lay_55 : decode cX6_lay 55 = .ok (.invokevirtual 89, 3) := by decide +kernel
theorem dX6_lay_58 : decode cX6_lay 58 = .ok (.aload_n 0, 1) := by decide +kernel
theorem dX6_lay_59 : decode cX6_lay 59 = .ok (.getfield 41, 3) := by decide +kernel
theorem dX6_lay_62 : decode cX6_lay 62 = .ok (.iconst 0, 1) := by decide +kernel
theorem dX6_lay_63 : decode cX6_lay 63 = .ok (.putfield 100, 3) := by decide +kernel
theorem dX6_lay_66 : decode cX6_lay 66 = .ok (.aload_n 0, 1) := by decide +kernel
theorem dX6_lay_67 : decode cX6_lay 67 = .ok (.getfield 45, 3) := by decide +kernel
theorem dX6_lay_70 : decode cX6_lay 70 = .ok (.iconst 0, 1) := by decide +kernel
theorem dX6_lay_71 : decode cX6_lay 71 = .ok (.putfield 100, 3) := by decide +kernel
theorem dX6_lay_74 : decode cX6_lay 74 = .ok (.aload_n 0, 1) := by decide +kernel
theorem dX6_lay_75 : decode cX6_lay 75 = .ok (.getfield 58, 3) := by decide +kernel
theorem dX6_lay_78 : decode cX6_lay 78 = .ok (.iconst 0, 1) := by decide +kernel
theorem dX6_lay_79 : decode cX6_lay 79 = .ok (.putfield 103, 3) := by decide +kernel
theorem dX6_lay_82 : decode cX6_lay 82 = .ok (.aload_n 0, 1) := by decide +kernel
theorem dX6_lay_83 : decode cX6_lay 83 = .ok (.getfield 19, 3) := by decide +kernel
theorem dX6_lay_86 : decode cX6_lay 86 = .ok (.getfield 97, 3) := by decide +kernel
theorem dX6_lay_89 : decode cX6_lay 89 = .ok (.ireturn, 1) := by decide +kernel
theorem dX6_person_0 : decode cX6_person 0 = .ok (.aload_n 0, 1) := by decide +kernel
theorem dX6_person_1 : decode cX6_person 1 = .ok (.iload_n 1, 1) := by decide +kernel
theorem dX6_person_2 : decode cX6_person 2 = .ok (.invokevirtual 104, 3) := by decide +kernel
theorem dX6_person_5 : decode cX6_person 5 = .ok (.ifCond .eq 13, 3) := by decide +kernel
theorem dX6_person_8 : decode cX6_person 8 = .ok (.iload_n 2, 1) := by decide +kernel
theorem dX6_person_9 : decode cX6_person 9 = .ok (.iconst 0, 1) := by decide +kernel
theorem dX6_person_10 : decode cX6_person 10 = .ok (.bipush 6, 2) := by decide +kernel
theorem dX6_person_12 : decode cX6_person 12 = .ok (.invokestatic 93, 3) := by decide +kernel
theorem dX6_person_15 : decode cX6_person 15 = .ok (.ifCond .ne 5, 3) := by decide +kernel
theorem dX6_person_18 : decode cX6_person 18 = .ok (.iconst (-1), 1) := by decide +kernel
theorem dX6_person_19 : decode cX6_person 19 = .ok (.ireturn, 1) := by decide +kernel
theorem dX6_person_20 : decode cX6_person 20 = .ok (.iload_n 2, 1) := by decide +kernel
theorem dX6_person_21 : decode cX6_person 21 = .ok (.tableswitch 82 0 6 #[43, 82, 82, 82, 53, 62, 72], 43) := by decide +kernel
theorem dX6_person_64 : decode cX6_person 64 = .ok (.aload_n 0, 1) := by decide +kernel
theorem dX6_person_65 : decode cX6_person 65 = .ok (.getfield 19, 3) := by decide +kernel
theorem dX6_person_68 : decode cX6_person 68 = .ok (.getfield 107, 3) := by decide +kernel
theorem dX6_person_71 : decode cX6_person 71 = .ok (.iload_n 1, 1) := by decide +kernel
theorem dX6_person_72 : decode cX6_person 72 = .ok (.iaload, 1) := by decide +kernel
theorem dX6_person_73 : decode cX6_person 73 = .ok (.ireturn, 1) := by decide +kernel
theorem dX6_person_74 : decode cX6_person 74 = .ok (.aload_n 0, 1) := by decide +kernel
theorem dX6_person_75 : decode cX6_person 75 = .ok (.getfield 29, 3) := by decide +kernel
theorem dX6_person_78 : decode cX6_person 78 = .ok (.iload_n 1, 1) := by decide +kernel
theorem dX6_person_79 : decode cX6_person 79 = .ok (.invokevirtual 110, 3) := by decide +kernel
theorem dX6_person_82 : decode cX6_person 82 = .ok (.ireturn, 1) := by decide +kernel
theorem dX6_person_83 : decode cX6_person 83 = .ok (.aload_n 0, 1) := by decide +kernel
theorem dX6_person_84 : decode cX6_person 84 = .ok (.getfield 29, 3) := by decide +kernel
theorem dX6_person_87 : decode cX6_person 87 = .ok (.getfield 114, 3) := by decide +kernel
theorem dX6_person_90 : decode cX6_person 90 = .ok (.iload_n 1, 1) := by decide +kernel
theorem dX6_person_91 : decode cX6_person 91 = .ok (.iaload, 1) := by decide +kernel
theorem dX6_person_92 : decode cX6_person 92 = .ok (.ireturn, 1) := by decide +kernel
theorem dX6_person_93 : decode cX6_person 93 = .ok (.aload_n 0, 1) := by decide +kernel
theorem dX6_person_94 : decode cX6_person 94 = .ok (.getfield 29, 3) := by decide +kernel
theorem dX6_person_97 : decode cX6_person 97 = .ok (.getfield 117, 3) := by decide +kernel
theorem dX6_person_100 : decode cX6_person 100 = .ok (.iload_n 1, 1) := by decide +kernel
theorem dX6_person_101 : decode cX6_person 101 = .ok (.iaload, 1) := by decide +kernel
theorem dX6_person_102 : decode cX6_person 102 = .ok (.ireturn, 1) := by decide +kernel
theorem dX6_person_103 : decode cX6_person 103 = .ok (.aload_n 0, 1) := by decide +kernel
theorem dX6_person_104 : decode cX6_person 104 = .ok (.getfield 29, 3) := by decide +kernel
theorem dX6_person_107 : decode cX6_person 107 = .ok (.getfield 120, 3) := by decide +kernel
theorem dX6_person_110 : decode cX6_person 110 = .ok (.iload_n 1, 1) := by decide +kernel
theorem dX6_person_111 : decode cX6_person 111 = .ok (.iconst 3, 1) := by decide +kernel
theorem dX6_person_112 : decode cX6_person 112 = .ok (.imul, 1) := by decide +kernel
theorem dX6_person_113 : decode cX6_person 113 = .ok (.iload_n 2, 1) := by decide +kernel
theorem dX6_person_114 : decode cX6_person 114 = .ok (.iadd, 1) := by decide +kernel
theorem dX6_person_115 : decode cX6_person 115 = .ok (.iconst 1, 1) := by decide +kernel
theorem dX6_person_116 : decode cX6_person 116 = .ok (.isub, 1) := by decide +kernel
theorem dX6_person_117 : decode cX6_person 117 = .ok (.iaload, 1) := by decide +kernel
theorem dX6_person_118 : decode cX6_person 118 = .ok (.ireturn, 1) := by decide +kernel
theorem dX6_deed_0 : decode cX6_deed 0 = .ok (.aload_n 0, 1) := by decide +kernel
theorem dX6_deed_1 : decode cX6_deed 1 = .ok (.iload_n 1, 1) := by decide +kernel
theorem dX6_deed_2 : decode cX6_deed 2 = .ok (.invokevirtual 123, 3) := by decide +kernel
theorem dX6_deed_5 : decode cX6_deed 5 = .ok (.ifCond .eq 12, 3) := by decide +kernel
theorem dX6_deed_8 : decode cX6_deed 8 = .ok (.iload_n 2, 1) := by decide +kernel
theorem dX6_deed_9 : decode cX6_deed 9 = .ok (.iconst 0, 1) := by decide +kernel
theorem dX6_deed_10 : decode cX6_deed 10 = .ok (.iconst 3, 1) := by decide +kernel
theorem dX6_deed_11 : decode cX6_deed 11 = .ok (.invokestatic 93, 3) := by decide +kernel
theorem dX6_deed_14 : decode cX6_deed 14 = .ok (.ifCond .ne 5, 3) := by decide +kernel
theorem dX6_deed_17 : decode cX6_deed 17 = .ok (.iconst (-1), 1) := by decide +kernel
theorem dX6_deed_18 : decode cX6_deed 18 = .ok (.ireturn, 1) := by decide +kernel
theorem dX6_deed_19 : decode cX6_deed 19 = .ok (.iload_n 2, 1) := by decide +kernel
theorem dX6_deed_20 : decode cX6_deed 20 = .ok (.iconst 3, 1) := by decide +kernel
theorem dX6_deed_21 : decode cX6_deed 21 = .ok (.if_icmp .ne 15, 3) := by decide +kernel
theorem dX6_deed_24 : decode cX6_deed 24 = .ok (.aload_n 0, 1) := by decide +kernel
theorem dX6_deed_25 : decode cX6_deed 25 = .ok (.getfield 19, 3) := by decide +kernel
theorem dX6_deed_28 : decode cX6_deed 28 = .ok (.getfield 126, 3) := by decide +kernel
theorem dX6_deed_31 : decode cX6_deed 31 = .ok (.iload_n 1, 1) := by decide +kernel
theorem dX6_deed_32 : decode cX6_deed 32 = .ok (.iaload, 1) := by decide +kernel
theorem dX6_deed_33 : decode cX6_deed 33 = .ok (.goto 16, 3) := by decide +kernel
theorem dX6_deed_36 : decode cX6_deed 36 = .ok (.aload_n 0, 1) := by decide +kernel
theorem dX6_deed_37 : decode cX6_deed 37 = .ok (.getfield 19, 3) := by decide +kernel
theorem dX6_deed_40 : decode cX6_deed 40 = .ok (.getfield 129, 3) := by decide +kernel
theorem dX6_deed_43 : decode cX6_deed 43 = .ok (.iload_n 1, 1) := by decide +kernel
theorem dX6_deed_44 : decode cX6_deed 44 = .ok (.iconst 3, 1) := by decide +kernel
theorem dX6_deed_45 : decode cX6_deed 45 = .ok (.imul, 1) := by decide +kernel
theorem dX6_deed_46 : decode cX6_deed 46 = .ok (.iload_n 2, 1) := by decide +kernel
theorem dX6_deed_47 : decode cX6_deed 47 = .ok (.iadd, 1) := by decide +kernel
theorem dX6_deed_48 : decode cX6_deed 48 = .ok (.iaload, 1) := by decide +kernel
theorem dX6_deed_49 : decode cX6_deed 49 = .ok (.ireturn, 1) := by decide +kernel
theorem dX6_told_0 : decode cX6_told 0 = .ok (.aload_n 0, 1) := by decide +kernel
theorem dX6_told_1 : decode cX6_told 1 = .ok (.iload_n 1, 1) := by decide +kernel
theorem dX6_told_2 : decode cX6_told 2 = .ok (.invokevirtual 104, 3) := by decide +kernel
theorem dX6_told_5 : decode cX6_told 5 = .ok (.ifCond .eq 13, 3) := by decide +kernel
theorem dX6_told_8 : decode cX6_told 8 = .ok (.iload_n 2, 1) := by decide +kernel
theorem dX6_told_9 : decode cX6_told 9 = .ok (.iconst 0, 1) := by decide +kernel
theorem dX6_told_10 : decode cX6_told 10 = .ok (.bipush 6, 2) := by decide +kernel
theorem dX6_told_12 : decode cX6_told 12 = .ok (.invokestatic 93, 3) := by decide +kernel
theorem dX6_told_15 : decode cX6_told 15 = .ok (.ifCond .ne 5, 3) := by decide +kernel
theorem dX6_told_18 : decode cX6_told 18 = .ok (.iconst (-1), 1) := by decide +kernel
theorem dX6_told_19 : decode cX6_told 19 = .ok (.ireturn, 1) := by decide +kernel
theorem dX6_told_20 : decode cX6_told 20 = .ok (.aload_n 0, 1) := by decide +kernel
theorem dX6_told_21 : decode cX6_told 21 = .ok (.getfield 19, 3) := by decide +kernel
theorem dX6_told_24 : decode cX6_told 24 = .ok (.getfield 132, 3) := by decide +kernel
theorem dX6_told_27 : decode cX6_told 27 = .ok (.iload_n 1, 1) := by decide +kernel
theorem dX6_told_28 : decode cX6_told 28 = .ok (.bipush 7, 2) := by decide +kernel
theorem dX6_told_30 : decode cX6_told 30 = .ok (.imul, 1) := by decide +kernel
theorem dX6_told_31 : decode cX6_told 31 = .ok (.iload_n 2, 1) := by decide +kernel
theorem dX6_told_32 : decode cX6_told 32 = .ok (.iadd, 1) := by decide +kernel
theorem dX6_told_33 : decode cX6_told 33 = .ok (.iaload, 1) := by decide +kernel
theorem dX6_told_34 : decode cX6_told 34 = .ok (.ireturn, 1) := by decide +kernel
theorem dX6_can_0 : decode cX6_can 0 = .ok (.aload_n 0, 1) := by decide +kernel
theorem dX6_can_1 : decode cX6_can 1 = .ok (.iload_n 1, 1) := by decide +kernel
theorem dX6_can_2 : decode cX6_can 2 = .ok (.invokevirtual 104, 3) := by decide +kernel
theorem dX6_can_5 : decode cX6_can 5 = .ok (.ifCond .eq 11, 3) := by decide +kernel
theorem dX6_can_8 : decode cX6_can 8 = .ok (.aload_n 0, 1) := by decide +kernel
theorem dX6_can_9 : decode cX6_can 9 = .ok (.iload_n 2, 1) := by decide +kernel
theorem dX6_can_10 : decode cX6_can 10 = .ok (.invokevirtual 123, 3) := by decide +kernel
theorem dX6_can_13 : decode cX6_can 13 = .ok (.ifCond .ne 5, 3) := by decide +kernel
theorem dX6_can_16 : decode cX6_can 16 = .ok (.iconst (-1), 1) := by decide +kernel
theorem dX6_can_17 : decode cX6_can 17 = .ok (.ireturn, 1) := by decide +kernel
theorem dX6_can_18 : decode cX6_can 18 = .ok (.aload_n 0, 1) := by decide +kernel
theorem dX6_can_19 : decode cX6_can 19 = .ok (.getfield 19, 3) := by decide +kernel
theorem dX6_can_22 : decode cX6_can 22 = .ok (.iload_n 1, 1) := by decide +kernel
theorem dX6_can_23 : decode cX6_can 23 = .ok (.iload_n 2, 1) := by decide +kernel
theorem dX6_can_24 : decode cX6_can 24 = .ok (.aload_n 0, 1) := by decide +kernel
theorem dX6_can_25 : decode cX6_can 25 = .ok (.getfield 29, 3) := by decide +kernel
theorem dX6_can_28 : decode cX6_can 28 = .ok (.getfield 120, 3) := by decide +kernel
theorem dX6_can_31 : decode cX6_can 31 = .ok (.iload_n 1, 1) := by decide +kernel
theorem dX6_can_32 : decode cX6_can 32 = .ok (.iconst 3, 1) := by decide +kernel
theorem dX6_can_33 : decode cX6_can 33 = .ok (.imul, 1) := by decide +kernel
theorem dX6_can_34 : decode cX6_can 34 = .ok (.invokevirtual 135, 3) := by decide +kernel
theorem dX6_can_37 : decode cX6_can 37 = .ok (.ifCond .eq 7, 3) := by decide +kernel
theorem dX6_can_40 : decode cX6_can 40 = .ok (.iconst 1, 1) := by decide +kernel
theorem dX6_can_41 : decode cX6_can 41 = .ok (.goto 4, 3) := by decide +kernel
theorem dX6_can_44 : decode cX6_can 44 = .ok (.iconst 0, 1) := by decide +kernel
theorem dX6_can_45 : decode cX6_can 45 = .ok (.ireturn, 1) := by decide +kernel
theorem dX6_pass_0 : decode cX6_pass 0 = .ok (.iload_n 1, 1) := by decide +kernel
theorem dX6_pass_1 : decode cX6_pass 1 = .ok (.iconst 1, 1) := by decide +kernel
theorem dX6_pass_2 : decode cX6_pass 2 = .ok (.bipush 30, 2) := by decide +kernel
theorem dX6_pass_4 : decode cX6_pass 4 = .ok (.invokestatic 93, 3) := by decide +kernel
theorem dX6_pass_7 : decode cX6_pass 7 = .ok (.ifCond .ne 5, 3) := by decide +kernel
theorem dX6_pass_10 : decode cX6_pass 10 = .ok (.iconst (-1), 1) := by decide +kernel
theorem dX6_pass_11 : decode cX6_pass 11 = .ok (.ireturn, 1) := by decide +kernel
theorem dX6_pass_12 : decode cX6_pass 12 = .ok (.aload_n 0, 1) := by decide +kernel
theorem dX6_pass_13 : decode cX6_pass 13 = .ok (.getfield 41, 3) := by decide +kernel
theorem dX6_pass_16 : decode cX6_pass 16 = .ok (.aload_n 0, 1) := by decide +kernel
theorem dX6_pass_17 : decode cX6_pass 17 = .ok (.getfield 29, 3) := by decide +kernel
theorem dX6_pass_20 : decode cX6_pass 20 = .ok (.invokevirtual 139, 3) := by decide +kernel
theorem dX6_pass_23 : decode cX6_pass 23 = .ok (.aload_n 0, 1) := by decide +kernel
theorem dX6_pass_24 : decode cX6_pass 24 = .ok (.getfield 29, 3) := by decide +kernel
theorem dX6_pass_27 : decode cX6_pass 27 = .ok (.aload_n 0, 1) := by decide +kernel
theorem dX6_pass_28 : decode cX6_pass 28 = .ok (.getfield 19, 3) := by decide +kernel
theorem dX6_pass_31 : decode cX6_pass 31 = .ok (.iload_n 1, 1) := by decide +kernel
theorem dX6_pass_32 : decode cX6_pass 32 = .ok (.invokevirtual 143, 3) := by decide +kernel
theorem dX6_pass_35 : decode cX6_pass 35 = .ok (.aload_n 0, 1) := by decide +kernel
theorem dX6_pass_36 : decode cX6_pass 36 = .ok (.getfield 29, 3) := by decide +kernel
theorem dX6_pass_39 : decode cX6_pass 39 = .ok (.invokevirtual 147, 3) := by decide +kernel
theorem dX6_pass_42 : decode cX6_pass 42 = .ok (.ireturn, 1) := by decide +kernel
theorem dX6_act_0 : decode cX6_act 0 = .ok (.aload_n 0, 1) := by decide +kernel
theorem dX6_act_1 : decode cX6_act 1 = .ok (.iload_n 1, 1) := by decide +kernel
theorem dX6_act_2 : decode cX6_act 2 = .ok (.invokevirtual 104, 3) := by decide +kernel
theorem dX6_act_5 : decode cX6_act 5 = .ok (.ifCond .eq 11, 3) := by decide +kernel
theorem dX6_act_8 : decode cX6_act 8 = .ok (.aload_n 0, 1) := by decide +kernel
theorem dX6_act_9 : decode cX6_act 9 = .ok (.iload_n 2, 1) := by decide +kernel
theorem dX6_act_10 : decode cX6_act 10 = .ok (.invokevirtual 123, 3) := by decide +kernel
theorem dX6_act_13 : decode cX6_act 13 = .ok (.ifCond .ne 5, 3) := by decide +kernel
theorem dX6_act_16 : decode cX6_act 16 = .ok (.iconst (-1), 1) := by decide +kernel
theorem dX6_act_17 : decode cX6_act 17 = .ok (.ireturn, 1) := by decide +kernel
theorem dX6_act_18 : decode cX6_act 18 = .ok (.aload_n 0, 1) := by decide +kernel
theorem dX6_act_19 : decode cX6_act 19 = .ok (.getfield 19, 3) := by decide +kernel
theorem dX6_act_22 : decode cX6_act 22 = .ok (.iload_n 1, 1) := by decide +kernel
theorem dX6_act_23 : decode cX6_act 23 = .ok (.iload_n 2, 1) := by decide +kernel
theorem dX6_act_24 : decode cX6_act 24 = .ok (.aload_n 0, 1) := by decide +kernel
theorem dX6_act_25 : decode cX6_act 25 = .ok (.getfield 29, 3) := by decide +kernel
theorem dX6_act_28 : decode cX6_act 28 = .ok (.getfield 120, 3) := by decide +kernel
theorem dX6_act_31 : decode cX6_act 31 = .ok (.iload_n 1, 1) := by decide +kernel
theorem dX6_act_32 : decode cX6_act 32 = .ok (.iconst 3, 1) := by decide +kernel
theorem dX6_act_33 : decode cX6_act 33 = .ok (.imul, 1) := by decide +kernel
theorem dX6_act_34 : decode cX6_act 34 = .ok (.invokevirtual 135, 3) := by decide +kernel
theorem dX6_act_37 : decode cX6_act 37 = .ok (.ifCond .ne 6, 3) := by decide +kernel
theorem dX6_act_40 : decode cX6_act 40 = .ok (.bipush (-2), 2) := by decide +kernel
theorem dX6_act_42 : decode cX6_act 42 = .ok (.ireturn, 1) := by decide +kernel
theorem dX6_act_43 : decode cX6_act 43 = .ok (.aload_n 0, 1) := by decide +kernel
theorem dX6_act_44 : decode cX6_act 44 = .ok (.getfield 41, 3) := by decide +kernel
theorem dX6_act_47 : decode cX6_act 47 = .ok (.aload_n 0, 1) := by decide +kernel
theorem dX6_act_48 : decode cX6_act 48 = .ok (.getfield 29, 3) := by decide +kernel
theorem dX6_act_51 : decode cX6_act 51 = .ok (.invokevirtual 139, 3) := by decide +kernel
theorem dX6_act_54 : decode cX6_act 54 = .ok (.aload_n 0, 1) := by decide +kernel
theorem dX6_act_55 : decode cX6_act 55 = .ok (.getfield 29, 3) := by decide +kernel
theorem dX6_act_58 : decode cX6_act 58 = .ok (.aload_n 0, 1) := by decide +kernel
theorem dX6_act_59 : decode cX6_act 59 = .ok (.getfield 19, 3) := by decide +kernel
theorem dX6_act_62 : decode cX6_act 62 = .ok (.iload_n 1, 1) := by decide +kernel
theorem dX6_act_63 : decode cX6_act 63 = .ok (.iload_n 2, 1) := by decide +kernel
theorem dX6_act_64 : decode cX6_act 64 = .ok (.invokevirtual 150, 3) := by decide +kernel
theorem dX6_act_67 : decode cX6_act 67 = .ok (.ireturn, 1) := by decide +kernel
theorem dX6_lend_0 : decode cX6_lend 0 = .ok (.aload_n 0, 1) := by decide +kernel
theorem dX6_lend_1 : decode cX6_lend 1 = .ok (.iload_n 1, 1) := by decide +kernel
theorem dX6_lend_2 : decode cX6_lend 2 = .ok (.invokevirtual 104, 3) := by decide +kernel
theorem dX6_lend_5 : decode cX6_lend 5 = .ok (.ifCond .eq 34, 3) := by decide +kernel
theorem dX6_lend_8 : decode cX6_lend 8 = .ok (.aload_n 0, 1) := by decide +kernel
theorem dX6_lend_9 : decode cX6_lend 9 = .ok (.iload_n 2, 1) := by decide +kernel
theorem dX6_lend_10 : decode cX6_lend 10 = .ok (.invokevirtual 104, 3) := by decide +kernel
theorem dX6_lend_13 : decode cX6_lend 13 = .ok (.ifCond .eq 26, 3) := by decide +kernel
theorem dX6_lend_16 : decode cX6_lend 16 = .ok (.iload_n 1, 1) := by decide +kernel
theorem dX6_lend_17 : decode cX6_lend 17 = .ok (.iload_n 2, 1) := by decide +kernel
theorem dX6_lend_18 : decode cX6_lend 18 = .ok (.if_icmp .eq 21, 3) := by decide +kernel
theorem dX6_lend_21 : decode cX6_lend 21 = .ok (.iload_n 3, 1) := by decide +kernel
theorem dX6_lend_22 : decode cX6_lend 22 = .ok (.invokestatic 154, 3) := by decide +kernel
theorem dX6_lend_25 : decode cX6_lend 25 = .ok (.ifCond .eq 14, 3) := by decide +kernel
theorem dX6_lend_28 : decode cX6_lend 28 = .ok (.iload 4, 2) := by decide +kernel
theorem dX6_lend_30 : decode cX6_lend 30 = .ok (.iconst 1, 1) := by decide +kernel
theorem dX6_lend_31 : decode cX6_lend 31 = .ok (.bipush 99, 2) := by decide +kernel
theorem dX6_lend_33 : decode cX6_lend 33 = .ok (.invokestatic 93, 3) := by decide +kernel
theorem dX6_lend_36 : decode cX6_lend 36 = .ok (.ifCond .ne 5, 3) := by decide +kernel
theorem dX6_lend_39 : decode cX6_lend 39 = .ok (.iconst (-1), 1) := by decide +kernel
theorem dX6_lend_40 : decode cX6_lend 40 = .ok (.ireturn, 1) := by decide +kernel
theorem dX6_lend_41 : decode cX6_lend 41 = .ok (.iload_n 1, 1) := by decide +kernel
theorem dX6_lend_42 : decode cX6_lend 42 = .ok (.iconst 3, 1) := by decide +kernel
theorem dX6_lend_43 : decode cX6_lend 43 = .ok (.imul, 1) := by decide +kernel
theorem dX6_lend_44 : decode cX6_lend 44 = .ok (.iload_n 3, 1) := by decide +kernel
theorem dX6_lend_45 : decode cX6_lend 45 = .ok (.iadd, 1) := by decide +kernel
theorem dX6_lend_46 : decode cX6_lend 46 = .ok (.istore 5, 2) := by decide +kernel
theorem dX6_lend_48 : decode cX6_lend 48 = .ok (.iload_n 2, 1) := by decide +kernel
theorem dX6_lend_49 : decode cX6_lend 49 = .ok (.iconst 3, 1) := by decide +kernel
theorem dX6_lend_50 : decode cX6_lend 50 = .ok (.imul, 1) := by decide +kernel
theorem dX6_lend_51 : decode cX6_lend 51 = .ok (.iload_n 3, 1) := by decide +kernel
theorem dX6_lend_52 : decode cX6_lend 52 = .ok (.iadd, 1) := by decide +kernel
theorem dX6_lend_53 : decode cX6_lend 53 = .ok (.istore 6, 2) := by decide +kernel
theorem dX6_lend_55 : decode cX6_lend 55 = .ok (.aload_n 0, 1) := by decide +kernel
theorem dX6_lend_56 : decode cX6_lend 56 = .ok (.getfield 29, 3) := by decide +kernel
theorem dX6_lend_59 : decode cX6_lend 59 = .ok (.getfield 120, 3) := by decide +kernel
theorem dX6_lend_62 : decode cX6_lend 62 = .ok (.iload 5, 2) := by decide +kernel
theorem dX6_lend_64 : decode cX6_lend 64 = .ok (.iaload, 1) := by decide +kernel
theorem dX6_lend_65 : decode cX6_lend 65 = .ok (.iload 4, 2) := by decide +kernel
theorem dX6_lend_67 : decode cX6_lend 67 = .ok (.if_icmp .ge 6, 3) := by decide +kernel
theorem dX6_lend_70 : decode cX6_lend 70 = .ok (.bipush (-2), 2) := by decide +kernel
theorem dX6_lend_72 : decode cX6_lend 72 = .ok (.ireturn, 1) := by decide +kernel
theorem dX6_lend_73 : decode cX6_lend 73 = .ok (.aload_n 0, 1) := by decide +kernel
theorem dX6_lend_74 : decode cX6_lend 74 = .ok (.getfield 29, 3) := by decide +kernel
theorem dX6_lend_77 : decode cX6_lend 77 = .ok (.getfield 120, 3) := by decide +kernel
theorem dX6_lend_80 : decode cX6_lend 80 = .ok (.iload 6, 2) := by decide +kernel
theorem dX6_lend_82 : decode cX6_lend 82 = .ok (.iaload, 1) := by decide +kernel
theorem dX6_lend_83 : decode cX6_lend 83 = .ok (.iload 4, 2) := by decide +kernel
theorem dX6_lend_85 : decode cX6_lend 85 = .ok (.iadd, 1) := by decide +kernel
theorem dX6_lend_86 : decode cX6_lend 86 = .ok (.bipush 99, 2) := by decide +kernel
theorem dX6_lend_88 : decode cX6_lend 88 = .ok (.if_icmp .le 6, 3) := by decide +kernel
theorem dX6_lend_91 : decode cX6_lend 91 = .ok (.bipush (-3), 2) := by decide +kernel
theorem dX6_lend_93 : decode cX6_lend 93 = .ok (.ireturn, 1) := by decide +kernel
theorem dX6_lend_94 : decode cX6_lend 94 = .ok (.aload_n 0, 1) := by decide +kernel
theorem dX6_lend_95 : decode cX6_lend 95 = .ok (.getfield 41, 3) := by decide +kernel
theorem dX6_lend_98 : decode cX6_lend 98 = .ok (.aload_n 0, 1) := by decide +kernel
theorem dX6_lend_99 : decode cX6_lend 99 = .ok (.getfield 29, 3) := by decide +kernel
theorem dX6_lend_102 : decode cX6_lend 102 = .ok (.invokevirtual 139, 3) := by decide +kernel
theorem dX6_lend_105 : decode cX6_lend 105 = .ok (.aload_n 0, 1) := by decide +kernel
theorem dX6_lend_106 : decode cX6_lend 106 = .ok (.getfield 29, 3) := by decide +kernel
theorem dX6_lend_109 : decode cX6_lend 109 = .ok (.getfield 120, 3) := by decide +kernel
theorem dX6_lend_112 : decode cX6_lend 112 = .ok (.iload 5, 2) := by decide +kernel
theorem dX6_lend_114 : decode cX6_lend 114 = .ok (.dup2, 1) := by decide +kernel
theorem dX6_lend_115 : decode cX6_lend 115 = .ok (.iaload, 1) := by decide +kernel
theorem dX6_lend_116 : decode cX6_lend 116 = .ok (.iload 4, 2) := by decide +kernel
theorem dX6_lend_118 : decode cX6_lend 118 = .ok (.isub, 1) := by decide +kernel
theorem dX6_lend_119 : decode cX6_lend 119 = .ok (.iastore, 1) := by decide +kernel
theorem dX6_lend_120 : decode cX6_lend 120 = .ok (.aload_n 0, 1) := by decide +kernel
theorem dX6_lend_121 : decode cX6_lend 121 = .ok (.getfield 29, 3) := by decide +kernel
theorem dX6_lend_124 : decode cX6_lend 124 = .ok (.getfield 120, 3) := by decide +kernel
theorem dX6_lend_127 : decode cX6_lend 127 = .ok (.iload 6, 2) := by decide +kernel
theorem dX6_lend_129 : decode cX6_lend 129 = .ok (.dup2, 1) := by decide +kernel
theorem dX6_lend_130 : decode cX6_lend 130 = .ok (.iaload, 1) := by decide +kernel
theorem dX6_lend_131 : decode cX6_lend 131 = .ok (.iload 4, 2) := by decide +kernel
theorem dX6_lend_133 : decode cX6_lend 133 = .ok (.iadd, 1) := by decide +kernel
theorem dX6_lend_134 : decode cX6_lend 134 = .ok (.iastore, 1) := by decide +kernel
theorem dX6_lend_135 : decode cX6_lend 135 = .ok (.aload_n 0, 1) := by decide +kernel
theorem dX6_lend_136 : decode cX6_lend 136 = .ok (.getfield 29, 3) := by decide +kernel
theorem dX6_lend_139 : decode cX6_lend 139 = .ok (.getfield 120, 3) := by decide +kernel
theorem dX6_lend_142 : decode cX6_lend 142 = .ok (.iload 6, 2) := by decide +kernel
theorem dX6_lend_144 : decode cX6_lend 144 = .ok (.iaload, 1) := by decide +kernel
theorem dX6_lend_145 : decode cX6_lend 145 = .ok (.ireturn, 1) := by decide +kernel
theorem dX6_sell_0 : decode cX6_sell 0 = .ok (.aload_n 0, 1) := by decide +kernel
theorem dX6_sell_1 : decode cX6_sell 1 = .ok (.iload_n 1, 1) := by decide +kernel
theorem dX6_sell_2 : decode cX6_sell 2 = .ok (.invokevirtual 104, 3) := by decide +kernel
theorem dX6_sell_5 : decode cX6_sell 5 = .ok (.ifCond .eq 20, 3) := by decide +kernel
theorem dX6_sell_8 : decode cX6_sell 8 = .ok (.iload_n 2, 1) := by decide +kernel
theorem dX6_sell_9 : decode cX6_sell 9 = .ok (.invokestatic 154, 3) := by decide +kernel
theorem dX6_sell_12 : decode cX6_sell 12 = .ok (.ifCond .eq 13, 3) := by decide +kernel
theorem dX6_sell_15 : decode cX6_sell 15 = .ok (.iload_n 3, 1) := by decide +kernel
theorem dX6_sell_16 : decode cX6_sell 16 = .ok (.iconst 1, 1) := by decide +kernel
theorem dX6_sell_17 : decode cX6_sell 17 = .ok (.bipush 99, 2) := by decide +kernel
theorem dX6_sell_19 : decode cX6_sell 19 = .ok (.invokestatic 93, 3) := by decide +kernel
theorem dX6_sell_22 : decode cX6_sell 22 = .ok (.ifCond .ne 5, 3) := by decide +kernel
theorem dX6_sell_25 : decode cX6_sell 25 = .ok (.iconst (-1), 1) := by decide +kernel
theorem dX6_sell_26 : decode cX6_sell 26 = .ok (.ireturn, 1) := by decide +kernel
theorem dX6_sell_27 : decode cX6_sell 27 = .ok (.iload_n 1, 1) := by decide +kernel
theorem dX6_sell_28 : decode cX6_sell 28 = .ok (.iconst 3, 1) := by decide +kernel
theorem dX6_sell_29 : decode cX6_sell 29 = .ok (.imul, 1) := by decide +kernel
theorem dX6_sell_30 : decode cX6_sell 30 = .ok (.iload_n 2, 1) := by decide +kernel
theorem dX6_sell_31 : decode cX6_sell 31 = .ok (.iadd, 1) := by decide +kernel
theorem dX6_sell_32 : decode cX6_sell 32 = .ok (.istore 4, 2) := by decide +kernel
theorem dX6_sell_34 : decode cX6_sell 34 = .ok (.aload_n 0, 1) := by decide +kernel
theorem dX6_sell_35 : decode cX6_sell 35 = .ok (.getfield 29, 3) := by decide +kernel
theorem dX6_sell_38 : decode cX6_sell 38 = .ok (.getfield 120, 3) := by decide +kernel
theorem dX6_sell_41 : decode cX6_sell 41 = .ok (.iload 4, 2) := by decide +kernel
theorem dX6_sell_43 : decode cX6_sell 43 = .ok (.iaload, 1) := by decide +kernel
theorem dX6_sell_44 : decode cX6_sell 44 = .ok (.iload_n 3, 1) := by decide +kernel
theorem dX6_sell_45 : decode cX6_sell 45 = .ok (.if_icmp .ge 6, 3) := by decide +kernel
theorem dX6_sell_48 : decode cX6_sell 48 = .ok (.bipush (-2), 2) := by decide +kernel
theorem dX6_sell_50 : decode cX6_sell 50 = .ok (.ireturn, 1) := by decide +kernel
theorem dX6_sell_51 : decode cX6_sell 51 = .ok (.aload_n 0, 1) := by decide +kernel
theorem dX6_sell_52 : decode cX6_sell 52 = .ok (.getfield 41, 3) := by decide +kernel
theorem dX6_sell_55 : decode cX6_sell 55 = .ok (.aload_n 0, 1) := by decide +kernel
theorem dX6_sell_56 : decode cX6_sell 56 = .ok (.getfield 29, 3) := by decide +kernel
theorem dX6_sell_59 : decode cX6_sell 59 = .ok (.invokevirtual 139, 3) := by decide +kernel
theorem dX6_sell_62 : decode cX6_sell 62 = .ok (.aload_n 0, 1) := by decide +kernel
theorem dX6_sell_63 : decode cX6_sell 63 = .ok (.getfield 29, 3) := by decide +kernel
theorem dX6_sell_66 : decode cX6_sell 66 = .ok (.getfield 120, 3) := by decide +kernel
theorem dX6_sell_69 : decode cX6_sell 69 = .ok (.iload 4, 2) := by decide +kernel
theorem dX6_sell_71 : decode cX6_sell 71 = .ok (.dup2, 1) := by decide +kernel
theorem dX6_sell_72 : decode cX6_sell 72 = .ok (.iaload, 1) := by decide +kernel
theorem dX6_sell_73 : decode cX6_sell 73 = .ok (.iload_n 3, 1) := by decide +kernel
theorem dX6_sell_74 : decode cX6_sell 74 = .ok (.isub, 1) := by decide +kernel
theorem dX6_sell_75 : decode cX6_sell 75 = .ok (.iastore, 1) := by decide +kernel
theorem dX6_sell_76 : decode cX6_sell 76 = .ok (.aload_n 0, 1) := by decide +kernel
theorem dX6_sell_77 : decode cX6_sell 77 = .ok (.getfield 29, 3) := by decide +kernel
theorem dX6_sell_80 : decode cX6_sell 80 = .ok (.getfield 114, 3) := by decide +kernel
theorem dX6_sell_83 : decode cX6_sell 83 = .ok (.iload_n 1, 1) := by decide +kernel
theorem dX6_sell_84 : decode cX6_sell 84 = .ok (.dup2, 1) := by decide +kernel
theorem dX6_sell_85 : decode cX6_sell 85 = .ok (.iaload, 1) := by decide +kernel
theorem dX6_sell_86 : decode cX6_sell 86 = .ok (.iload_n 3, 1) := by decide +kernel
theorem dX6_sell_87 : decode cX6_sell 87 = .ok (.aload_n 0, 1) := by decide +kernel
theorem dX6_sell_88 : decode cX6_sell 88 = .ok (.getfield 19, 3) := by decide +kernel
theorem dX6_sell_91 : decode cX6_sell 91 = .ok (.getfield 157, 3) := by decide +kernel
theorem dX6_sell_94 : decode cX6_sell 94 = .ok (.imul, 1) := by decide +kernel
theorem dX6_sell_95 : decode cX6_sell 95 = .ok (.iadd, 1) := by decide +kernel
theorem dX6_sell_96 : decode cX6_sell 96 = .ok (.iastore, 1) := by decide +kernel
theorem dX6_sell_97 : decode cX6_sell 97 = .ok (.aload_n 0, 1) := by decide +kernel
theorem dX6_sell_98 : decode cX6_sell 98 = .ok (.getfield 29, 3) := by decide +kernel
theorem dX6_sell_101 : decode cX6_sell 101 = .ok (.getfield 114, 3) := by decide +kernel
theorem dX6_sell_104 : decode cX6_sell 104 = .ok (.iload_n 1, 1) := by decide +kernel
theorem dX6_sell_105 : decode cX6_sell 105 = .ok (.iaload, 1) := by decide +kernel
theorem dX6_sell_106 : decode cX6_sell 106 = .ok (.ireturn, 1) := by decide +kernel
theorem dX6_levy_0 : decode cX6_levy 0 = .ok (.iload_n 1, 1) := by decide +kernel
theorem dX6_levy_1 : decode cX6_levy 1 = .ok (.invokestatic 154, 3) := by decide +kernel
theorem dX6_levy_4 : decode cX6_levy 4 = .ok (.ifCond .eq 13, 3) := by decide +kernel
theorem dX6_levy_7 : decode cX6_levy 7 = .ok (.iload_n 2, 1) := by decide +kernel
theorem dX6_levy_8 : decode cX6_levy 8 = .ok (.iconst 1, 1) := by decide +kernel
theorem dX6_levy_9 : decode cX6_levy 9 = .ok (.bipush 99, 2) := by decide +kernel
theorem dX6_levy_11 : decode cX6_levy 11 = .ok (.invokestatic 93, 3) := by decide +kernel
theorem dX6_levy_14 : decode cX6_levy 14 = .ok (.ifCond .ne 5, 3) := by decide +kernel
theorem dX6_levy_17 : decode cX6_levy 17 = .ok (.iconst (-1), 1) := by decide +kernel
theorem dX6_levy_18 : decode cX6_levy 18 = .ok (.ireturn, 1) := by decide +kernel
theorem dX6_levy_19 : decode cX6_levy 19 = .ok (.aload_n 0, 1) := by decide +kernel
theorem dX6_levy_20 : decode cX6_levy 20 = .ok (.getfield 41, 3) := by decide +kernel
theorem dX6_levy_23 : decode cX6_levy 23 = .ok (.aload_n 0, 1) := by decide +kernel
theorem dX6_levy_24 : decode cX6_levy 24 = .ok (.getfield 29, 3) := by decide +kernel
theorem dX6_levy_27 : decode cX6_levy 27 = .ok (.invokevirtual 139, 3) := by decide +kernel
theorem dX6_levy_30 : decode cX6_levy 30 = .ok (.iconst 0, 1) := by decide +kernel
theorem dX6_levy_31 : decode cX6_levy 31 = .ok (.istore_n 3, 1) := by decide +kernel
theorem dX6_levy_32 : decode cX6_levy 32 = .ok (.iload_n 3, 1) := by decide +kernel
theorem dX6_levy_33 : decode cX6_levy 33 = .ok (.iload_n 2, 1) := by decide +kernel
theorem dX6_levy_34 : decode cX6_levy 34 = .ok (.if_icmp .ge 24, 3) := by decide +kernel
theorem dX6_levy_37 : decode cX6_levy 37 = .ok (.aload_n 0, 1) := by decide +kernel
theorem dX6_levy_38 : decode cX6_levy 38 = .ok (.getfield 29, 3) := by decide +kernel
theorem dX6_levy_41 : decode cX6_levy 41 = .ok (.aload_n 0, 1) := by decide +kernel
theorem dX6_levy_42 : decode cX6_levy 42 = .ok (.getfield 19, 3) := by decide +kernel
theorem dX6_levy_45 : decode cX6_levy 45 = .ok (.iload_n 1, 1) := by decide +kernel
theorem dX6_levy_46 : decode cX6_levy 46 = .ok (.invokevirtual 160, 3) := by decide +kernel
theorem dX6_levy_49 : decode cX6_levy 49 = .ok (.ifCond .eq 9, 3) := by decide +kernel
theorem dX6_levy_52 : decode cX6_levy 52 = .ok (.iinc 3 1, 3) := by decide +kernel
theorem dX6_levy_55 : decode cX6_levy 55 = .ok (.goto (-23), 3) := by decide +kernel
theorem dX6_levy_58 : decode cX6_levy 58 = .ok (.iload_n 3, 1) := by decide +kernel
theorem dX6_levy_59 : decode cX6_levy 59 = .ok (.ireturn, 1) := by decide +kernel
theorem dX6_undo_0 : decode cX6_undo 0 = .ok (.aload_n 0, 1) := by decide +kernel
theorem dX6_undo_1 : decode cX6_undo 1 = .ok (.getfield 41, 3) := by decide +kernel
theorem dX6_undo_4 : decode cX6_undo 4 = .ok (.aload_n 0, 1) := by decide +kernel
theorem dX6_undo_5 : decode cX6_undo 5 = .ok (.getfield 29, 3) := by decide +kernel
theorem dX6_undo_8 : decode cX6_undo 8 = .ok (.invokevirtual 164, 3) := by decide +kernel
theorem dX6_undo_11 : decode cX6_undo 11 = .ok (.ifCond .eq 13, 3) := by decide +kernel
theorem dX6_undo_14 : decode cX6_undo 14 = .ok (.aload_n 0, 1) := by decide +kernel
theorem dX6_undo_15 : decode cX6_undo 15 = .ok (.getfield 41, 3) := by decide +kernel
theorem dX6_undo_18 : decode cX6_undo 18 = .ok (.getfield 100, 3) := by decide +kernel
theorem dX6_undo_21 : decode cX6_undo 21 = .ok (.goto 5, 3) := by decide +kernel
theorem dX6_undo_24 : decode cX6_undo 24 = .ok (.bipush (-2), 2) := by decide +kernel
theorem dX6_undo_26 : decode cX6_undo 26 = .ok (.ireturn, 1) := by decide +kernel
theorem dX6_behind_0 : decode cX6_behind 0 = .ok (.iload_n 1, 1) := by decide +kernel
theorem dX6_behind_1 : decode cX6_behind 1 = .ok (.iconst 0, 1) := by decide +kernel
theorem dX6_behind_2 : decode cX6_behind 2 = .ok (.bipush 60, 2) := by decide +kernel
theorem dX6_behind_4 : decode cX6_behind 4 = .ok (.invokestatic 93, 3) := by decide +kernel
theorem dX6_behind_7 : decode cX6_behind 7 = .ok (.ifCond .eq 20, 3) := by decide +kernel
theorem dX6_behind_10 : decode cX6_behind 10 = .ok (.aload_n 0, 1) := by decide +kernel
theorem dX6_behind_11 : decode cX6_behind 11 = .ok (.iload_n 2, 1) := by decide +kernel
theorem dX6_behind_12 : decode cX6_behind 12 = .ok (.invokevirtual 104, 3) := by decide +kernel
theorem dX6_behind_15 : decode cX6_behind 15 = .ok (.ifCond .eq 12, 3) := by decide +kernel
theorem dX6_behind_18 : decode cX6_behind 18 = .ok (.iload_n 3, 1) := by decide +kernel
theorem dX6_behind_19 : decode cX6_behind 19 = .ok (.iconst 0, 1) := by decide +kernel
theorem dX6_behind_20 : decode cX6_behind 20 = .ok (.iconst 4, 1) := by decide +kernel
theorem dX6_behind_21 : decode cX6_behind 21 = .ok (.invokestatic 93, 3) := by decide +kernel
theorem dX6_behind_24 : decode cX6_behind 24 = .ok (.ifCond .ne 5, 3) := by decide +kernel
theorem dX6_behind_27 : decode cX6_behind 27 = .ok (.iconst (-1), 1) := by decide +kernel
theorem dX6_behind_28 : decode cX6_behind 28 = .ok (.ireturn, 1) := by decide +kernel
theorem dX6_behind_29 : decode cX6_behind 29 = .ok (.aload_n 0, 1) := by decide +kernel
theorem dX6_behind_30 : decode cX6_behind 30 = .ok (.getfield 33, 3) := by decide +kernel
theorem dX6_behind_33 : decode cX6_behind 33 = .ok (.aload_n 0, 1) := by decide +kernel
theorem dX6_behind_34 : decode cX6_behind 34 = .ok (.getfield 29, 3) := by decide +kernel
theorem dX6_behind_37 : decode cX6_behind 37 = .ok (.invokevirtual 168, 3) := by decide +kernel
theorem dX6_behind_40 : decode cX6_behind 40 = .ok (.aload_n 0, 1) := by decide +kernel
theorem dX6_behind_41 : decode cX6_behind 41 = .ok (.getfield 33, 3) := by decide +kernel
theorem dX6_behind_44 : decode cX6_behind 44 = .ok (.aload_n 0, 1) := by decide +kernel
theorem dX6_behind_45 : decode cX6_behind 45 = .ok (.getfield 19, 3) := by decide +kernel
theorem dX6_behind_48 : decode cX6_behind 48 = .ok (.iload_n 1, 1) := by decide +kernel
theorem dX6_behind_49 : decode cX6_behind 49 = .ok (.invokevirtual 143, 3) := by decide +kernel
theorem dX6_behind_52 : decode cX6_behind 52 = .ok (.iload_n 3, 1) := by decide +kernel
theorem dX6_behind_53 : decode cX6_behind 53 = .ok (.lookupswitch 56 #[(3, 27), (4, 36)], 27) := by decide +kernel
theorem dX6_behind_80 : decode cX6_behind 80 = .ok (.aload_n 0, 1) := by decide +kernel
theorem dX6_behind_81 : decode cX6_behind 81 = .ok (.getfield 33, 3) := by decide +kernel
theorem dX6_behind_84 : decode cX6_behind 84 = .ok (.iload_n 2, 1) := by decide +kernel
theorem dX6_behind_85 : decode cX6_behind 85 = .ok (.invokevirtual 110, 3) := by decide +kernel
theorem dX6_behind_88 : decode cX6_behind 88 = .ok (.ireturn, 1) := by decide +kernel
theorem dX6_behind_89 : decode cX6_behind 89 = .ok (.aload_n 0, 1) := by decide +kernel
theorem dX6_behind_90 : decode cX6_behind 90 = .ok (.getfield 33, 3) := by decide +kernel
theorem dX6_behind_93 : decode cX6_behind 93 = .ok (.getfield 117, 3) := by decide +kernel
theorem dX6_behind_96 : decode cX6_behind 96 = .ok (.iload_n 2, 1) := by decide +kernel
theorem dX6_behind_97 : decode cX6_behind 97 = .ok (.iaload, 1) := by decide +kernel
theorem dX6_behind_98 : decode cX6_behind 98 = .ok (.aload_n 0, 1) := by decide +kernel
theorem dX6_behind_99 : decode cX6_behind 99 = .ok (.getfield 29, 3) := by decide +kernel
theorem dX6_behind_102 : decode cX6_behind 102 = .ok (.getfield 117, 3) := by decide +kernel
theorem dX6_behind_105 : decode cX6_behind 105 = .ok (.iload_n 2, 1) := by decide +kernel
theorem dX6_behind_106 : decode cX6_behind 106 = .ok (.iaload, 1) := by decide +kernel
theorem dX6_behind_107 : decode cX6_behind 107 = .ok (.isub, 1) := by decide +kernel
theorem dX6_behind_108 : decode cX6_behind 108 = .ok (.ireturn, 1) := by decide +kernel
theorem dX6_behind_109 : decode cX6_behind 109 = .ok (.aload_n 0, 1) := by decide +kernel
theorem dX6_behind_110 : decode cX6_behind 110 = .ok (.getfield 33, 3) := by decide +kernel
theorem dX6_behind_113 : decode cX6_behind 113 = .ok (.getfield 120, 3) := by decide +kernel
theorem dX6_behind_116 : decode cX6_behind 116 = .ok (.iload_n 2, 1) := by decide +kernel
theorem dX6_behind_117 : decode cX6_behind 117 = .ok (.iconst 3, 1) := by decide +kernel
theorem dX6_behind_118 : decode cX6_behind 118 = .ok (.imul, 1) := by decide +kernel
theorem dX6_behind_119 : decode cX6_behind 119 = .ok (.iload_n 3, 1) := by decide +kernel
theorem dX6_behind_120 : decode cX6_behind 120 = .ok (.iadd, 1) := by decide +kernel
theorem dX6_behind_121 : decode cX6_behind 121 = .ok (.iaload, 1) := by decide +kernel
theorem dX6_behind_122 : decode cX6_behind 122 = .ok (.ireturn, 1) := by decide +kernel
theorem dX6_grey_0 : decode cX6_grey 0 = .ok (.iload_n 1, 1) := by decide +kernel
theorem dX6_grey_1 : decode cX6_grey 1 = .ok (.iconst 0, 1) := by decide +kernel
theorem dX6_grey_2 : decode cX6_grey 2 = .ok (.iconst 1, 1) := by decide +kernel
theorem dX6_grey_3 : decode cX6_grey 3 = .ok (.invokestatic 93, 3) := by decide +kernel
theorem dX6_grey_6 : decode cX6_grey 6 = .ok (.ifCond .ne 5, 3) := by decide +kernel
theorem dX6_grey_9 : decode cX6_grey 9 = .ok (.iconst (-1), 1) := by decide +kernel
theorem dX6_grey_10 : decode cX6_grey 10 = .ok (.ireturn, 1) := by decide +kernel
theorem dX6_grey_11 : decode cX6_grey 11 = .ok (.aload_n 0, 1) := by decide +kernel
theorem dX6_grey_12 : decode cX6_grey 12 = .ok (.getfield 33, 3) := by decide +kernel
theorem dX6_grey_15 : decode cX6_grey 15 = .ok (.aload_n 0, 1) := by decide +kernel
theorem dX6_grey_16 : decode cX6_grey 16 = .ok (.getfield 29, 3) := by decide +kernel
theorem dX6_grey_19 : decode cX6_grey 19 = .ok (.invokevirtual 168, 3) := by decide +kernel
theorem dX6_grey_22 : decode cX6_grey 22 = .ok (.iconst 1, 1) := by decide +kernel
theorem dX6_grey_23 : decode cX6_grey 23 = .ok (.istore_n 2, 1) := by decide +kernel
theorem dX6_grey_24 : decode cX6_grey 24 = .ok (.iload_n 2, 1) := by decide +kernel
theorem dX6_grey_25 : decode cX6_grey 25 = .ok (.bipush 60, 2) := by decide +kernel
theorem dX6_grey_27 : decode cX6_grey 27 = .ok (.if_icmp .gt 70, 3) := by decide +kernel
theorem dX6_grey_30 : decode cX6_grey 30 = .ok (.aload_n 0, 1) := by decide +kernel
theorem dX6_grey_31 : decode cX6_grey 31 = .ok (.getfield 33, 3) := by decide +kernel
theorem dX6_grey_34 : decode cX6_grey 34 = .ok (.aload_n 0, 1) := by decide +kernel
theorem dX6_grey_35 : decode cX6_grey 35 = .ok (.getfield 19, 3) := by decide +kernel
theorem dX6_grey_38 : decode cX6_grey 38 = .ok (.invokevirtual 171, 3) := by decide +kernel
theorem dX6_grey_41 : decode cX6_grey 41 = .ok (.aload_n 0, 1) := by decide +kernel
theorem dX6_grey_42 : decode cX6_grey 42 = .ok (.getfield 33, 3) := by decide +kernel
theorem dX6_grey_45 : decode cX6_grey 45 = .ok (.aload_n 0, 1) := by decide +kernel
theorem dX6_grey_46 : decode cX6_grey 46 = .ok (.getfield 19, 3) := by decide +kernel
theorem dX6_grey_49 : decode cX6_grey 49 = .ok (.invokevirtual 174, 3) := by decide +kernel
theorem dX6_grey_52 : decode cX6_grey 52 = .ok (.aload_n 0, 1) := by decide +kernel
theorem dX6_grey_53 : decode cX6_grey 53 = .ok (.getfield 33, 3) := by decide +kernel
theorem dX6_grey_56 : decode cX6_grey 56 = .ok (.aload_n 0, 1) := by decide +kernel
theorem dX6_grey_57 : decode cX6_grey 57 = .ok (.getfield 19, 3) := by decide +kernel
theorem dX6_grey_60 : decode cX6_grey 60 = .ok (.invokevirtual 177, 3) := by decide +kernel
theorem dX6_grey_63 : decode cX6_grey 63 = .ok (.istore_n 3, 1) := by decide +kernel
theorem dX6_grey_64 : decode cX6_grey 64 = .ok (.iload_n 3, 1) := by decide +kernel
theorem dX6_grey_65 : decode cX6_grey 65 = .ok (.bipush (-4), 2) := by decide +kernel
theorem dX6_grey_67 : decode cX6_grey 67 = .ok (.if_icmp .eq 13, 3) := by decide +kernel
theorem dX6_grey_70 : decode cX6_grey 70 = .ok (.iload_n 1, 1) := by decide +kernel
theorem dX6_grey_71 : decode cX6_grey 71 = .ok (.ifCond .ne 7, 3) := by decide +kernel
theorem dX6_grey_74 : decode cX6_grey 74 = .ok (.iload_n 3, 1) := by decide +kernel
theorem dX6_grey_75 : decode cX6_grey 75 = .ok (.goto 4, 3) := by decide +kernel
theorem dX6_grey_78 : decode cX6_grey 78 = .ok (.iload_n 2, 1) := by decide +kernel
theorem dX6_grey_79 : decode cX6_grey 79 = .ok (.ireturn, 1) := by decide +kernel
theorem dX6_grey_80 : decode cX6_grey 80 = .ok (.aload_n 0, 1) := by decide +kernel
theorem dX6_grey_81 : decode cX6_grey 81 = .ok (.getfield 33, 3) := by decide +kernel
theorem dX6_grey_84 : decode cX6_grey 84 = .ok (.aload_n 0, 1) := by decide +kernel
theorem dX6_grey_85 : decode cX6_grey 85 = .ok (.getfield 19, 3) := by decide +kernel
theorem dX6_grey_88 : decode cX6_grey 88 = .ok (.invokevirtual 180, 3) := by decide +kernel
theorem dX6_grey_91 : decode cX6_grey 91 = .ok (.iinc 2 1, 3) := by decide +kernel
theorem dX6_grey_94 : decode cX6_grey 94 = .ok (.goto (-70), 3) := by decide +kernel
theorem dX6_grey_97 : decode cX6_grey 97 = .ok (.bipush (-4), 2) := by decide +kernel
theorem dX6_grey_99 : decode cX6_grey 99 = .ok (.ireturn, 1) := by decide +kernel
theorem dX6_best_0 : decode cX6_best 0 = .ok (.aload_n 0, 1) := by decide +kernel
theorem dX6_best_1 : decode cX6_best 1 = .ok (.iload_n 1, 1) := by decide +kernel
theorem dX6_best_2 : decode cX6_best 2 = .ok (.invokevirtual 104, 3) := by decide +kernel
theorem dX6_best_5 : decode cX6_best 5 = .ok (.ifCond .eq 19, 3) := by decide +kernel
theorem dX6_best_8 : decode cX6_best 8 = .ok (.iload_n 2, 1) := by decide +kernel
theorem dX6_best_9 : decode cX6_best 9 = .ok (.iconst (-1), 1) := by decide +kernel
theorem dX6_best_10 : decode cX6_best 10 = .ok (.if_icmp .lt 14, 3) := by decide +kernel
theorem dX6_best_13 : decode cX6_best 13 = .ok (.iload_n 2, 1) := by decide +kernel
theorem dX6_best_14 : decode cX6_best 14 = .ok (.aload_n 0, 1) := by decide +kernel
theorem dX6_best_15 : decode cX6_best 15 = .ok (.getfield 19, 3) := by decide +kernel
theorem dX6_best_18 : decode cX6_best 18 = .ok (.getfield 183, 3) := by decide +kernel
theorem dX6_best_21 : decode cX6_best 21 = .ok (.if_icmp .lt 5, 3) := by decide +kernel
theorem dX6_best_24 : decode cX6_best 24 = .ok (.iconst (-1), 1) := by decide +kernel
theorem dX6_best_25 : decode cX6_best 25 = .ok (.ireturn, 1) := by decide +kernel
theorem dX6_best_26 : decode cX6_best 26 = .ok (.aload_n 0, 1) := by decide +kernel
theorem dX6_best_27 : decode cX6_best 27 = .ok (.getfield 51, 3) := by decide +kernel
theorem dX6_best_30 : decode cX6_best 30 = .ok (.aload_n 0, 1) := by decide +kernel
theorem dX6_best_31 : decode cX6_best 31 = .ok (.getfield 19, 3) := by decide +kernel
theorem dX6_best_34 : decode cX6_best 34 = .ok (.iload_n 1, 1) := by decide +kernel
theorem dX6_best_35 : decode cX6_best 35 = .ok (.aload_n 0, 1) := by decide +kernel
theorem dX6_best_36 : decode cX6_best 36 = .ok (.getfield 29, 3) := by decide +kernel
theorem dX6_best_39 : decode cX6_best 39 = .ok (.invokevirtual 186, 3) := by decide +kernel
theorem dX6_best_42 : decode cX6_best 42 = .ok (.iload_n 2, 1) := by decide +kernel
theorem dX6_best_43 : decode cX6_best 43 = .ok (.ifCond .ge 13, 3) := by decide +kernel
theorem dX6_best_46 : decode cX6_best 46 = .ok (.aload_n 0, 1) := by decide +kernel
theorem dX6_best_47 : decode cX6_best 47 = .ok (.getfield 51, 3) := by decide +kernel
theorem dX6_best_50 : decode cX6_best 50 = .ok (.getfield 190, 3) := by decide +kernel
theorem dX6_best_53 : decode cX6_best 53 = .ok (.goto 12, 3) := by decide +kernel
theorem dX6_best_56 : decode cX6_best 56 = .ok (.aload_n 0, 1) := by decide +kernel
theorem dX6_best_57 : decode cX6_best 57 = .ok (.getfield 51, 3) := by decide +kernel
theorem dX6_best_60 : decode cX6_best 60 = .ok (.getfield 193, 3) := by decide +kernel
theorem dX6_best_63 : decode cX6_best 63 = .ok (.iload_n 2, 1) := by decide +kernel
theorem dX6_best_64 : decode cX6_best 64 = .ok (.iaload, 1) := by decide +kernel
theorem dX6_best_65 : decode cX6_best 65 = .ok (.ireturn, 1) := by decide +kernel
theorem dX6_lending_0 : decode cX6_lending 0 = .ok (.iconst 0, 1) := by decide +kernel
theorem dX6_lending_1 : decode cX6_lending 1 = .ok (.istore_n 1, 1) := by decide +kernel
theorem dX6_lending_2 : decode cX6_lending 2 = .ok (.iconst 0, 1) := by decide +kernel
theorem dX6_lending_3 : decode cX6_lending 3 = .ok (.istore_n 2, 1) := by decide +kernel
theorem dX6_lending_4 : decode cX6_lending 4 = .ok (.iload_n 2, 1) := by decide +kernel
theorem dX6_lending_5 : decode cX6_lending 5 = .ok (.iconst 3, 1) := by decide +kernel
theorem dX6_lending_6 : decode cX6_lending 6 = .ok (.if_icmp .ge 83, 3) := by decide +kernel
theorem dX6_lending_9 : decode cX6_lending 9 = .ok (.iconst 0, 1) := by decide +kernel
theorem dX6_lending_10 : decode cX6_lending 10 = .ok (.istore_n 3, 1) := by decide +kernel
theorem dX6_lending_11 : decode cX6_lending 11 = .ok (.iconst 0, 1) := by decide +kernel
theorem dX6_lending_12 : decode cX6_lending 12 = .ok (.istore 4, 2) := by decide +kernel
theorem dX6_lending_14 : decode cX6_lending 14 = .ok (.iload 4, 2) := by decide +kernel
theorem dX6_lending_16 : decode cX6_lending 16 = .ok (.aload_n 0, 1) := by decide +kernel
theorem dX6_lending_17 : decode cX6_lending 17 = .ok (.getfield 19, 3) := by decide +kernel
theorem dX6_lending_20 : decode cX6_lending 20 = .ok (.getfield 97, 3) := by decide +kernel
theorem dX6_lending_23 : decode cX6_lending 23 = .ok (.if_icmp .ge 53, 3) := by decide +kernel
theorem dX6_lending_26 : decode cX6_lending 26 = .ok (.aload_n 0, 1) := by decide +kernel
theorem dX6_lending_27 : decode cX6_lending 27 = .ok (.getfield 29, 3) := by decide +kernel
theorem dX6_lending_30 : decode cX6_lending 30 = .ok (.getfield 120, 3) := by decide +kernel
theorem dX6_lending_33 : decode cX6_lending 33 = .ok (.iload 4, 2) := by decide +kernel
theorem dX6_lending_35 : decode cX6_lending 35 = .ok (.iconst 3, 1) := by decide +kernel
theorem dX6_lending_36 : decode cX6_lending 36 = .ok (.imul, 1) := by decide +kernel
theorem dX6_lending_37 : decode cX6_lending 37 = .ok (.iload_n 2, 1) := by decide +kernel
theorem dX6_lending_38 : decode cX6_lending 38 = .ok (.iadd, 1) := by decide +kernel
theorem dX6_lending_39 : decode cX6_lending 39 = .ok (.iaload, 1) := by decide +kernel
theorem dX6_lending_40 : decode cX6_lending 40 = .ok (.aload_n 0, 1) := by decide +kernel
end
section
theorem dX6_lending_41 : decode cX6_lending 41 = .ok (.iload 4, 2) := by decide +kernel
theorem dX6_lending_43 : decode cX6_lending 43 = .ok (.iload_n 2, 1) := by decide +kernel
theorem dX6_lending_44 : decode cX6_lending 44 = .ok (.invokevirtual 196, 3) := by decide +kernel
theorem dX6_lending_47 : decode cX6_lending 47 = .ok (.isub, 1) := by decide +kernel
theorem dX6_lending_48 : decode cX6_lending 48 = .ok (.istore 5, 2) := by decide +kernel
theorem dX6_lending_50 : decode cX6_lending 50 = .ok (.iload_n 3, 1) := by decide +kernel
theorem dX6_lending_51 : decode cX6_lending 51 = .ok (.iload 5, 2) := by decide +kernel
theorem dX6_lending_53 : decode cX6_lending 53 = .ok (.iadd, 1) := by decide +kernel
theorem dX6_lending_54 : decode cX6_lending 54 = .ok (.istore_n 3, 1) := by decide +kernel
theorem dX6_lending_55 : decode cX6_lending 55 = .ok (.iload_n 1, 1) := by decide +kernel
theorem dX6_lending_56 : decode cX6_lending 56 = .ok (.iload 5, 2) := by decide +kernel
theorem dX6_lending_58 : decode cX6_lending 58 = .ok (.ifCond .ge 9, 3) := by decide +kernel
theorem dX6_lending_61 : decode cX6_lending 61 = .ok (.iload 5, 2) := by decide +kernel
theorem dX6_lending_63 : decode cX6_lending 63 = .ok (.ineg, 1) := by decide +kernel
theorem dX6_lending_64 : decode cX6_lending 64 = .ok (.goto 4, 3) := by decide +kernel
theorem dX6_lending_67 : decode cX6_lending 67 = .ok (.iconst 0, 1) := by decide +kernel
theorem dX6_lending_68 : decode cX6_lending 68 = .ok (.iadd, 1) := by decide +kernel
theorem dX6_lending_69 : decode cX6_lending 69 = .ok (.istore_n 1, 1) := by decide +kernel
theorem dX6_lending_70 : decode cX6_lending 70 = .ok (.iinc 4 1, 3) := by decide +kernel
theorem dX6_lending_73 : decode cX6_lending 73 = .ok (.goto (-59), 3) := by decide +kernel
theorem dX6_lending_76 : decode cX6_lending 76 = .ok (.iload_n 3, 1) := by decide +kernel
theorem dX6_lending_77 : decode cX6_lending 77 = .ok (.ifCond .ge 6, 3) := by decide +kernel
theorem dX6_lending_80 : decode cX6_lending 80 = .ok (.bipush (-4), 2) := by decide +kernel
theorem dX6_lending_82 : decode cX6_lending 82 = .ok (.ireturn, 1) := by decide +kernel
theorem dX6_lending_83 : decode cX6_lending 83 = .ok (.iinc 2 1, 3) := by decide +kernel
theorem dX6_lending_86 : decode cX6_lending 86 = .ok (.goto (-82), 3) := by decide +kernel
theorem dX6_lending_89 : decode cX6_lending 89 = .ok (.iload_n 1, 1) := by decide +kernel
theorem dX6_lending_90 : decode cX6_lending 90 = .ok (.ireturn, 1) := by decide +kernel
theorem dX6_heap_0 : decode cX6_heap 0 = .ok (.iload_n 1, 1) := by decide +kernel
theorem dX6_heap_1 : decode cX6_heap 1 = .ok (.iconst 0, 1) := by decide +kernel
theorem dX6_heap_2 : decode cX6_heap 2 = .ok (.bipush 99, 2) := by decide +kernel
theorem dX6_heap_4 : decode cX6_heap 4 = .ok (.invokestatic 93, 3) := by decide +kernel
theorem dX6_heap_7 : decode cX6_heap 7 = .ok (.ifCond .eq 23, 3) := by decide +kernel
theorem dX6_heap_10 : decode cX6_heap 10 = .ok (.iload_n 2, 1) := by decide +kernel
theorem dX6_heap_11 : decode cX6_heap 11 = .ok (.iconst 0, 1) := by decide +kernel
theorem dX6_heap_12 : decode cX6_heap 12 = .ok (.bipush 99, 2) := by decide +kernel
theorem dX6_heap_14 : decode cX6_heap 14 = .ok (.invokestatic 93, 3) := by decide +kernel
theorem dX6_heap_17 : decode cX6_heap 17 = .ok (.ifCond .eq 13, 3) := by decide +kernel
theorem dX6_heap_20 : decode cX6_heap 20 = .ok (.iload_n 3, 1) := by decide +kernel
theorem dX6_heap_21 : decode cX6_heap 21 = .ok (.iconst 0, 1) := by decide +kernel
theorem dX6_heap_22 : decode cX6_heap 22 = .ok (.bipush 99, 2) := by decide +kernel
theorem dX6_heap_24 : decode cX6_heap 24 = .ok (.invokestatic 93, 3) := by decide +kernel
theorem dX6_heap_27 : decode cX6_heap 27 = .ok (.ifCond .ne 5, 3) := by decide +kernel
theorem dX6_heap_30 : decode cX6_heap 30 = .ok (.iconst (-1), 1) := by decide +kernel
theorem dX6_heap_31 : decode cX6_heap 31 = .ok (.ireturn, 1) := by decide +kernel
theorem dX6_heap_32 : decode cX6_heap 32 = .ok (.bipush (-4), 2) := by decide +kernel
theorem dX6_heap_34 : decode cX6_heap 34 = .ok (.istore 4, 2) := by decide +kernel
theorem dX6_heap_36 : decode cX6_heap 36 = .ok (.bipush 7, 2) := by decide +kernel
theorem dX6_heap_38 : decode cX6_heap 38 = .ok (.istore 5, 2) := by decide +kernel
theorem dX6_heap_40 : decode cX6_heap 40 = .ok (.iconst 0, 1) := by decide +kernel
theorem dX6_heap_41 : decode cX6_heap 41 = .ok (.istore 6, 2) := by decide +kernel
theorem dX6_heap_43 : decode cX6_heap 43 = .ok (.iload 6, 2) := by decide +kernel
theorem dX6_heap_45 : decode cX6_heap 45 = .ok (.iconst 1, 1) := by decide +kernel
theorem dX6_heap_46 : decode cX6_heap 46 = .ok (.aload_n 0, 1) := by decide +kernel
theorem dX6_heap_47 : decode cX6_heap 47 = .ok (.getfield 19, 3) := by decide +kernel
theorem dX6_heap_50 : decode cX6_heap 50 = .ok (.getfield 97, 3) := by decide +kernel
theorem dX6_heap_53 : decode cX6_heap 53 = .ok (.ishl, 1) := by decide +kernel
theorem dX6_heap_54 : decode cX6_heap 54 = .ok (.if_icmp .ge 64, 3) := by decide +kernel
theorem dX6_heap_57 : decode cX6_heap 57 = .ok (.iload 6, 2) := by decide +kernel
theorem dX6_heap_59 : decode cX6_heap 59 = .ok (.invokestatic 200, 3) := by decide +kernel
theorem dX6_heap_62 : decode cX6_heap 62 = .ok (.istore 7, 2) := by decide +kernel
theorem dX6_heap_64 : decode cX6_heap 64 = .ok (.iload 7, 2) := by decide +kernel
theorem dX6_heap_66 : decode cX6_heap 66 = .ok (.iload 5, 2) := by decide +kernel
theorem dX6_heap_68 : decode cX6_heap 68 = .ok (.if_icmp .ge 44, 3) := by decide +kernel
theorem dX6_heap_71 : decode cX6_heap 71 = .ok (.aload_n 0, 1) := by decide +kernel
theorem dX6_heap_72 : decode cX6_heap 72 = .ok (.iload 6, 2) := by decide +kernel
theorem dX6_heap_74 : decode cX6_heap 74 = .ok (.iconst 0, 1) := by decide +kernel
theorem dX6_heap_75 : decode cX6_heap 75 = .ok (.invokevirtual 205, 3) := by decide +kernel
theorem dX6_heap_78 : decode cX6_heap 78 = .ok (.iload_n 1, 1) := by decide +kernel
theorem dX6_heap_79 : decode cX6_heap 79 = .ok (.if_icmp .lt 33, 3) := by decide +kernel
theorem dX6_heap_82 : decode cX6_heap 82 = .ok (.aload_n 0, 1) := by decide +kernel
theorem dX6_heap_83 : decode cX6_heap 83 = .ok (.iload 6, 2) := by decide +kernel
theorem dX6_heap_85 : decode cX6_heap 85 = .ok (.iconst 1, 1) := by decide +kernel
theorem dX6_heap_86 : decode cX6_heap 86 = .ok (.invokevirtual 205, 3) := by decide +kernel
theorem dX6_heap_89 : decode cX6_heap 89 = .ok (.iload_n 2, 1) := by decide +kernel
theorem dX6_heap_90 : decode cX6_heap 90 = .ok (.if_icmp .lt 22, 3) := by decide +kernel
theorem dX6_heap_93 : decode cX6_heap 93 = .ok (.aload_n 0, 1) := by decide +kernel
theorem dX6_heap_94 : decode cX6_heap 94 = .ok (.iload 6, 2) := by decide +kernel
theorem dX6_heap_96 : decode cX6_heap 96 = .ok (.iconst 2, 1) := by decide +kernel
theorem dX6_heap_97 : decode cX6_heap 97 = .ok (.invokevirtual 205, 3) := by decide +kernel
theorem dX6_heap_100 : decode cX6_heap 100 = .ok (.iload_n 3, 1) := by decide +kernel
theorem dX6_heap_101 : decode cX6_heap 101 = .ok (.if_icmp .lt 11, 3) := by decide +kernel
theorem dX6_heap_104 : decode cX6_heap 104 = .ok (.iload 6, 2) := by decide +kernel
theorem dX6_heap_106 : decode cX6_heap 106 = .ok (.istore 4, 2) := by decide +kernel
theorem dX6_heap_108 : decode cX6_heap 108 = .ok (.iload 7, 2) := by decide +kernel
theorem dX6_heap_110 : decode cX6_heap 110 = .ok (.istore 5, 2) := by decide +kernel
theorem dX6_heap_112 : decode cX6_heap 112 = .ok (.iinc 6 1, 3) := by decide +kernel
theorem dX6_heap_115 : decode cX6_heap 115 = .ok (.goto (-72), 3) := by decide +kernel
theorem dX6_heap_118 : decode cX6_heap 118 = .ok (.iload 4, 2) := by decide +kernel
theorem dX6_heap_120 : decode cX6_heap 120 = .ok (.ireturn, 1) := by decide +kernel
theorem dX6_seen_0 : decode cX6_seen 0 = .ok (.aload_n 0, 1) := by decide +kernel
theorem dX6_seen_1 : decode cX6_seen 1 = .ok (.iload_n 1, 1) := by decide +kernel
theorem dX6_seen_2 : decode cX6_seen 2 = .ok (.invokevirtual 104, 3) := by decide +kernel
theorem dX6_seen_5 : decode cX6_seen 5 = .ok (.ifCond .eq 22, 3) := by decide +kernel
theorem dX6_seen_8 : decode cX6_seen 8 = .ok (.iload_n 2, 1) := by decide +kernel
theorem dX6_seen_9 : decode cX6_seen 9 = .ok (.iconst 1, 1) := by decide +kernel
theorem dX6_seen_10 : decode cX6_seen 10 = .ok (.iconst 4, 1) := by decide +kernel
theorem dX6_seen_11 : decode cX6_seen 11 = .ok (.invokestatic 93, 3) := by decide +kernel
theorem dX6_seen_14 : decode cX6_seen 14 = .ok (.ifCond .eq 13, 3) := by decide +kernel
theorem dX6_seen_17 : decode cX6_seen 17 = .ok (.iload_n 3, 1) := by decide +kernel
theorem dX6_seen_18 : decode cX6_seen 18 = .ok (.iconst 0, 1) := by decide +kernel
theorem dX6_seen_19 : decode cX6_seen 19 = .ok (.bipush 7, 2) := by decide +kernel
theorem dX6_seen_21 : decode cX6_seen 21 = .ok (.invokestatic 93, 3) := by decide +kernel
theorem dX6_seen_24 : decode cX6_seen 24 = .ok (.ifCond .ne 5, 3) := by decide +kernel
theorem dX6_seen_27 : decode cX6_seen 27 = .ok (.iconst (-1), 1) := by decide +kernel
theorem dX6_seen_28 : decode cX6_seen 28 = .ok (.ireturn, 1) := by decide +kernel
theorem dX6_seen_29 : decode cX6_seen 29 = .ok (.aload_n 0, 1) := by decide +kernel
theorem dX6_seen_30 : decode cX6_seen 30 = .ok (.getfield 58, 3) := by decide +kernel
theorem dX6_seen_33 : decode cX6_seen 33 = .ok (.iload_n 1, 1) := by decide +kernel
theorem dX6_seen_34 : decode cX6_seen 34 = .ok (.iload_n 2, 1) := by decide +kernel
theorem dX6_seen_35 : decode cX6_seen 35 = .ok (.iload_n 3, 1) := by decide +kernel
theorem dX6_seen_36 : decode cX6_seen 36 = .ok (.invokevirtual 208, 3) := by decide +kernel
theorem dX6_seen_39 : decode cX6_seen 39 = .ok (.ifCond .eq 13, 3) := by decide +kernel
theorem dX6_seen_42 : decode cX6_seen 42 = .ok (.aload_n 0, 1) := by decide +kernel
theorem dX6_seen_43 : decode cX6_seen 43 = .ok (.getfield 58, 3) := by decide +kernel
theorem dX6_seen_46 : decode cX6_seen 46 = .ok (.getfield 103, 3) := by decide +kernel
theorem dX6_seen_49 : decode cX6_seen 49 = .ok (.goto 5, 3) := by decide +kernel
theorem dX6_seen_52 : decode cX6_seen 52 = .ok (.bipush (-3), 2) := by decide +kernel
theorem dX6_seen_54 : decode cX6_seen 54 = .ok (.ireturn, 1) := by decide +kernel
theorem dX6_forget_0 : decode cX6_forget 0 = .ok (.aload_n 0, 1) := by decide +kernel
theorem dX6_forget_1 : decode cX6_forget 1 = .ok (.getfield 58, 3) := by decide +kernel
theorem dX6_forget_4 : decode cX6_forget 4 = .ok (.getfield 103, 3) := by decide +kernel
theorem dX6_forget_7 : decode cX6_forget 7 = .ok (.istore_n 1, 1) := by decide +kernel
theorem dX6_forget_8 : decode cX6_forget 8 = .ok (.aload_n 0, 1) := by decide +kernel
theorem dX6_forget_9 : decode cX6_forget 9 = .ok (.getfield 58, 3) := by decide +kernel
theorem dX6_forget_12 : decode cX6_forget 12 = .ok (.iconst 0, 1) := by decide +kernel
theorem dX6_forget_13 : decode cX6_forget 13 = .ok (.putfield 103, 3) := by decide +kernel
theorem dX6_forget_16 : decode cX6_forget 16 = .ok (.iload_n 1, 1) := by decide +kernel
theorem dX6_forget_17 : decode cX6_forget 17 = .ok (.ireturn, 1) := by decide +kernel
theorem dX6_spent_0 : decode cX6_spent 0 = .ok (.aload_n 0, 1) := by decide +kernel
theorem dX6_spent_1 : decode cX6_spent 1 = .ok (.iload_n 1, 1) := by decide +kernel
theorem dX6_spent_2 : decode cX6_spent 2 = .ok (.invokevirtual 104, 3) := by decide +kernel
theorem dX6_spent_5 : decode cX6_spent 5 = .ok (.ifCond .eq 19, 3) := by decide +kernel
theorem dX6_spent_8 : decode cX6_spent 8 = .ok (.iload_n 2, 1) := by decide +kernel
theorem dX6_spent_9 : decode cX6_spent 9 = .ok (.ifCond .lt 15, 3) := by decide +kernel
theorem dX6_spent_12 : decode cX6_spent 12 = .ok (.iload_n 2, 1) := by decide +kernel
theorem dX6_spent_13 : decode cX6_spent 13 = .ok (.aload_n 0, 1) := by decide +kernel
theorem dX6_spent_14 : decode cX6_spent 14 = .ok (.getfield 58, 3) := by decide +kernel
theorem dX6_spent_17 : decode cX6_spent 17 = .ok (.iload_n 1, 1) := by decide +kernel
theorem dX6_spent_18 : decode cX6_spent 18 = .ok (.invokevirtual 210, 3) := by decide +kernel
theorem dX6_spent_21 : decode cX6_spent 21 = .ok (.if_icmp .le 5, 3) := by decide +kernel
theorem dX6_spent_24 : decode cX6_spent 24 = .ok (.iconst (-1), 1) := by decide +kernel
theorem dX6_spent_25 : decode cX6_spent 25 = .ok (.ireturn, 1) := by decide +kernel
theorem dX6_spent_26 : decode cX6_spent 26 = .ok (.aload_n 0, 1) := by decide +kernel
theorem dX6_spent_27 : decode cX6_spent 27 = .ok (.getfield 58, 3) := by decide +kernel
theorem dX6_spent_30 : decode cX6_spent 30 = .ok (.aload_n 0, 1) := by decide +kernel
theorem dX6_spent_31 : decode cX6_spent 31 = .ok (.getfield 19, 3) := by decide +kernel
theorem dX6_spent_34 : decode cX6_spent 34 = .ok (.iload_n 1, 1) := by decide +kernel
theorem dX6_spent_35 : decode cX6_spent 35 = .ok (.aload_n 0, 1) := by decide +kernel
theorem dX6_spent_36 : decode cX6_spent 36 = .ok (.getfield 29, 3) := by decide +kernel
theorem dX6_spent_39 : decode cX6_spent 39 = .ok (.invokevirtual 213, 3) := by decide +kernel
theorem dX6_spent_42 : decode cX6_spent 42 = .ok (.iload_n 2, 1) := by decide +kernel
theorem dX6_spent_43 : decode cX6_spent 43 = .ok (.ifCond .ne 11, 3) := by decide +kernel
theorem dX6_spent_46 : decode cX6_spent 46 = .ok (.aload_n 0, 1) := by decide +kernel
theorem dX6_spent_47 : decode cX6_spent 47 = .ok (.getfield 58, 3) := by decide +kernel
theorem dX6_spent_50 : decode cX6_spent 50 = .ok (.getfield 216, 3) := by decide +kernel
theorem dX6_spent_53 : decode cX6_spent 53 = .ok (.ireturn, 1) := by decide +kernel
theorem dX6_spent_54 : decode cX6_spent 54 = .ok (.aload_n 0, 1) := by decide +kernel
theorem dX6_spent_55 : decode cX6_spent 55 = .ok (.getfield 58, 3) := by decide +kernel
theorem dX6_spent_58 : decode cX6_spent 58 = .ok (.getfield 216, 3) := by decide +kernel
theorem dX6_spent_61 : decode cX6_spent 61 = .ok (.ifCond .ne 8, 3) := by decide +kernel
theorem dX6_spent_64 : decode cX6_spent 64 = .ok (.bipush (-4), 2) := by decide +kernel
theorem dX6_spent_66 : decode cX6_spent 66 = .ok (.goto 14, 3) := by decide +kernel
theorem dX6_spent_69 : decode cX6_spent 69 = .ok (.aload_n 0, 1) := by decide +kernel
theorem dX6_spent_70 : decode cX6_spent 70 = .ok (.getfield 58, 3) := by decide +kernel
theorem dX6_spent_73 : decode cX6_spent 73 = .ok (.getfield 219, 3) := by decide +kernel
theorem dX6_spent_76 : decode cX6_spent 76 = .ok (.iload_n 2, 1) := by decide +kernel
theorem dX6_spent_77 : decode cX6_spent 77 = .ok (.iconst 1, 1) := by decide +kernel
theorem dX6_spent_78 : decode cX6_spent 78 = .ok (.isub, 1) := by decide +kernel
theorem dX6_spent_79 : decode cX6_spent 79 = .ok (.iaload, 1) := by decide +kernel
theorem dX6_spent_80 : decode cX6_spent 80 = .ok (.ireturn, 1) := by decide +kernel
theorem dX6_saved_0 : decode cX6_saved 0 = .ok (.aload_n 0, 1) := by decide +kernel
theorem dX6_saved_1 : decode cX6_saved 1 = .ok (.iload_n 1, 1) := by decide +kernel
theorem dX6_saved_2 : decode cX6_saved 2 = .ok (.invokevirtual 104, 3) := by decide +kernel
theorem dX6_saved_5 : decode cX6_saved 5 = .ok (.ifCond .eq 20, 3) := by decide +kernel
theorem dX6_saved_8 : decode cX6_saved 8 = .ok (.iload_n 2, 1) := by decide +kernel
theorem dX6_saved_9 : decode cX6_saved 9 = .ok (.invokestatic 154, 3) := by decide +kernel
theorem dX6_saved_12 : decode cX6_saved 12 = .ok (.ifCond .eq 13, 3) := by decide +kernel
theorem dX6_saved_15 : decode cX6_saved 15 = .ok (.iload_n 3, 1) := by decide +kernel
theorem dX6_saved_16 : decode cX6_saved 16 = .ok (.iconst 0, 1) := by decide +kernel
theorem dX6_saved_17 : decode cX6_saved 17 = .ok (.bipush 99, 2) := by decide +kernel
theorem dX6_saved_19 : decode cX6_saved 19 = .ok (.invokestatic 93, 3) := by decide +kernel
theorem dX6_saved_22 : decode cX6_saved 22 = .ok (.ifCond .ne 5, 3) := by decide +kernel
theorem dX6_saved_25 : decode cX6_saved 25 = .ok (.iconst (-1), 1) := by decide +kernel
theorem dX6_saved_26 : decode cX6_saved 26 = .ok (.ireturn, 1) := by decide +kernel
theorem dX6_saved_27 : decode cX6_saved 27 = .ok (.aload_n 0, 1) := by decide +kernel
theorem dX6_saved_28 : decode cX6_saved 28 = .ok (.getfield 29, 3) := by decide +kernel
theorem dX6_saved_31 : decode cX6_saved 31 = .ok (.getfield 120, 3) := by decide +kernel
theorem dX6_saved_34 : decode cX6_saved 34 = .ok (.iload_n 1, 1) := by decide +kernel
theorem dX6_saved_35 : decode cX6_saved 35 = .ok (.iconst 3, 1) := by decide +kernel
theorem dX6_saved_36 : decode cX6_saved 36 = .ok (.imul, 1) := by decide +kernel
theorem dX6_saved_37 : decode cX6_saved 37 = .ok (.aload_n 0, 1) := by decide +kernel
theorem dX6_saved_38 : decode cX6_saved 38 = .ok (.getfield 62, 3) := by decide +kernel
theorem dX6_saved_41 : decode cX6_saved 41 = .ok (.iconst 0, 1) := by decide +kernel
theorem dX6_saved_42 : decode cX6_saved 42 = .ok (.iconst 3, 1) := by decide +kernel
theorem dX6_saved_43 : decode cX6_saved 43 = .ok (.invokestatic 222, 3) := by decide +kernel
theorem dX6_saved_46 : decode cX6_saved 46 = .ok (.iconst 0, 1) := by decide +kernel
theorem dX6_saved_47 : decode cX6_saved 47 = .ok (.istore 4, 2) := by decide +kernel
theorem dX6_saved_49 : decode cX6_saved 49 = .ok (.iload 4, 2) := by decide +kernel
theorem dX6_saved_51 : decode cX6_saved 51 = .ok (.bipush 50, 2) := by decide +kernel
theorem dX6_saved_53 : decode cX6_saved 53 = .ok (.if_icmp .gt 35, 3) := by decide +kernel
theorem dX6_saved_56 : decode cX6_saved 56 = .ok (.aload_n 0, 1) := by decide +kernel
theorem dX6_saved_57 : decode cX6_saved 57 = .ok (.getfield 62, 3) := by decide +kernel
theorem dX6_saved_60 : decode cX6_saved 60 = .ok (.iload_n 2, 1) := by decide +kernel
theorem dX6_saved_61 : decode cX6_saved 61 = .ok (.iaload, 1) := by decide +kernel
theorem dX6_saved_62 : decode cX6_saved 62 = .ok (.iload_n 3, 1) := by decide +kernel
theorem dX6_saved_63 : decode cX6_saved 63 = .ok (.if_icmp .lt 6, 3) := by decide +kernel
theorem dX6_saved_66 : decode cX6_saved 66 = .ok (.iload 4, 2) := by decide +kernel
theorem dX6_saved_68 : decode cX6_saved 68 = .ok (.ireturn, 1) := by decide +kernel
theorem dX6_saved_69 : decode cX6_saved 69 = .ok (.aload_n 0, 1) := by decide +kernel
theorem dX6_saved_70 : decode cX6_saved 70 = .ok (.getfield 19, 3) := by decide +kernel
theorem dX6_saved_73 : decode cX6_saved 73 = .ok (.iload_n 1, 1) := by decide +kernel
theorem dX6_saved_74 : decode cX6_saved 74 = .ok (.aload_n 0, 1) := by decide +kernel
theorem dX6_saved_75 : decode cX6_saved 75 = .ok (.getfield 62, 3) := by decide +kernel
theorem dX6_saved_78 : decode cX6_saved 78 = .ok (.iconst 0, 1) := by decide +kernel
theorem dX6_saved_79 : decode cX6_saved 79 = .ok (.invokevirtual 228, 3) := by decide +kernel
theorem dX6_saved_82 : decode cX6_saved 82 = .ok (.iinc 4 1, 3) := by decide +kernel
theorem dX6_saved_85 : decode cX6_saved 85 = .ok (.goto (-36), 3) := by decide +kernel
theorem dX6_saved_88 : decode cX6_saved 88 = .ok (.bipush (-4), 2) := by decide +kernel
theorem dX6_saved_90 : decode cX6_saved 90 = .ok (.ireturn, 1) := by decide +kernel
theorem dX6_lasts_0 : decode cX6_lasts 0 = .ok (.aload_n 0, 1) := by decide +kernel
theorem dX6_lasts_1 : decode cX6_lasts 1 = .ok (.iload_n 1, 1) := by decide +kernel
theorem dX6_lasts_2 : decode cX6_lasts 2 = .ok (.invokevirtual 104, 3) := by decide +kernel
theorem dX6_lasts_5 : decode cX6_lasts 5 = .ok (.ifCond .eq 42, 3) := by decide +kernel
theorem dX6_lasts_8 : decode cX6_lasts 8 = .ok (.aload_n 0, 1) := by decide +kernel
theorem dX6_lasts_9 : decode cX6_lasts 9 = .ok (.iload_n 2, 1) := by decide +kernel
theorem dX6_lasts_10 : decode cX6_lasts 10 = .ok (.invokevirtual 123, 3) := by decide +kernel
theorem dX6_lasts_13 : decode cX6_lasts 13 = .ok (.ifCond .eq 34, 3) := by decide +kernel
theorem dX6_lasts_16 : decode cX6_lasts 16 = .ok (.iload_n 3, 1) := by decide +kernel
theorem dX6_lasts_17 : decode cX6_lasts 17 = .ok (.iconst 0, 1) := by decide +kernel
theorem dX6_lasts_18 : decode cX6_lasts 18 = .ok (.bipush 10, 2) := by decide +kernel
theorem dX6_lasts_20 : decode cX6_lasts 20 = .ok (.invokestatic 93, 3) := by decide +kernel
theorem dX6_lasts_23 : decode cX6_lasts 23 = .ok (.ifCond .eq 24, 3) := by decide +kernel
theorem dX6_lasts_26 : decode cX6_lasts 26 = .ok (.iload 4, 2) := by decide +kernel
theorem dX6_lasts_28 : decode cX6_lasts 28 = .ok (.iconst 0, 1) := by decide +kernel
theorem dX6_lasts_29 : decode cX6_lasts 29 = .ok (.bipush 7, 2) := by decide +kernel
theorem dX6_lasts_31 : decode cX6_lasts 31 = .ok (.invokestatic 93, 3) := by decide +kernel
theorem dX6_lasts_34 : decode cX6_lasts 34 = .ok (.ifCond .eq 13, 3) := by decide +kernel
theorem dX6_lasts_37 : decode cX6_lasts 37 = .ok (.iload 5, 2) := by decide +kernel
theorem dX6_lasts_39 : decode cX6_lasts 39 = .ok (.iconst 0, 1) := by decide +kernel
theorem dX6_lasts_40 : decode cX6_lasts 40 = .ok (.iconst 1, 1) := by decide +kernel
theorem dX6_lasts_41 : decode cX6_lasts 41 = .ok (.invokestatic 93, 3) := by decide +kernel
theorem dX6_lasts_44 : decode cX6_lasts 44 = .ok (.ifCond .ne 5, 3) := by decide +kernel
theorem dX6_lasts_47 : decode cX6_lasts 47 = .ok (.iconst (-1), 1) := by decide +kernel
theorem dX6_lasts_48 : decode cX6_lasts 48 = .ok (.ireturn, 1) := by decide +kernel
theorem dX6_lasts_49 : decode cX6_lasts 49 = .ok (.aload_n 0, 1) := by decide +kernel
theorem dX6_lasts_50 : decode cX6_lasts 50 = .ok (.iload_n 1, 1) := by decide +kernel
theorem dX6_lasts_51 : decode cX6_lasts 51 = .ok (.iload_n 2, 1) := by decide +kernel
theorem dX6_lasts_52 : decode cX6_lasts 52 = .ok (.iload 4, 2) := by decide +kernel
theorem dX6_lasts_54 : decode cX6_lasts 54 = .ok (.invokevirtual 232, 3) := by decide +kernel
theorem dX6_lasts_57 : decode cX6_lasts 57 = .ok (.istore 6, 2) := by decide +kernel
theorem dX6_lasts_59 : decode cX6_lasts 59 = .ok (.lconst 0, 1) := by decide +kernel
theorem dX6_lasts_60 : decode cX6_lasts 60 = .ok (.lstore 7, 2) := by decide +kernel
theorem dX6_lasts_62 : decode cX6_lasts 62 = .ok (.iconst 0, 1) := by decide +kernel
theorem dX6_lasts_63 : decode cX6_lasts 63 = .ok (.istore 9, 2) := by decide +kernel
theorem dX6_lasts_65 : decode cX6_lasts 65 = .ok (.iload 9, 2) := by decide +kernel
theorem dX6_lasts_67 : decode cX6_lasts 67 = .ok (.iload 6, 2) := by decide +kernel
theorem dX6_lasts_69 : decode cX6_lasts 69 = .ok (.if_icmp .gt 41, 3) := by decide +kernel
theorem dX6_lasts_72 : decode cX6_lasts 72 = .ok (.lload 7, 2) := by decide +kernel
theorem dX6_lasts_74 : decode cX6_lasts 74 = .ok (.iload 4, 2) := by decide +kernel
theorem dX6_lasts_76 : decode cX6_lasts 76 = .ok (.iload 9, 2) := by decide +kernel
theorem dX6_lasts_78 : decode cX6_lasts 78 = .ok (.invokestatic 236, 3) := by decide +kernel
theorem dX6_lasts_81 : decode cX6_lasts 81 = .ok (.iload_n 3, 1) := by decide +kernel
theorem dX6_lasts_82 : decode cX6_lasts 82 = .ok (.iload 9, 2) := by decide +kernel
theorem dX6_lasts_84 : decode cX6_lasts 84 = .ok (.invokestatic 239, 3) := by decide +kernel
theorem dX6_lasts_87 : decode cX6_lasts 87 = .ok (.lmul, 1) := by decide +kernel
theorem dX6_lasts_88 : decode cX6_lasts 88 = .ok (.bipush 10, 2) := by decide +kernel
theorem dX6_lasts_90 : decode cX6_lasts 90 = .ok (.iload_n 3, 1) := by decide +kernel
theorem dX6_lasts_91 : decode cX6_lasts 91 = .ok (.isub, 1) := by decide +kernel
theorem dX6_lasts_92 : decode cX6_lasts 92 = .ok (.iload 4, 2) := by decide +kernel
theorem dX6_lasts_94 : decode cX6_lasts 94 = .ok (.iload 9, 2) := by decide +kernel
theorem dX6_lasts_96 : decode cX6_lasts 96 = .ok (.isub, 1) := by decide +kernel
theorem dX6_lasts_97 : decode cX6_lasts 97 = .ok (.invokestatic 239, 3) := by decide +kernel
theorem dX6_lasts_100 : decode cX6_lasts 100 = .ok (.lmul, 1) := by decide +kernel
theorem dX6_lasts_101 : decode cX6_lasts 101 = .ok (.ladd, 1) := by decide +kernel
theorem dX6_lasts_102 : decode cX6_lasts 102 = .ok (.lstore 7, 2) := by decide +kernel
theorem dX6_lasts_104 : decode cX6_lasts 104 = .ok (.iinc 9 1, 3) := by decide +kernel
theorem dX6_lasts_107 : decode cX6_lasts 107 = .ok (.goto (-42), 3) := by decide +kernel
theorem dX6_lasts_110 : decode cX6_lasts 110 = .ok (.bipush 10, 2) := by decide +kernel
theorem dX6_lasts_112 : decode cX6_lasts 112 = .ok (.iload 4, 2) := by decide +kernel
theorem dX6_lasts_114 : decode cX6_lasts 114 = .ok (.invokestatic 239, 3) := by decide +kernel
theorem dX6_lasts_117 : decode cX6_lasts 117 = .ok (.lstore 9, 2) := by decide +kernel
theorem dX6_lasts_119 : decode cX6_lasts 119 = .ok (.iload 5, 2) := by decide +kernel
theorem dX6_lasts_121 : decode cX6_lasts 121 = .ok (.ifCond .ne 8, 3) := by decide +kernel
theorem dX6_lasts_124 : decode cX6_lasts 124 = .ok (.lload 7, 2) := by decide +kernel
theorem dX6_lasts_126 : decode cX6_lasts 126 = .ok (.goto 5, 3) := by decide +kernel
theorem dX6_lasts_129 : decode cX6_lasts 129 = .ok (.lload 9, 2) := by decide +kernel
theorem dX6_lasts_131 : decode cX6_lasts 131 = .ok (.lload 7, 2) := by decide +kernel
theorem dX6_lasts_133 : decode cX6_lasts 133 = .ok (.lload 9, 2) := by decide +kernel
theorem dX6_lasts_135 : decode cX6_lasts 135 = .ok (.invokestatic 242, 3) := by decide +kernel
theorem dX6_lasts_138 : decode cX6_lasts 138 = .ok (.ldiv, 1) := by decide +kernel
theorem dX6_lasts_139 : decode cX6_lasts 139 = .ok (.l2i, 1) := by decide +kernel
theorem dX6_lasts_140 : decode cX6_lasts 140 = .ok (.ireturn, 1) := by decide +kernel
theorem dX6_year_0 : decode cX6_year 0 = .ok (.iload_n 1, 1) := by decide +kernel
theorem dX6_year_1 : decode cX6_year 1 = .ok (.iconst 0, 1) := by decide +kernel
theorem dX6_year_2 : decode cX6_year 2 = .ok (.sipush 9999, 3) := by decide +kernel
theorem dX6_year_5 : decode cX6_year 5 = .ok (.invokestatic 93, 3) := by decide +kernel
theorem dX6_year_8 : decode cX6_year 8 = .ok (.ifCond .eq 22, 3) := by decide +kernel
theorem dX6_year_11 : decode cX6_year 11 = .ok (.iload_n 2, 1) := by decide +kernel
theorem dX6_year_12 : decode cX6_year 12 = .ok (.iconst 1, 1) := by decide +kernel
theorem dX6_year_13 : decode cX6_year 13 = .ok (.bipush 60, 2) := by decide +kernel
theorem dX6_year_15 : decode cX6_year 15 = .ok (.invokestatic 93, 3) := by decide +kernel
theorem dX6_year_18 : decode cX6_year 18 = .ok (.ifCond .eq 12, 3) := by decide +kernel
theorem dX6_year_21 : decode cX6_year 21 = .ok (.iload_n 3, 1) := by decide +kernel
theorem dX6_year_22 : decode cX6_year 22 = .ok (.iconst 0, 1) := by decide +kernel
theorem dX6_year_23 : decode cX6_year 23 = .ok (.iconst 1, 1) := by decide +kernel
theorem dX6_year_24 : decode cX6_year 24 = .ok (.invokestatic 93, 3) := by decide +kernel
theorem dX6_year_27 : decode cX6_year 27 = .ok (.ifCond .ne 5, 3) := by decide +kernel
theorem dX6_year_30 : decode cX6_year 30 = .ok (.iconst (-1), 1) := by decide +kernel
theorem dX6_year_31 : decode cX6_year 31 = .ok (.ireturn, 1) := by decide +kernel
theorem dX6_year_32 : decode cX6_year 32 = .ok (.aload_n 0, 1) := by decide +kernel
theorem dX6_year_33 : decode cX6_year 33 = .ok (.getfield 33, 3) := by decide +kernel
theorem dX6_year_36 : decode cX6_year 36 = .ok (.aload_n 0, 1) := by decide +kernel
theorem dX6_year_37 : decode cX6_year 37 = .ok (.getfield 29, 3) := by decide +kernel
theorem dX6_year_40 : decode cX6_year 40 = .ok (.invokevirtual 168, 3) := by decide +kernel
theorem dX6_year_43 : decode cX6_year 43 = .ok (.iconst 0, 1) := by decide +kernel
theorem dX6_year_44 : decode cX6_year 44 = .ok (.istore 4, 2) := by decide +kernel
theorem dX6_year_46 : decode cX6_year 46 = .ok (.iconst 0, 1) := by decide +kernel
theorem dX6_year_47 : decode cX6_year 47 = .ok (.istore 5, 2) := by decide +kernel
theorem dX6_year_49 : decode cX6_year 49 = .ok (.iload 5, 2) := by decide +kernel
theorem dX6_year_51 : decode cX6_year 51 = .ok (.iload_n 2, 1) := by decide +kernel
theorem dX6_year_52 : decode cX6_year 52 = .ok (.if_icmp .ge 61, 3) := by decide +kernel
theorem dX6_year_55 : decode cX6_year 55 = .ok (.aload_n 0, 1) := by decide +kernel
theorem dX6_year_56 : decode cX6_year 56 = .ok (.getfield 33, 3) := by decide +kernel
theorem dX6_year_59 : decode cX6_year 59 = .ok (.aload_n 0, 1) := by decide +kernel
theorem dX6_year_60 : decode cX6_year 60 = .ok (.getfield 19, 3) := by decide +kernel
theorem dX6_year_63 : decode cX6_year 63 = .ok (.iload_n 1, 1) := by decide +kernel
theorem dX6_year_64 : decode cX6_year 64 = .ok (.iload 5, 2) := by decide +kernel
theorem dX6_year_66 : decode cX6_year 66 = .ok (.invokevirtual 246, 3) := by decide +kernel
theorem dX6_year_69 : decode cX6_year 69 = .ok (.aload_n 0, 1) := by decide +kernel
theorem dX6_year_70 : decode cX6_year 70 = .ok (.getfield 33, 3) := by decide +kernel
theorem dX6_year_73 : decode cX6_year 73 = .ok (.aload_n 0, 1) := by decide +kernel
theorem dX6_year_74 : decode cX6_year 74 = .ok (.getfield 19, 3) := by decide +kernel
theorem dX6_year_77 : decode cX6_year 77 = .ok (.invokevirtual 174, 3) := by decide +kernel
theorem dX6_year_80 : decode cX6_year 80 = .ok (.iload 4, 2) := by decide +kernel
theorem dX6_year_82 : decode cX6_year 82 = .ok (.aload_n 0, 1) := by decide +kernel
theorem dX6_year_83 : decode cX6_year 83 = .ok (.getfield 33, 3) := by decide +kernel
theorem dX6_year_86 : decode cX6_year 86 = .ok (.aload_n 0, 1) := by decide +kernel
theorem dX6_year_87 : decode cX6_year 87 = .ok (.getfield 19, 3) := by decide +kernel
theorem dX6_year_90 : decode cX6_year 90 = .ok (.invokevirtual 250, 3) := by decide +kernel
theorem dX6_year_93 : decode cX6_year 93 = .ok (.iadd, 1) := by decide +kernel
theorem dX6_year_94 : decode cX6_year 94 = .ok (.istore 4, 2) := by decide +kernel
theorem dX6_year_96 : decode cX6_year 96 = .ok (.aload_n 0, 1) := by decide +kernel
theorem dX6_year_97 : decode cX6_year 97 = .ok (.getfield 33, 3) := by decide +kernel
theorem dX6_year_100 : decode cX6_year 100 = .ok (.aload_n 0, 1) := by decide +kernel
theorem dX6_year_101 : decode cX6_year 101 = .ok (.getfield 19, 3) := by decide +kernel
theorem dX6_year_104 : decode cX6_year 104 = .ok (.invokevirtual 180, 3) := by decide +kernel
theorem dX6_year_107 : decode cX6_year 107 = .ok (.iinc 5 1, 3) := by decide +kernel
theorem dX6_year_110 : decode cX6_year 110 = .ok (.goto (-61), 3) := by decide +kernel
theorem dX6_year_113 : decode cX6_year 113 = .ok (.iload_n 3, 1) := by decide +kernel
theorem dX6_year_114 : decode cX6_year 114 = .ok (.ifCond .ne 8, 3) := by decide +kernel
theorem dX6_year_117 : decode cX6_year 117 = .ok (.iload 4, 2) := by decide +kernel
theorem dX6_year_119 : decode cX6_year 119 = .ok (.goto 26, 3) := by decide +kernel
theorem dX6_year_122 : decode cX6_year 122 = .ok (.aload_n 0, 1) := by decide +kernel
theorem dX6_year_123 : decode cX6_year 123 = .ok (.getfield 33, 3) := by decide +kernel
theorem dX6_year_126 : decode cX6_year 126 = .ok (.aload_n 0, 1) := by decide +kernel
theorem dX6_year_127 : decode cX6_year 127 = .ok (.getfield 19, 3) := by decide +kernel
theorem dX6_year_130 : decode cX6_year 130 = .ok (.invokevirtual 253, 3) := by decide +kernel
theorem dX6_year_133 : decode cX6_year 133 = .ok (.aload_n 0, 1) := by decide +kernel
theorem dX6_year_134 : decode cX6_year 134 = .ok (.getfield 29, 3) := by decide +kernel
theorem dX6_year_137 : decode cX6_year 137 = .ok (.aload_n 0, 1) := by decide +kernel
theorem dX6_year_138 : decode cX6_year 138 = .ok (.getfield 19, 3) := by decide +kernel
theorem dX6_year_141 : decode cX6_year 141 = .ok (.invokevirtual 253, 3) := by decide +kernel
theorem dX6_year_144 : decode cX6_year 144 = .ok (.isub, 1) := by decide +kernel
theorem dX6_year_145 : decode cX6_year 145 = .ok (.ireturn, 1) := by decide +kernel
theorem dX6_keep_0 : decode cX6_keep 0 = .ok (.aload_n 0, 1) := by decide +kernel
theorem dX6_keep_1 : decode cX6_keep 1 = .ok (.getfield 45, 3) := by decide +kernel
theorem dX6_keep_4 : decode cX6_keep 4 = .ok (.getfield 100, 3) := by decide +kernel
theorem dX6_keep_7 : decode cX6_keep 7 = .ok (.iconst 2, 1) := by decide +kernel
theorem dX6_keep_8 : decode cX6_keep 8 = .ok (.if_icmp .lt 6, 3) := by decide +kernel
theorem dX6_keep_11 : decode cX6_keep 11 = .ok (.bipush (-3), 2) := by decide +kernel
theorem dX6_keep_13 : decode cX6_keep 13 = .ok (.ireturn, 1) := by decide +kernel
theorem dX6_keep_14 : decode cX6_keep 14 = .ok (.aload_n 0, 1) := by decide +kernel
theorem dX6_keep_15 : decode cX6_keep 15 = .ok (.getfield 45, 3) := by decide +kernel
theorem dX6_keep_18 : decode cX6_keep 18 = .ok (.aload_n 0, 1) := by decide +kernel
theorem dX6_keep_19 : decode cX6_keep 19 = .ok (.getfield 29, 3) := by decide +kernel
theorem dX6_keep_22 : decode cX6_keep 22 = .ok (.invokevirtual 139, 3) := by decide +kernel
theorem dX6_keep_25 : decode cX6_keep 25 = .ok (.aload_n 0, 1) := by decide +kernel
theorem dX6_keep_26 : decode cX6_keep 26 = .ok (.getfield 45, 3) := by decide +kernel
theorem dX6_keep_29 : decode cX6_keep 29 = .ok (.getfield 100, 3) := by decide +kernel
theorem dX6_keep_32 : decode cX6_keep 32 = .ok (.ireturn, 1) := by decide +kernel
theorem dX6_back_0 : decode cX6_back 0 = .ok (.aload_n 0, 1) := by decide +kernel
theorem dX6_back_1 : decode cX6_back 1 = .ok (.getfield 45, 3) := by decide +kernel
theorem dX6_back_4 : decode cX6_back 4 = .ok (.aload_n 0, 1) := by decide +kernel
theorem dX6_back_5 : decode cX6_back 5 = .ok (.getfield 29, 3) := by decide +kernel
theorem dX6_back_8 : decode cX6_back 8 = .ok (.invokevirtual 164, 3) := by decide +kernel
theorem dX6_back_11 : decode cX6_back 11 = .ok (.ifCond .ne 6, 3) := by decide +kernel
theorem dX6_back_14 : decode cX6_back 14 = .ok (.bipush (-2), 2) := by decide +kernel
theorem dX6_back_16 : decode cX6_back 16 = .ok (.ireturn, 1) := by decide +kernel
theorem dX6_back_17 : decode cX6_back 17 = .ok (.aload_n 0, 1) := by decide +kernel
theorem dX6_back_18 : decode cX6_back 18 = .ok (.getfield 41, 3) := by decide +kernel
theorem dX6_back_21 : decode cX6_back 21 = .ok (.iconst 0, 1) := by decide +kernel
theorem dX6_back_22 : decode cX6_back 22 = .ok (.putfield 100, 3) := by decide +kernel
theorem dX6_back_25 : decode cX6_back 25 = .ok (.aload_n 0, 1) := by decide +kernel
theorem dX6_back_26 : decode cX6_back 26 = .ok (.getfield 45, 3) := by decide +kernel
theorem dX6_back_29 : decode cX6_back 29 = .ok (.getfield 100, 3) := by decide +kernel
theorem dX6_back_32 : decode cX6_back 32 = .ok (.ireturn, 1) := by decide +kernel
theorem dX6_count_0 : decode cX6_count 0 = .ok (.iload_n 1, 1) := by decide +kernel
theorem dX6_count_1 : decode cX6_count 1 = .ok (.tableswitch 143 0 9 #[55, 63, 71, 79, 87, 99, 111, 119, 127, 135], 55) := by decide +kernel
theorem dX6_count_56 : decode cX6_count 56 = .ok (.aload_n 0, 1) := by decide +kernel
theorem dX6_count_57 : decode cX6_count 57 = .ok (.getfield 19, 3) := by decide +kernel
theorem dX6_count_60 : decode cX6_count 60 = .ok (.getfield 97, 3) := by decide +kernel
theorem dX6_count_63 : decode cX6_count 63 = .ok (.ireturn, 1) := by decide +kernel
theorem dX6_count_64 : decode cX6_count 64 = .ok (.aload_n 0, 1) := by decide +kernel
theorem dX6_count_65 : decode cX6_count 65 = .ok (.getfield 19, 3) := by decide +kernel
theorem dX6_count_68 : decode cX6_count 68 = .ok (.getfield 183, 3) := by decide +kernel
theorem dX6_count_71 : decode cX6_count 71 = .ok (.ireturn, 1) := by decide +kernel
theorem dX6_count_72 : decode cX6_count 72 = .ok (.aload_n 0, 1) := by decide +kernel
theorem dX6_count_73 : decode cX6_count 73 = .ok (.getfield 29, 3) := by decide +kernel
theorem dX6_count_76 : decode cX6_count 76 = .ok (.invokevirtual 147, 3) := by decide +kernel
theorem dX6_count_79 : decode cX6_count 79 = .ok (.ireturn, 1) := by decide +kernel
theorem dX6_count_80 : decode cX6_count 80 = .ok (.aload_n 0, 1) := by decide +kernel
theorem dX6_count_81 : decode cX6_count 81 = .ok (.getfield 29, 3) := by decide +kernel
theorem dX6_count_84 : decode cX6_count 84 = .ok (.getfield 256, 3) := by decide +kernel
theorem dX6_count_87 : decode cX6_count 87 = .ok (.ireturn, 1) := by decide +kernel
theorem dX6_count_88 : decode cX6_count 88 = .ok (.aload_n 0, 1) := by decide +kernel
theorem dX6_count_89 : decode cX6_count 89 = .ok (.getfield 29, 3) := by decide +kernel
theorem dX6_count_92 : decode cX6_count 92 = .ok (.aload_n 0, 1) := by decide +kernel
theorem dX6_count_93 : decode cX6_count 93 = .ok (.getfield 19, 3) := by decide +kernel
theorem dX6_count_96 : decode cX6_count 96 = .ok (.invokevirtual 259, 3) := by decide +kernel
theorem dX6_count_99 : decode cX6_count 99 = .ok (.ireturn, 1) := by decide +kernel
theorem dX6_count_100 : decode cX6_count 100 = .ok (.aload_n 0, 1) := by decide +kernel
theorem dX6_count_101 : decode cX6_count 101 = .ok (.getfield 29, 3) := by decide +kernel
theorem dX6_count_104 : decode cX6_count 104 = .ok (.aload_n 0, 1) := by decide +kernel
theorem dX6_count_105 : decode cX6_count 105 = .ok (.getfield 19, 3) := by decide +kernel
theorem dX6_count_108 : decode cX6_count 108 = .ok (.invokevirtual 250, 3) := by decide +kernel
theorem dX6_count_111 : decode cX6_count 111 = .ok (.ireturn, 1) := by decide +kernel
theorem dX6_count_112 : decode cX6_count 112 = .ok (.aload_n 0, 1) := by decide +kernel
theorem dX6_count_113 : decode cX6_count 113 = .ok (.getfield 58, 3) := by decide +kernel
theorem dX6_count_116 : decode cX6_count 116 = .ok (.getfield 103, 3) := by decide +kernel
theorem dX6_count_119 : decode cX6_count 119 = .ok (.ireturn, 1) := by decide +kernel
theorem dX6_count_120 : decode cX6_count 120 = .ok (.aload_n 0, 1) := by decide +kernel
theorem dX6_count_121 : decode cX6_count 121 = .ok (.getfield 41, 3) := by decide +kernel
theorem dX6_count_124 : decode cX6_count 124 = .ok (.getfield 100, 3) := by decide +kernel
theorem dX6_count_127 : decode cX6_count 127 = .ok (.ireturn, 1) := by decide +kernel
theorem dX6_count_128 : decode cX6_count 128 = .ok (.aload_n 0, 1) := by decide +kernel
theorem dX6_count_129 : decode cX6_count 129 = .ok (.getfield 45, 3) := by decide +kernel
theorem dX6_count_132 : decode cX6_count 132 = .ok (.getfield 100, 3) := by decide +kernel
theorem dX6_count_135 : decode cX6_count 135 = .ok (.ireturn, 1) := by decide +kernel
theorem dX6_count_136 : decode cX6_count 136 = .ok (.aload_n 0, 1) := by decide +kernel
theorem dX6_count_137 : decode cX6_count 137 = .ok (.getfield 10, 3) := by decide +kernel
theorem dX6_count_140 : decode cX6_count 140 = .ok (.getfield 86, 3) := by decide +kernel
theorem dX6_count_143 : decode cX6_count 143 = .ok (.ireturn, 1) := by decide +kernel
theorem dX6_count_144 : decode cX6_count 144 = .ok (.iconst (-1), 1) := by decide +kernel
theorem dX6_count_145 : decode cX6_count 145 = .ok (.ireturn, 1) := by decide +kernel
theorem dX6_isPerson_0 : decode cX6_isPerson 0 = .ok (.iload_n 1, 1) := by decide +kernel
theorem dX6_isPerson_1 : decode cX6_isPerson 1 = .ok (.iconst 0, 1) := by decide +kernel
theorem dX6_isPerson_2 : decode cX6_isPerson 2 = .ok (.aload_n 0, 1) := by decide +kernel
theorem dX6_isPerson_3 : decode cX6_isPerson 3 = .ok (.getfield 19, 3) := by decide +kernel
theorem dX6_isPerson_6 : decode cX6_isPerson 6 = .ok (.getfield 97, 3) := by decide +kernel
theorem dX6_isPerson_9 : decode cX6_isPerson 9 = .ok (.iconst 1, 1) := by decide +kernel
theorem dX6_isPerson_10 : decode cX6_isPerson 10 = .ok (.isub, 1) := by decide +kernel
theorem dX6_isPerson_11 : decode cX6_isPerson 11 = .ok (.invokestatic 93, 3) := by decide +kernel
theorem dX6_isPerson_14 : decode cX6_isPerson 14 = .ok (.ireturn, 1) := by decide +kernel
theorem dX6_isDeed_0 : decode cX6_isDeed 0 = .ok (.iload_n 1, 1) := by decide +kernel
theorem dX6_isDeed_1 : decode cX6_isDeed 1 = .ok (.iconst 0, 1) := by decide +kernel
theorem dX6_isDeed_2 : decode cX6_isDeed 2 = .ok (.aload_n 0, 1) := by decide +kernel
theorem dX6_isDeed_3 : decode cX6_isDeed 3 = .ok (.getfield 19, 3) := by decide +kernel
theorem dX6_isDeed_6 : decode cX6_isDeed 6 = .ok (.getfield 183, 3) := by decide +kernel
theorem dX6_isDeed_9 : decode cX6_isDeed 9 = .ok (.iconst 1, 1) := by decide +kernel
theorem dX6_isDeed_10 : decode cX6_isDeed 10 = .ok (.isub, 1) := by decide +kernel
theorem dX6_isDeed_11 : decode cX6_isDeed 11 = .ok (.invokestatic 93, 3) := by decide +kernel
theorem dX6_isDeed_14 : decode cX6_isDeed 14 = .ok (.ireturn, 1) := by decide +kernel
theorem dX6_isSort_0 : decode cX6_isSort 0 = .ok (.iload_n 0, 1) := by decide +kernel
theorem dX6_isSort_1 : decode cX6_isSort 1 = .ok (.iconst 0, 1) := by decide +kernel
theorem dX6_isSort_2 : decode cX6_isSort 2 = .ok (.iconst 2, 1) := by decide +kernel
theorem dX6_isSort_3 : decode cX6_isSort 3 = .ok (.invokestatic 93, 3) := by decide +kernel
theorem dX6_isSort_6 : decode cX6_isSort 6 = .ok (.ireturn, 1) := by decide +kernel
theorem dX6_within_0 : decode cX6_within 0 = .ok (.iload_n 0, 1) := by decide +kernel
theorem dX6_within_1 : decode cX6_within 1 = .ok (.iload_n 1, 1) := by decide +kernel
theorem dX6_within_2 : decode cX6_within 2 = .ok (.if_icmp .lt 12, 3) := by decide +kernel
theorem dX6_within_5 : decode cX6_within 5 = .ok (.iload_n 0, 1) := by decide +kernel
theorem dX6_within_6 : decode cX6_within 6 = .ok (.iload_n 2, 1) := by decide +kernel
theorem dX6_within_7 : decode cX6_within 7 = .ok (.if_icmp .gt 7, 3) := by decide +kernel
theorem dX6_within_10 : decode cX6_within 10 = .ok (.iconst 1, 1) := by decide +kernel
theorem dX6_within_11 : decode cX6_within 11 = .ok (.goto 4, 3) := by decide +kernel
theorem dX6_within_14 : decode cX6_within 14 = .ok (.iconst 0, 1) := by decide +kernel
theorem dX6_within_15 : decode cX6_within 15 = .ok (.ireturn, 1) := by decide +kernel
theorem dX6_needToday_0 : decode cX6_needToday 0 = .ok (.aload_n 0, 1) := by decide +kernel
theorem dX6_needToday_1 : decode cX6_needToday 1 = .ok (.getfield 19, 3) := by decide +kernel
theorem dX6_needToday_4 : decode cX6_needToday 4 = .ok (.getfield 132, 3) := by decide +kernel
theorem dX6_needToday_7 : decode cX6_needToday 7 = .ok (.iload_n 1, 1) := by decide +kernel
theorem dX6_needToday_8 : decode cX6_needToday 8 = .ok (.bipush 7, 2) := by decide +kernel
theorem dX6_needToday_10 : decode cX6_needToday 10 = .ok (.imul, 1) := by decide +kernel
theorem dX6_needToday_11 : decode cX6_needToday 11 = .ok (.aload_n 0, 1) := by decide +kernel
theorem dX6_needToday_12 : decode cX6_needToday 12 = .ok (.getfield 29, 3) := by decide +kernel
theorem dX6_needToday_15 : decode cX6_needToday 15 = .ok (.invokevirtual 147, 3) := by decide +kernel
theorem dX6_needToday_18 : decode cX6_needToday 18 = .ok (.iadd, 1) := by decide +kernel
theorem dX6_needToday_19 : decode cX6_needToday 19 = .ok (.iaload, 1) := by decide +kernel
theorem dX6_needToday_20 : decode cX6_needToday 20 = .ok (.istore_n 3, 1) := by decide +kernel
theorem dX6_needToday_21 : decode cX6_needToday 21 = .ok (.iload_n 3, 1) := by decide +kernel
theorem dX6_needToday_22 : decode cX6_needToday 22 = .ok (.ifCond .ge 5, 3) := by decide +kernel
theorem dX6_needToday_25 : decode cX6_needToday 25 = .ok (.iconst 0, 1) := by decide +kernel
theorem dX6_needToday_26 : decode cX6_needToday 26 = .ok (.ireturn, 1) := by decide +kernel
theorem dX6_needToday_27 : decode cX6_needToday 27 = .ok (.aload_n 0, 1) := by decide +kernel
theorem dX6_needToday_28 : decode cX6_needToday 28 = .ok (.getfield 19, 3) := by decide +kernel
theorem dX6_needToday_31 : decode cX6_needToday 31 = .ok (.iload_n 1, 1) := by decide +kernel
theorem dX6_needToday_32 : decode cX6_needToday 32 = .ok (.iload_n 3, 1) := by decide +kernel
theorem dX6_needToday_33 : decode cX6_needToday 33 = .ok (.invokevirtual 262, 3) := by decide +kernel
theorem dX6_needToday_36 : decode cX6_needToday 36 = .ok (.aload_n 0, 1) := by decide +kernel
theorem dX6_needToday_37 : decode cX6_needToday 37 = .ok (.getfield 19, 3) := by decide +kernel
theorem dX6_needToday_40 : decode cX6_needToday 40 = .ok (.getfield 266, 3) := by decide +kernel
theorem dX6_needToday_43 : decode cX6_needToday 43 = .ok (.iload_n 2, 1) := by decide +kernel
theorem dX6_needToday_44 : decode cX6_needToday 44 = .ok (.iaload, 1) := by decide +kernel
theorem dX6_needToday_45 : decode cX6_needToday 45 = .ok (.ireturn, 1) := by decide +kernel
theorem dX6_sumOf_0 : decode cX6_sumOf 0 = .ok (.iconst 0, 1) := by decide +kernel
theorem dX6_sumOf_1 : decode cX6_sumOf 1 = .ok (.istore_n 3, 1) := by decide +kernel
theorem dX6_sumOf_2 : decode cX6_sumOf 2 = .ok (.iconst 0, 1) := by decide +kernel
theorem dX6_sumOf_3 : decode cX6_sumOf 3 = .ok (.istore 4, 2) := by decide +kernel
theorem dX6_sumOf_5 : decode cX6_sumOf 5 = .ok (.iload 4, 2) := by decide +kernel
theorem dX6_sumOf_7 : decode cX6_sumOf 7 = .ok (.aload_n 0, 1) := by decide +kernel
theorem dX6_sumOf_8 : decode cX6_sumOf 8 = .ok (.getfield 19, 3) := by decide +kernel
theorem dX6_sumOf_11 : decode cX6_sumOf 11 = .ok (.getfield 97, 3) := by decide +kernel
theorem dX6_sumOf_14 : decode cX6_sumOf 14 = .ok (.if_icmp .ge 33, 3) := by decide +kernel
theorem dX6_sumOf_17 : decode cX6_sumOf 17 = .ok (.iload_n 3, 1) := by decide +kernel
theorem dX6_sumOf_18 : decode cX6_sumOf 18 = .ok (.iload_n 1, 1) := by decide +kernel
theorem dX6_sumOf_19 : decode cX6_sumOf 19 = .ok (.iload 4, 2) := by decide +kernel
theorem dX6_sumOf_21 : decode cX6_sumOf 21 = .ok (.ishr, 1) := by decide +kernel
theorem dX6_sumOf_22 : decode cX6_sumOf 22 = .ok (.iconst 1, 1) := by decide +kernel
theorem dX6_sumOf_23 : decode cX6_sumOf 23 = .ok (.iand, 1) := by decide +kernel
theorem dX6_sumOf_24 : decode cX6_sumOf 24 = .ok (.aload_n 0, 1) := by decide +kernel
theorem dX6_sumOf_25 : decode cX6_sumOf 25 = .ok (.getfield 29, 3) := by decide +kernel
theorem dX6_sumOf_28 : decode cX6_sumOf 28 = .ok (.getfield 120, 3) := by decide +kernel
theorem dX6_sumOf_31 : decode cX6_sumOf 31 = .ok (.iload 4, 2) := by decide +kernel
theorem dX6_sumOf_33 : decode cX6_sumOf 33 = .ok (.iconst 3, 1) := by decide +kernel
theorem dX6_sumOf_34 : decode cX6_sumOf 34 = .ok (.imul, 1) := by decide +kernel
theorem dX6_sumOf_35 : decode cX6_sumOf 35 = .ok (.iload_n 2, 1) := by decide +kernel
theorem dX6_sumOf_36 : decode cX6_sumOf 36 = .ok (.iadd, 1) := by decide +kernel
theorem dX6_sumOf_37 : decode cX6_sumOf 37 = .ok (.iaload, 1) := by decide +kernel
theorem dX6_sumOf_38 : decode cX6_sumOf 38 = .ok (.imul, 1) := by decide +kernel
theorem dX6_sumOf_39 : decode cX6_sumOf 39 = .ok (.iadd, 1) := by decide +kernel
theorem dX6_sumOf_40 : decode cX6_sumOf 40 = .ok (.istore_n 3, 1) := by decide +kernel
theorem dX6_sumOf_41 : decode cX6_sumOf 41 = .ok (.iinc 4 1, 3) := by decide +kernel
theorem dX6_sumOf_44 : decode cX6_sumOf 44 = .ok (.goto (-39), 3) := by decide +kernel
theorem dX6_sumOf_47 : decode cX6_sumOf 47 = .ok (.iload_n 3, 1) := by decide +kernel
theorem dX6_sumOf_48 : decode cX6_sumOf 48 = .ok (.ireturn, 1) := by decide +kernel
theorem dX6_timesInARow_0 : decode cX6_timesInARow 0 = .ok (.aload_n 0, 1) := by decide +kernel
theorem dX6_timesInARow_1 : decode cX6_timesInARow 1 = .ok (.getfield 29, 3) := by decide +kernel
theorem dX6_timesInARow_4 : decode cX6_timesInARow 4 = .ok (.getfield 120, 3) := by decide +kernel
theorem dX6_timesInARow_7 : decode cX6_timesInARow 7 = .ok (.iload_n 1, 1) := by decide +kernel
theorem dX6_timesInARow_8 : decode cX6_timesInARow 8 = .ok (.iconst 3, 1) := by decide +kernel
theorem dX6_timesInARow_9 : decode cX6_timesInARow 9 = .ok (.imul, 1) := by decide +kernel
theorem dX6_timesInARow_10 : decode cX6_timesInARow 10 = .ok (.aload_n 0, 1) := by decide +kernel
theorem dX6_timesInARow_11 : decode cX6_timesInARow 11 = .ok (.getfield 62, 3) := by decide +kernel
theorem dX6_timesInARow_14 : decode cX6_timesInARow 14 = .ok (.iconst 0, 1) := by decide +kernel
theorem dX6_timesInARow_15 : decode cX6_timesInARow 15 = .ok (.iconst 3, 1) := by decide +kernel
theorem dX6_timesInARow_16 : decode cX6_timesInARow 16 = .ok (.invokestatic 222, 3) := by decide +kernel
theorem dX6_timesInARow_19 : decode cX6_timesInARow 19 = .ok (.iconst 0, 1) := by decide +kernel
theorem dX6_timesInARow_20 : decode cX6_timesInARow 20 = .ok (.istore 4, 2) := by decide +kernel
theorem dX6_timesInARow_22 : decode cX6_timesInARow 22 = .ok (.iload 4, 2) := by decide +kernel
theorem dX6_timesInARow_24 : decode cX6_timesInARow 24 = .ok (.iload_n 3, 1) := by decide +kernel
theorem dX6_timesInARow_25 : decode cX6_timesInARow 25 = .ok (.if_icmp .ge 38, 3) := by decide +kernel
theorem dX6_timesInARow_28 : decode cX6_timesInARow 28 = .ok (.aload_n 0, 1) := by decide +kernel
theorem dX6_timesInARow_29 : decode cX6_timesInARow 29 = .ok (.getfield 19, 3) := by decide +kernel
theorem dX6_timesInARow_32 : decode cX6_timesInARow 32 = .ok (.iload_n 1, 1) := by decide +kernel
theorem dX6_timesInARow_33 : decode cX6_timesInARow 33 = .ok (.iload_n 2, 1) := by decide +kernel
theorem dX6_timesInARow_34 : decode cX6_timesInARow 34 = .ok (.aload_n 0, 1) := by decide +kernel
theorem dX6_timesInARow_35 : decode cX6_timesInARow 35 = .ok (.getfield 62, 3) := by decide +kernel
theorem dX6_timesInARow_38 : decode cX6_timesInARow 38 = .ok (.iconst 0, 1) := by decide +kernel
theorem dX6_timesInARow_39 : decode cX6_timesInARow 39 = .ok (.invokevirtual 135, 3) := by decide +kernel
theorem dX6_timesInARow_42 : decode cX6_timesInARow 42 = .ok (.ifCond .eq 21, 3) := by decide +kernel
theorem dX6_timesInARow_45 : decode cX6_timesInARow 45 = .ok (.aload_n 0, 1) := by decide +kernel
theorem dX6_timesInARow_46 : decode cX6_timesInARow 46 = .ok (.getfield 19, 3) := by decide +kernel
theorem dX6_timesInARow_49 : decode cX6_timesInARow 49 = .ok (.aload_n 0, 1) := by decide +kernel
theorem dX6_timesInARow_50 : decode cX6_timesInARow 50 = .ok (.getfield 62, 3) := by decide +kernel
theorem dX6_timesInARow_53 : decode cX6_timesInARow 53 = .ok (.iconst 0, 1) := by decide +kernel
theorem dX6_timesInARow_54 : decode cX6_timesInARow 54 = .ok (.invokevirtual 269, 3) := by decide +kernel
theorem dX6_timesInARow_57 : decode cX6_timesInARow 57 = .ok (.iinc 4 1, 3) := by decide +kernel
theorem dX6_timesInARow_60 : decode cX6_timesInARow 60 = .ok (.goto (-38), 3) := by decide +kernel
theorem dX6_timesInARow_63 : decode cX6_timesInARow 63 = .ok (.iload 4, 2) := by decide +kernel
theorem dX6_timesInARow_65 : decode cX6_timesInARow 65 = .ok (.ireturn, 1) := by decide +kernel
theorem dX6_power_0 : decode cX6_power 0 = .ok (.lconst 1, 1) := by decide +kernel
theorem dX6_power_1 : decode cX6_power 1 = .ok (.lstore_n 2, 1) := by decide +kernel
theorem dX6_power_2 : decode cX6_power 2 = .ok (.iconst 0, 1) := by decide +kernel
theorem dX6_power_3 : decode cX6_power 3 = .ok (.istore 4, 2) := by decide +kernel
theorem dX6_power_5 : decode cX6_power 5 = .ok (.iload 4, 2) := by decide +kernel
theorem dX6_power_7 : decode cX6_power 7 = .ok (.iload_n 1, 1) := by decide +kernel
theorem dX6_power_8 : decode cX6_power 8 = .ok (.if_icmp .ge 14, 3) := by decide +kernel
theorem dX6_power_11 : decode cX6_power 11 = .ok (.lload_n 2, 1) := by decide +kernel
theorem dX6_power_12 : decode cX6_power 12 = .ok (.iload_n 0, 1) := by decide +kernel
theorem dX6_power_13 : decode cX6_power 13 = .ok (.i2l, 1) := by decide +kernel
theorem dX6_power_14 : decode cX6_power 14 = .ok (.lmul, 1) := by decide +kernel
theorem dX6_power_15 : decode cX6_power 15 = .ok (.lstore_n 2, 1) := by decide +kernel
theorem dX6_power_16 : decode cX6_power 16 = .ok (.iinc 4 1, 3) := by decide +kernel
theorem dX6_power_19 : decode cX6_power 19 = .ok (.goto (-14), 3) := by decide +kernel
theorem dX6_power_22 : decode cX6_power 22 = .ok (.lload_n 2, 1) := by decide +kernel
theorem dX6_power_23 : decode cX6_power 23 = .ok (.lreturn, 1) := by decide +kernel
theorem dX6_choose_0 : decode cX6_choose 0 = .ok (.lconst 1, 1) := by decide +kernel
theorem dX6_choose_1 : decode cX6_choose 1 = .ok (.lstore_n 2, 1) := by decide +kernel
theorem dX6_choose_2 : decode cX6_choose 2 = .ok (.iconst 1, 1) := by decide +kernel
theorem dX6_choose_3 : decode cX6_choose 3 = .ok (.istore 4, 2) := by decide +kernel
theorem dX6_choose_5 : decode cX6_choose 5 = .ok (.iload 4, 2) := by decide +kernel
theorem dX6_choose_7 : decode cX6_choose 7 = .ok (.iload_n 1, 1) := by decide +kernel
theorem dX6_choose_8 : decode cX6_choose 8 = .ok (.if_icmp .gt 23, 3) := by decide +kernel
theorem dX6_choose_11 : decode cX6_choose 11 = .ok (.lload_n 2, 1) := by decide +kernel
theorem dX6_choose_12 : decode cX6_choose 12 = .ok (.iload_n 0, 1) := by decide +kernel
theorem dX6_choose_13 : decode cX6_choose 13 = .ok (.iload_n 1, 1) := by decide +kernel
theorem dX6_choose_14 : decode cX6_choose 14 = .ok (.isub, 1) := by decide +kernel
theorem dX6_choose_15 : decode cX6_choose 15 = .ok (.iload 4, 2) := by decide +kernel
theorem dX6_choose_17 : decode cX6_choose 17 = .ok (.iadd, 1) := by decide +kernel
theorem dX6_choose_18 : decode cX6_choose 18 = .ok (.i2l, 1) := by decide +kernel
theorem dX6_choose_19 : decode cX6_choose 19 = .ok (.lmul, 1) := by decide +kernel
theorem dX6_choose_20 : decode cX6_choose 20 = .ok (.iload 4, 2) := by decide +kernel
theorem dX6_choose_22 : decode cX6_choose 22 = .ok (.i2l, 1) := by decide +kernel
theorem dX6_choose_23 : decode cX6_choose 23 = .ok (.ldiv, 1) := by decide +kernel
theorem dX6_choose_24 : decode cX6_choose 24 = .ok (.lstore_n 2, 1) := by decide +kernel
theorem dX6_choose_25 : decode cX6_choose 25 = .ok (.iinc 4 1, 3) := by decide +kernel
theorem dX6_choose_28 : decode cX6_choose 28 = .ok (.goto (-23), 3) := by decide +kernel
theorem dX6_choose_31 : decode cX6_choose 31 = .ok (.lload_n 2, 1) := by decide +kernel
theorem dX6_choose_32 : decode cX6_choose 32 = .ok (.lreturn, 1) := by decide +kernel
theorem dX6_commonDivisor_0 : decode cX6_commonDivisor 0 = .ok (.lload_n 0, 1) := by decide +kernel
theorem dX6_commonDivisor_1 : decode cX6_commonDivisor 1 = .ok (.lstore 4, 2) := by decide +kernel
theorem dX6_commonDivisor_3 : decode cX6_commonDivisor 3 = .ok (.lload_n 2, 1) := by decide +kernel
theorem dX6_commonDivisor_4 : decode cX6_commonDivisor 4 = .ok (.lstore 6, 2) := by decide +kernel
theorem dX6_commonDivisor_6 : decode cX6_commonDivisor 6 = .ok (.iconst 0, 1) := by decide +kernel
theorem dX6_commonDivisor_7 : decode cX6_commonDivisor 7 = .ok (.istore 8, 2) := by decide +kernel
theorem dX6_commonDivisor_9 : decode cX6_commonDivisor 9 = .ok (.iload 8, 2) := by decide +kernel
theorem dX6_commonDivisor_11 : decode cX6_commonDivisor 11 = .ok (.bipush 100, 2) := by decide +kernel
theorem dX6_commonDivisor_13 : decode cX6_commonDivisor 13 = .ok (.if_icmp .ge 31, 3) := by decide +kernel
theorem dX6_commonDivisor_16 : decode cX6_commonDivisor 16 = .ok (.lload 6, 2) := by decide +kernel
theorem dX6_commonDivisor_18 : decode cX6_commonDivisor 18 = .ok (.lconst 0, 1) := by decide +kernel
theorem dX6_commonDivisor_19 : decode cX6_commonDivisor 19 = .ok (.lcmp, 1) := by decide +kernel
theorem dX6_commonDivisor_20 : decode cX6_commonDivisor 20 = .ok (.ifCond .eq 24, 3) := by decide +kernel
theorem dX6_commonDivisor_23 : decode cX6_commonDivisor 23 = .ok (.lload 4, 2) := by decide +kernel
theorem dX6_commonDivisor_25 : decode cX6_commonDivisor 25 = .ok (.lload 6, 2) := by decide +kernel
theorem dX6_commonDivisor_27 : decode cX6_commonDivisor 27 = .ok (.lrem, 1) := by decide +kernel
theorem dX6_commonDivisor_28 : decode cX6_commonDivisor 28 = .ok (.lstore 9, 2) := by decide +kernel
theorem dX6_commonDivisor_30 : decode cX6_commonDivisor 30 = .ok (.lload 6, 2) := by decide +kernel
theorem dX6_commonDivisor_32 : decode cX6_commonDivisor 32 = .ok (.lstore 4, 2) := by decide +kernel
theorem dX6_commonDivisor_34 : decode cX6_commonDivisor 34 = .ok (.lload 9, 2) := by decide +kernel
theorem dX6_commonDivisor_36 : decode cX6_commonDivisor 36 = .ok (.lstore 6, 2) := by decide +kernel
theorem dX6_commonDivisor_38 : decode cX6_commonDivisor 38 = .ok (.iinc 8 1, 3) := by decide +kernel
theorem dX6_commonDivisor_41 : decode cX6_commonDivisor 41 = .ok (.goto (-32), 3) := by decide +kernel
theorem dX6_commonDivisor_44 : decode cX6_commonDivisor 44 = .ok (.lconst 1, 1) := by decide +kernel
theorem dX6_commonDivisor_45 : decode cX6_commonDivisor 45 = .ok (.lload 4, 2) := by decide +kernel
theorem dX6_commonDivisor_47 : decode cX6_commonDivisor 47 = .ok (.invokestatic 273, 3) := by decide +kernel
theorem dX6_commonDivisor_50 : decode cX6_commonDivisor 50 = .ok (.lreturn, 1) := by decide +kernel
theorem dX6_hueOf_0 : decode cX6_hueOf 0 = .ok (.iconst 0, 1) := by decide +kernel
theorem dX6_hueOf_1 : decode cX6_hueOf 1 = .ok (.istore_n 2, 1) := by decide +kernel
theorem dX6_hueOf_2 : decode cX6_hueOf 2 = .ok (.iconst 0, 1) := by decide +kernel
theorem dX6_hueOf_3 : decode cX6_hueOf 3 = .ok (.istore_n 3, 1) := by decide +kernel
theorem dX6_hueOf_4 : decode cX6_hueOf 4 = .ok (.iload_n 3, 1) := by decide +kernel
theorem dX6_hueOf_5 : decode cX6_hueOf 5 = .ok (.iconst 3, 1) := by decide +kernel
theorem dX6_hueOf_6 : decode cX6_hueOf 6 = .ok (.if_icmp .ge 23, 3) := by decide +kernel
theorem dX6_hueOf_9 : decode cX6_hueOf 9 = .ok (.aload_n 0, 1) := by decide +kernel
theorem dX6_hueOf_10 : decode cX6_hueOf 10 = .ok (.iload_n 1, 1) := by decide +kernel
theorem dX6_hueOf_11 : decode cX6_hueOf 11 = .ok (.iload_n 3, 1) := by decide +kernel
theorem dX6_hueOf_12 : decode cX6_hueOf 12 = .ok (.iadd, 1) := by decide +kernel
theorem dX6_hueOf_13 : decode cX6_hueOf 13 = .ok (.iaload, 1) := by decide +kernel
theorem dX6_hueOf_14 : decode cX6_hueOf 14 = .ok (.ifCond .le 9, 3) := by decide +kernel
theorem dX6_hueOf_17 : decode cX6_hueOf 17 = .ok (.iload_n 2, 1) := by decide +kernel
theorem dX6_hueOf_18 : decode cX6_hueOf 18 = .ok (.iconst 1, 1) := by decide +kernel
theorem dX6_hueOf_19 : decode cX6_hueOf 19 = .ok (.iload_n 3, 1) := by decide +kernel
theorem dX6_hueOf_20 : decode cX6_hueOf 20 = .ok (.ishl, 1) := by decide +kernel
theorem dX6_hueOf_21 : decode cX6_hueOf 21 = .ok (.ior, 1) := by decide +kernel
theorem dX6_hueOf_22 : decode cX6_hueOf 22 = .ok (.istore_n 2, 1) := by decide +kernel
theorem dX6_hueOf_23 : decode cX6_hueOf 23 = .ok (.iinc 3 1, 3) := by decide +kernel
theorem dX6_hueOf_26 : decode cX6_hueOf 26 = .ok (.goto (-22), 3) := by decide +kernel
theorem dX6_hueOf_29 : decode cX6_hueOf 29 = .ok (.iload_n 2, 1) := by decide +kernel
theorem dX6_hueOf_30 : decode cX6_hueOf 30 = .ok (.ireturn, 1) := by decide +kernel
end
section
theorem dX7_init_0 : decode cX7_init 0 = .ok (.aload_n 0, 1) := by decide +kernel
theorem dX7_init_1 : decode cX7_init 1 = .ok (.invokespecial 1, 3) := by decide +kernel
theorem dX7_init_4 : decode cX7_init 4 = .ok (.aload_n 0, 1) := by decide +kernel
theorem dX7_init_5 : decode cX7_init 5 = .ok (.sipush 200, 3) := by decide +kernel
theorem dX7_init_8 : decode cX7_init 8 = .ok (.newarray .byte, 2) := by decide +kernel
theorem dX7_init_10 : decode cX7_init 10 = .ok (.putfield 7, 3) := by decide +kernel
theorem dX7_init_13 : decode cX7_init 13 = .ok (.aload_n 0, 1) := by decide +kernel
theorem dX7_init_14 : decode cX7_init 14 = .ok (.iconst 2, 1) := by decide +kernel
theorem dX7_init_15 : decode cX7_init 15 = .ok (.newarray .int, 2) := by decide +kernel
theorem dX7_init_17 : decode cX7_init 17 = .ok (.putfield 13, 3) := by decide +kernel
theorem dX7_init_20 : decode cX7_init 20 = .ok (.aload_n 0, 1) := by decide +kernel
theorem dX7_init_21 : decode cX7_init 21 = .ok (.bipush 12, 2) := by decide +kernel
theorem dX7_init_23 : decode cX7_init 23 = .ok (.newarray .int, 2) := by decide +kernel
theorem dX7_init_25 : decode cX7_init 25 = .ok (.putfield 17, 3) := by decide +kernel
theorem dX7_init_28 : decode cX7_init 28 = .ok (.aload_n 0, 1) := by decide +kernel
theorem dX7_init_29 : decode cX7_init 29 = .ok (.bipush 36, 2) := by decide +kernel
theorem dX7_init_31 : decode cX7_init 31 = .ok (.newarray .int, 2) := by decide +kernel
theorem dX7_init_33 : decode cX7_init 33 = .ok (.putfield 20, 3) := by decide +kernel
theorem dX7_init_36 : decode cX7_init 36 = .ok (.aload_n 0, 1) := by decide +kernel
theorem dX7_init_37 : decode cX7_init 37 = .ok (.iconst 2, 1) := by decide +kernel
theorem dX7_init_38 : decode cX7_init 38 = .ok (.newarray .int, 2) := by decide +kernel
theorem dX7_init_40 : decode cX7_init 40 = .ok (.putfield 23, 3) := by decide +kernel
theorem dX7_init_43 : decode cX7_init 43 = .ok (.aload_n 0, 1) := by decide +kernel
theorem dX7_init_44 : decode cX7_init 44 = .ok (.bipush 36, 2) := by decide +kernel
theorem dX7_init_46 : decode cX7_init 46 = .ok (.newarray .int, 2) := by decide +kernel
theorem dX7_init_48 : decode cX7_init 48 = .ok (.putfield 26, 3) := by decide +kernel
theorem dX7_init_51 : decode cX7_init 51 = .ok (.aload_n 0, 1) := by decide +kernel
theorem dX7_init_52 : decode cX7_init 52 = .ok (.bipush 12, 2) := by decide +kernel
theorem dX7_init_54 : decode cX7_init 54 = .ok (.newarray .int, 2) := by decide +kernel
theorem dX7_init_56 : decode cX7_init 56 = .ok (.putfield 29, 3) := by decide +kernel
theorem dX7_init_59 : decode cX7_init 59 = .ok (.aload_n 0, 1) := by decide +kernel
theorem dX7_init_60 : decode cX7_init 60 = .ok (.bipush 84, 2) := by decide +kernel
theorem dX7_init_62 : decode cX7_init 62 = .ok (.newarray .int, 2) := by decide +kernel
theorem dX7_init_64 : decode cX7_init 64 = .ok (.putfield 32, 3) := by decide +kernel
theorem dX7_init_67 : decode cX7_init 67 = .ok (.aload_n 0, 1) := by decide +kernel
theorem dX7_init_68 : decode cX7_init 68 = .ok (.iconst 2, 1) := by decide +kernel
theorem dX7_init_69 : decode cX7_init 69 = .ok (.newarray .int, 2) := by decide +kernel
theorem dX7_init_71 : decode cX7_init 71 = .ok (.putfield 35, 3) := by decide +kernel
theorem dX7_init_74 : decode cX7_init 74 = .ok (.aload_n 0, 1) := by decide +kernel
theorem dX7_init_75 : decode cX7_init 75 = .ok (.sipush 372, 3) := by decide +kernel
theorem dX7_init_78 : decode cX7_init 78 = .ok (.newarray .int, 2) := by decide +kernel
theorem dX7_init_80 : decode cX7_init 80 = .ok (.putfield 38, 3) := by decide +kernel
theorem dX7_init_83 : decode cX7_init 83 = .ok (.aload_n 0, 1) := by decide +kernel
theorem dX7_init_84 : decode cX7_init 84 = .ok (.iconst 3, 1) := by decide +kernel
theorem dX7_init_85 : decode cX7_init 85 = .ok (.newarray .int, 2) := by decide +kernel
theorem dX7_init_87 : decode cX7_init 87 = .ok (.putfield 41, 3) := by decide +kernel
theorem dX7_init_90 : decode cX7_init 90 = .ok (.aload_n 0, 1) := by decide +kernel
theorem dX7_init_91 : decode cX7_init 91 = .ok (.bipush 6, 2) := by decide +kernel
theorem dX7_init_93 : decode cX7_init 93 = .ok (.newarray .int, 2) := by decide +kernel
theorem dX7_init_95 : decode cX7_init 95 = .ok (.putfield 44, 3) := by decide +kernel
theorem dX7_init_98 : decode cX7_init 98 = .ok (.aload_n 0, 1) := by decide +kernel
theorem dX7_init_99 : decode cX7_init 99 = .ok (.bipush 7, 2) := by decide +kernel
theorem dX7_init_101 : decode cX7_init 101 = .ok (.newarray .int, 2) := by decide +kernel
theorem dX7_init_103 : decode cX7_init 103 = .ok (.putfield 47, 3) := by decide +kernel
theorem dX7_init_106 : decode cX7_init 106 = .ok (.aload_n 0, 1) := by decide +kernel
theorem dX7_init_107 : decode cX7_init 107 = .ok (.bipush 7, 2) := by decide +kernel
theorem dX7_init_109 : decode cX7_init 109 = .ok (.newarray .int, 2) := by decide +kernel
theorem dX7_init_111 : decode cX7_init 111 = .ok (.putfield 50, 3) := by decide +kernel
theorem dX7_init_114 : decode cX7_init 114 = .ok (.aload_n 0, 1) := by decide +kernel
theorem dX7_init_115 : decode cX7_init 115 = .ok (.bipush 7, 2) := by decide +kernel
theorem dX7_init_117 : decode cX7_init 117 = .ok (.newarray .int, 2) := by decide +kernel
theorem dX7_init_119 : decode cX7_init 119 = .ok (.putfield 53, 3) := by decide +kernel
theorem dX7_init_122 : decode cX7_init 122 = .ok (.aload_n 0, 1) := by decide +kernel
theorem dX7_init_123 : decode cX7_init 123 = .ok (.iconst 0, 1) := by decide +kernel
theorem dX7_init_124 : decode cX7_init 124 = .ok (.iconst 3, 1) := by decide +kernel
theorem dX7_init_125 : decode cX7_init 125 = .ok (.iconst 2, 1) := by decide +kernel
theorem dX7_init_126 : decode cX7_init 126 = .ok (.iconst 4, 1) := by decide +kernel
theorem dX7_init_127 : decode cX7_init 127 = .ok (.invokevirtual 56, 3) := by decide +kernel
theorem dX7_init_130 : decode cX7_init 130 = .ok (.aload_n 0, 1) := by decide +kernel
theorem dX7_init_131 : decode cX7_init 131 = .ok (.iconst 1, 1) := by decide +kernel
theorem dX7_init_132 : decode cX7_init 132 = .ok (.iconst 4, 1) := by decide +kernel
theorem dX7_init_133 : decode cX7_init 133 = .ok (.iconst 1, 1) := by decide +kernel
theorem dX7_init_134 : decode cX7_init 134 = .ok (.iconst 2, 1) := by decide +kernel
theorem dX7_init_135 : decode cX7_init 135 = .ok (.invokevirtual 56, 3) := by decide +kernel
theorem dX7_init_138 : decode cX7_init 138 = .ok (.aload_n 0, 1) := by decide +kernel
theorem dX7_init_139 : decode cX7_init 139 = .ok (.iconst 2, 1) := by decide +kernel
theorem dX7_init_140 : decode cX7_init 140 = .ok (.iconst 2, 1) := by decide +kernel
theorem dX7_init_141 : decode cX7_init 141 = .ok (.iconst 2, 1) := by decide +kernel
theorem dX7_init_142 : decode cX7_init 142 = .ok (.bipush 6, 2) := by decide +kernel
theorem dX7_init_144 : decode cX7_init 144 = .ok (.invokevirtual 56, 3) := by decide +kernel
theorem dX7_init_147 : decode cX7_init 147 = .ok (.aload_n 0, 1) := by decide +kernel
theorem dX7_init_148 : decode cX7_init 148 = .ok (.iconst 3, 1) := by decide +kernel
theorem dX7_init_149 : decode cX7_init 149 = .ok (.iconst 1, 1) := by decide +kernel
theorem dX7_init_150 : decode cX7_init 150 = .ok (.iconst 5, 1) := by decide +kernel
theorem dX7_init_151 : decode cX7_init 151 = .ok (.iconst 0, 1) := by decide +kernel
theorem dX7_init_152 : decode cX7_init 152 = .ok (.invokevirtual 56, 3) := by decide +kernel
theorem dX7_init_155 : decode cX7_init 155 = .ok (.aload_n 0, 1) := by decide +kernel
theorem dX7_init_156 : decode cX7_init 156 = .ok (.iconst 1, 1) := by decide +kernel
theorem dX7_init_157 : decode cX7_init 157 = .ok (.iconst 0, 1) := by decide +kernel
theorem dX7_init_158 : decode cX7_init 158 = .ok (.iconst 0, 1) := by decide +kernel
theorem dX7_init_159 : decode cX7_init 159 = .ok (.iconst 2, 1) := by decide +kernel
theorem dX7_init_160 : decode cX7_init 160 = .ok (.invokevirtual 60, 3) := by decide +kernel
theorem dX7_init_163 : decode cX7_init 163 = .ok (.aload_n 0, 1) := by decide +kernel
theorem dX7_init_164 : decode cX7_init 164 = .ok (.iconst 0, 1) := by decide +kernel
theorem dX7_init_165 : decode cX7_init 165 = .ok (.iconst 1, 1) := by decide +kernel
theorem dX7_init_166 : decode cX7_init 166 = .ok (.iconst 1, 1) := by decide +kernel
theorem dX7_init_167 : decode cX7_init 167 = .ok (.iconst 3, 1) := by decide +kernel
theorem dX7_init_168 : decode cX7_init 168 = .ok (.invokevirtual 60, 3) := by decide +kernel
theorem dX7_init_171 : decode cX7_init 171 = .ok (.aload_n 0, 1) := by decide +kernel
theorem dX7_init_172 : decode cX7_init 172 = .ok (.iconst 2, 1) := by decide +kernel
theorem dX7_init_173 : decode cX7_init 173 = .ok (.iconst 0, 1) := by decide +kernel
theorem dX7_init_174 : decode cX7_init 174 = .ok (.iconst 1, 1) := by decide +kernel
theorem dX7_init_175 : decode cX7_init 175 = .ok (.iconst 5, 1) := by decide +kernel
theorem dX7_init_176 : decode cX7_init 176 = .ok (.invokevirtual 60, 3) := by decide +kernel
theorem dX7_init_179 : decode cX7_init 179 = .ok (.aload_n 0, 1) := by decide +kernel
theorem dX7_init_180 : decode cX7_init 180 = .ok (.getfield 32, 3) := by decide +kernel
theorem dX7_init_183 : decode cX7_init 183 = .ok (.bipush 42, 2) := by decide +kernel
theorem dX7_init_185 : decode cX7_init 185 = .ok (.iconst 2, 1) := by decide +kernel
theorem dX7_init_186 : decode cX7_init 186 = .ok (.iastore, 1) := by decide +kernel
theorem dX7_init_187 : decode cX7_init 187 = .ok (.aload_n 0, 1) := by decide +kernel
theorem dX7_init_188 : decode cX7_init 188 = .ok (.getfield 32, 3) := by decide +kernel
theorem dX7_init_191 : decode cX7_init 191 = .ok (.bipush 44, 2) := by decide +kernel
theorem dX7_init_193 : decode cX7_init 193 = .ok (.iconst 1, 1) := by decide +kernel
theorem dX7_init_194 : decode cX7_init 194 = .ok (.iastore, 1) := by decide +kernel
theorem dX7_init_195 : decode cX7_init 195 = .ok (.aload_n 0, 1) := by decide +kernel
theorem dX7_init_196 : decode cX7_init 196 = .ok (.getfield 32, 3) := by decide +kernel
theorem dX7_init_199 : decode cX7_init 199 = .ok (.bipush 50, 2) := by decide +kernel
theorem dX7_init_201 : decode cX7_init 201 = .ok (.iconst 0, 1) := by decide +kernel
theorem dX7_init_202 : decode cX7_init 202 = .ok (.iastore, 1) := by decide +kernel
theorem dX7_init_203 : decode cX7_init 203 = .ok (.aload_n 0, 1) := by decide +kernel
theorem dX7_init_204 : decode cX7_init 204 = .ok (.getfield 32, 3) := by decide +kernel
theorem dX7_init_207 : decode cX7_init 207 = .ok (.bipush 56, 2) := by decide +kernel
theorem dX7_init_209 : decode cX7_init 209 = .ok (.iconst 1, 1) := by decide +kernel
theorem dX7_init_210 : decode cX7_init 210 = .ok (.iastore, 1) := by decide +kernel
theorem dX7_init_211 : decode cX7_init 211 = .ok (.aload_n 0, 1) := by decide +kernel
theorem dX7_init_212 : decode cX7_init 212 = .ok (.getfield 32, 3) := by decide +kernel
theorem dX7_init_215 : decode cX7_init 215 = .ok (.bipush 59, 2) := by decide +kernel
theorem dX7_init_217 : decode cX7_init 217 = .ok (.iconst 1, 1) := by decide +kernel
theorem dX7_init_218 : decode cX7_init 218 = .ok (.iastore, 1) := by decide +kernel
theorem dX7_init_219 : decode cX7_init 219 = .ok (.aload_n 0, 1) := by decide +kernel
theorem dX7_init_220 : decode cX7_init 220 = .ok (.getfield 32, 3) := by decide +kernel
theorem dX7_init_223 : decode cX7_init 223 = .ok (.bipush 67, 2) := by decide +kernel
theorem dX7_init_225 : decode cX7_init 225 = .ok (.iconst 1, 1) := by decide +kernel
theorem dX7_init_226 : decode cX7_init 226 = .ok (.iastore, 1) := by decide +kernel
theorem dX7_init_227 : decode cX7_init 227 = .ok (.aload_n 0, 1) := by decide +kernel
theorem dX7_init_228 : decode cX7_init 228 = .ok (.getfield 35, 3) := by decide +kernel
theorem dX7_init_231 : decode cX7_init 231 = .ok (.iconst 1, 1) := by decide +kernel
theorem dX7_init_232 : decode cX7_init 232 = .ok (.iconst 2, 1) := by decide +kernel
theorem dX7_init_233 : decode cX7_init 233 = .ok (.iastore, 1) := by decide +kernel
theorem dX7_init_234 : decode cX7_init 234 = .ok (.aload_n 0, 1) := by decide +kernel
theorem dX7_init_235 : decode cX7_init 235 = .ok (.invokevirtual 63, 3) := by decide +kernel
theorem dX7_init_238 : decode cX7_init 238 = .ok (.return_, 1) := by decide +kernel
theorem dX7_firstPerson_0 : decode cX7_firstPerson 0 = .ok (.bipush 6, 2) := by decide +kernel
theorem dX7_firstPerson_2 : decode cX7_firstPerson 2 = .ok (.aload_n 0, 1) := by decide +kernel
theorem dX7_firstPerson_3 : decode cX7_firstPerson 3 = .ok (.getfield 13, 3) := by decide +kernel
theorem dX7_firstPerson_6 : decode cX7_firstPerson 6 = .ok (.iconst 1, 1) := by decide +kernel
theorem dX7_firstPerson_7 : decode cX7_firstPerson 7 = .ok (.iaload, 1) := by decide +kernel
theorem dX7_firstPerson_8 : decode cX7_firstPerson 8 = .ok (.iadd, 1) := by decide +kernel
theorem dX7_firstPerson_9 : decode cX7_firstPerson 9 = .ok (.istore 5, 2) := by decide +kernel
theorem dX7_firstPerson_11 : decode cX7_firstPerson 11 = .ok (.aload_n 0, 1) := by decide +kernel
theorem dX7_firstPerson_12 : decode cX7_firstPerson 12 = .ok (.getfield 17, 3) := by decide +kernel
theorem dX7_firstPerson_15 : decode cX7_firstPerson 15 = .ok (.iload 5, 2) := by decide +kernel
theorem dX7_firstPerson_17 : decode cX7_firstPerson 17 = .ok (.iload_n 1, 1) := by decide +kernel
theorem dX7_firstPerson_18 : decode cX7_firstPerson 18 = .ok (.iastore, 1) := by decide +kernel
theorem dX7_firstPerson_19 : decode cX7_firstPerson 19 = .ok (.aload_n 0, 1) := by decide +kernel
theorem dX7_firstPerson_20 : decode cX7_firstPerson 20 = .ok (.getfield 20, 3) := by decide +kernel
theorem dX7_firstPerson_23 : decode cX7_firstPerson 23 = .ok (.iconst 3, 1) := by decide +kernel
theorem dX7_firstPerson_24 : decode cX7_firstPerson 24 = .ok (.iload 5, 2) := by decide +kernel
theorem dX7_firstPerson_26 : decode cX7_firstPerson 26 = .ok (.imul, 1) := by decide +kernel
theorem dX7_firstPerson_27 : decode cX7_firstPerson 27 = .ok (.iload_n 2, 1) := by decide +kernel
theorem dX7_firstPerson_28 : decode cX7_firstPerson 28 = .ok (.iastore, 1) := by decide +kernel
theorem dX7_firstPerson_29 : decode cX7_firstPerson 29 = .ok (.aload_n 0, 1) := by decide +kernel
theorem dX7_firstPerson_30 : decode cX7_firstPerson 30 = .ok (.getfield 20, 3) := by decide +kernel
theorem dX7_firstPerson_33 : decode cX7_firstPerson 33 = .ok (.iconst 3, 1) := by decide +kernel
theorem dX7_firstPerson_34 : decode cX7_firstPerson 34 = .ok (.iload 5, 2) := by decide +kernel
theorem dX7_firstPerson_36 : decode cX7_firstPerson 36 = .ok (.imul, 1) := by decide +kernel
theorem dX7_firstPerson_37 : decode cX7_firstPerson 37 = .ok (.iconst 1, 1) := by decide +kernel
theorem dX7_firstPerson_38 : decode cX7_firstPerson 38 = .ok (.iadd, 1) := by decide +kernel
theorem dX7_firstPerson_39 : decode cX7_firstPerson 39 = .ok (.iload_n 3, 1) := by decide +kernel
theorem dX7_firstPerson_40 : decode cX7_firstPerson 40 = .ok (.iastore, 1) := by decide +kernel
theorem dX7_firstPerson_41 : decode cX7_firstPerson 41 = .ok (.aload_n 0, 1) := by decide +kernel
theorem dX7_firstPerson_42 : decode cX7_firstPerson 42 = .ok (.getfield 20, 3) := by decide +kernel
theorem dX7_firstPerson_45 : decode cX7_firstPerson 45 = .ok (.iconst 3, 1) := by decide +kernel
theorem dX7_firstPerson_46 : decode cX7_firstPerson 46 = .ok (.iload 5, 2) := by decide +kernel
theorem dX7_firstPerson_48 : decode cX7_firstPerson 48 = .ok (.imul, 1) := by decide +kernel
theorem dX7_firstPerson_49 : decode cX7_firstPerson 49 = .ok (.iconst 2, 1) := by decide +kernel
theorem dX7_firstPerson_50 : decode cX7_firstPerson 50 = .ok (.iadd, 1) := by decide +kernel
theorem dX7_firstPerson_51 : decode cX7_firstPerson 51 = .ok (.iload 4, 2) := by decide +kernel
theorem dX7_firstPerson_53 : decode cX7_firstPerson 53 = .ok (.iastore, 1) := by decide +kernel
theorem dX7_firstPerson_54 : decode cX7_firstPerson 54 = .ok (.iconst 0, 1) := by decide +kernel
theorem dX7_firstPerson_55 : decode cX7_firstPerson 55 = .ok (.istore 6, 2) := by decide +kernel
theorem dX7_firstPerson_57 : decode cX7_firstPerson 57 = .ok (.iload 6, 2) := by decide +kernel
theorem dX7_firstPerson_59 : decode cX7_firstPerson 59 = .ok (.bipush 7, 2) := by decide +kernel
theorem dX7_firstPerson_61 : decode cX7_firstPerson 61 = .ok (.if_icmp .ge 24, 3) := by decide +kernel
theorem dX7_firstPerson_64 : decode cX7_firstPerson 64 = .ok (.aload_n 0, 1) := by decide +kernel
theorem dX7_firstPerson_65 : decode cX7_firstPerson 65 = .ok (.getfield 32, 3) := by decide +kernel
theorem dX7_firstPerson_68 : decode cX7_firstPerson 68 = .ok (.bipush 7, 2) := by decide +kernel
theorem dX7_firstPerson_70 : decode cX7_firstPerson 70 = .ok (.iload 5, 2) := by decide +kernel
theorem dX7_firstPerson_72 : decode cX7_firstPerson 72 = .ok (.imul, 1) := by decide +kernel
theorem dX7_firstPerson_73 : decode cX7_firstPerson 73 = .ok (.iload 6, 2) := by decide +kernel
theorem dX7_firstPerson_75 : decode cX7_firstPerson 75 = .ok (.iadd, 1) := by decide +kernel
theorem dX7_firstPerson_76 : decode cX7_firstPerson 76 = .ok (.bipush (-4), 2) := by decide +kernel
theorem dX7_firstPerson_78 : decode cX7_firstPerson 78 = .ok (.iastore, 1) := by decide +kernel
theorem dX7_firstPerson_79 : decode cX7_firstPerson 79 = .ok (.iinc 6 1, 3) := by decide +kernel
theorem dX7_firstPerson_82 : decode cX7_firstPerson 82 = .ok (.goto (-25), 3) := by decide +kernel
theorem dX7_firstPerson_85 : decode cX7_firstPerson 85 = .ok (.aload_n 0, 1) := by decide +kernel
theorem dX7_firstPerson_86 : decode cX7_firstPerson 86 = .ok (.getfield 13, 3) := by decide +kernel
theorem dX7_firstPerson_89 : decode cX7_firstPerson 89 = .ok (.iconst 1, 1) := by decide +kernel
theorem dX7_firstPerson_90 : decode cX7_firstPerson 90 = .ok (.dup2, 1) := by decide +kernel
theorem dX7_firstPerson_91 : decode cX7_firstPerson 91 = .ok (.iaload, 1) := by decide +kernel
theorem dX7_firstPerson_92 : decode cX7_firstPerson 92 = .ok (.iconst 1, 1) := by decide +kernel
theorem dX7_firstPerson_93 : decode cX7_firstPerson 93 = .ok (.iadd, 1) := by decide +kernel
theorem dX7_firstPerson_94 : decode cX7_firstPerson 94 = .ok (.iastore, 1) := by decide +kernel
theorem dX7_firstPerson_95 : decode cX7_firstPerson 95 = .ok (.return_, 1) := by decide +kernel
theorem dX7_firstDeed_0 : decode cX7_firstDeed 0 = .ok (.bipush 6, 2) := by decide +kernel
theorem dX7_firstDeed_2 : decode cX7_firstDeed 2 = .ok (.aload_n 0, 1) := by decide +kernel
theorem dX7_firstDeed_3 : decode cX7_firstDeed 3 = .ok (.getfield 23, 3) := by decide +kernel
theorem dX7_firstDeed_6 : decode cX7_firstDeed 6 = .ok (.iconst 1, 1) := by decide +kernel
theorem dX7_firstDeed_7 : decode cX7_firstDeed 7 = .ok (.iaload, 1) := by decide +kernel
theorem dX7_firstDeed_8 : decode cX7_firstDeed 8 = .ok (.iadd, 1) := by decide +kernel
theorem dX7_firstDeed_9 : decode cX7_firstDeed 9 = .ok (.istore 5, 2) := by decide +kernel
theorem dX7_firstDeed_11 : decode cX7_firstDeed 11 = .ok (.aload_n 0, 1) := by decide +kernel
theorem dX7_firstDeed_12 : decode cX7_firstDeed 12 = .ok (.getfield 26, 3) := by decide +kernel
theorem dX7_firstDeed_15 : decode cX7_firstDeed 15 = .ok (.iconst 3, 1) := by decide +kernel
theorem dX7_firstDeed_16 : decode cX7_firstDeed 16 = .ok (.iload 5, 2) := by decide +kernel
theorem dX7_firstDeed_18 : decode cX7_firstDeed 18 = .ok (.imul, 1) := by decide +kernel
theorem dX7_firstDeed_19 : decode cX7_firstDeed 19 = .ok (.iload_n 1, 1) := by decide +kernel
theorem dX7_firstDeed_20 : decode cX7_firstDeed 20 = .ok (.iastore, 1) := by decide +kernel
theorem dX7_firstDeed_21 : decode cX7_firstDeed 21 = .ok (.aload_n 0, 1) := by decide +kernel
theorem dX7_firstDeed_22 : decode cX7_firstDeed 22 = .ok (.getfield 26, 3) := by decide +kernel
theorem dX7_firstDeed_25 : decode cX7_firstDeed 25 = .ok (.iconst 3, 1) := by decide +kernel
theorem dX7_firstDeed_26 : decode cX7_firstDeed 26 = .ok (.iload 5, 2) := by decide +kernel
theorem dX7_firstDeed_28 : decode cX7_firstDeed 28 = .ok (.imul, 1) := by decide +kernel
theorem dX7_firstDeed_29 : decode cX7_firstDeed 29 = .ok (.iconst 1, 1) := by decide +kernel
theorem dX7_firstDeed_30 : decode cX7_firstDeed 30 = .ok (.iadd, 1) := by decide +kernel
theorem dX7_firstDeed_31 : decode cX7_firstDeed 31 = .ok (.iload_n 2, 1) := by decide +kernel
theorem dX7_firstDeed_32 : decode cX7_firstDeed 32 = .ok (.iastore, 1) := by decide +kernel
theorem dX7_firstDeed_33 : decode cX7_firstDeed 33 = .ok (.aload_n 0, 1) := by decide +kernel
theorem dX7_firstDeed_34 : decode cX7_firstDeed 34 = .ok (.getfield 26, 3) := by decide +kernel
theorem dX7_firstDeed_37 : decode cX7_firstDeed 37 = .ok (.iconst 3, 1) := by decide +kernel
theorem dX7_firstDeed_38 : decode cX7_firstDeed 38 = .ok (.iload 5, 2) := by decide +kernel
theorem dX7_firstDeed_40 : decode cX7_firstDeed 40 = .ok (.imul, 1) := by decide +kernel
theorem dX7_firstDeed_41 : decode cX7_firstDeed 41 = .ok (.iconst 2, 1) := by decide +kernel
theorem dX7_firstDeed_42 : decode cX7_firstDeed 42 = .ok (.iadd, 1) := by decide +kernel
theorem dX7_firstDeed_43 : decode cX7_firstDeed 43 = .ok (.iload_n 3, 1) := by decide +kernel
theorem dX7_firstDeed_44 : decode cX7_firstDeed 44 = .ok (.iastore, 1) := by decide +kernel
theorem dX7_firstDeed_45 : decode cX7_firstDeed 45 = .ok (.aload_n 0, 1) := by decide +kernel
theorem dX7_firstDeed_46 : decode cX7_firstDeed 46 = .ok (.getfield 29, 3) := by decide +kernel
theorem dX7_firstDeed_49 : decode cX7_firstDeed 49 = .ok (.iload 5, 2) := by decide +kernel
theorem dX7_firstDeed_51 : decode cX7_firstDeed 51 = .ok (.iload 4, 2) := by decide +kernel
theorem dX7_firstDeed_53 : decode cX7_firstDeed 53 = .ok (.iastore, 1) := by decide +kernel
theorem dX7_firstDeed_54 : decode cX7_firstDeed 54 = .ok (.aload_n 0, 1) := by decide +kernel
theorem dX7_firstDeed_55 : decode cX7_firstDeed 55 = .ok (.getfield 23, 3) := by decide +kernel
theorem dX7_firstDeed_58 : decode cX7_firstDeed 58 = .ok (.iconst 1, 1) := by decide +kernel
theorem dX7_firstDeed_59 : decode cX7_firstDeed 59 = .ok (.dup2, 1) := by decide +kernel
theorem dX7_firstDeed_60 : decode cX7_firstDeed 60 = .ok (.iaload, 1) := by decide +kernel
theorem dX7_firstDeed_61 : decode cX7_firstDeed 61 = .ok (.iconst 1, 1) := by decide +kernel
theorem dX7_firstDeed_62 : decode cX7_firstDeed 62 = .ok (.iadd, 1) := by decide +kernel
theorem dX7_firstDeed_63 : decode cX7_firstDeed 63 = .ok (.iastore, 1) := by decide +kernel
theorem dX7_firstDeed_64 : decode cX7_firstDeed 64 = .ok (.return_, 1) := by decide +kernel
theorem dX7_in_0 : decode cX7_in 0 = .ok (.iload_n 0, 1) := by decide +kernel
theorem dX7_in_1 : decode cX7_in 1 = .ok (.iload_n 1, 1) := by decide +kernel
theorem dX7_in_2 : decode cX7_in 2 = .ok (.if_icmp .lt 12, 3) := by decide +kernel
theorem dX7_in_5 : decode cX7_in 5 = .ok (.iload_n 0, 1) := by decide +kernel
theorem dX7_in_6 : decode cX7_in 6 = .ok (.iload_n 2, 1) := by decide +kernel
theorem dX7_in_7 : decode cX7_in 7 = .ok (.if_icmp .gt 7, 3) := by decide +kernel
theorem dX7_in_10 : decode cX7_in 10 = .ok (.iconst 1, 1) := by decide +kernel
theorem dX7_in_11 : decode cX7_in 11 = .ok (.goto 4, 3) := by decide +kernel
theorem dX7_in_14 : decode cX7_in 14 = .ok (.iconst 0, 1) := by decide +kernel
theorem dX7_in_15 : decode cX7_in 15 = .ok (.ireturn, 1) := by decide +kernel
theorem dX7_write_0 : decode cX7_write 0 = .ok (.iload_n 1, 1) := by decide +kernel
theorem dX7_write_1 : decode cX7_write 1 = .ok (.bipush 32, 2) := by decide +kernel
theorem dX7_write_3 : decode cX7_write 3 = .ok (.bipush 126, 2) := by decide +kernel
theorem dX7_write_5 : decode cX7_write 5 = .ok (.invokestatic 66, 3) := by decide +kernel
theorem dX7_write_8 : decode cX7_write 8 = .ok (.ifCond .ne 5, 3) := by decide +kernel
theorem dX7_write_11 : decode cX7_write 11 = .ok (.iconst (-1), 1) := by decide +kernel
theorem dX7_write_12 : decode cX7_write 12 = .ok (.ireturn, 1) := by decide +kernel
theorem dX7_write_13 : decode cX7_write 13 = .ok (.aload_n 0, 1) := by decide +kernel
theorem dX7_write_14 : decode cX7_write 14 = .ok (.getfield 70, 3) := by decide +kernel
theorem dX7_write_17 : decode cX7_write 17 = .ok (.sipush 200, 3) := by decide +kernel
theorem dX7_write_20 : decode cX7_write 20 = .ok (.if_icmp .ne 6, 3) := by decide +kernel
theorem dX7_write_23 : decode cX7_write 23 = .ok (.bipush (-3), 2) := by decide +kernel
theorem dX7_write_25 : decode cX7_write 25 = .ok (.ireturn, 1) := by decide +kernel
theorem dX7_write_26 : decode cX7_write 26 = .ok (.aload_n 0, 1) := by decide +kernel
theorem dX7_write_27 : decode cX7_write 27 = .ok (.getfield 7, 3) := by decide +kernel
theorem dX7_write_30 : decode cX7_write 30 = .ok (.aload_n 0, 1) := by decide +kernel
theorem dX7_write_31 : decode cX7_write 31 = .ok (.getfield 70, 3) := by decide +kernel
theorem dX7_write_34 : decode cX7_write 34 = .ok (.iload_n 1, 1) := by decide +kernel
theorem dX7_write_35 : decode cX7_write 35 = .ok (.i2b, 1) := by decide +kernel
theorem dX7_write_36 : decode cX7_write 36 = .ok (.bastore, 1) := by decide +kernel
theorem dX7_write_37 : decode cX7_write 37 = .ok (.aload_n 0, 1) := by decide +kernel
theorem dX7_write_38 : decode cX7_write 38 = .ok (.dup, 1) := by decide +kernel
theorem dX7_write_39 : decode cX7_write 39 = .ok (.getfield 70, 3) := by decide +kernel
theorem dX7_write_42 : decode cX7_write 42 = .ok (.iconst 1, 1) := by decide +kernel
theorem dX7_write_43 : decode cX7_write 43 = .ok (.iadd, 1) := by decide +kernel
theorem dX7_write_44 : decode cX7_write 44 = .ok (.putfield 70, 3) := by decide +kernel
theorem dX7_write_47 : decode cX7_write 47 = .ok (.aload_n 0, 1) := by decide +kernel
theorem dX7_write_48 : decode cX7_write 48 = .ok (.getfield 70, 3) := by decide +kernel
theorem dX7_write_51 : decode cX7_write 51 = .ok (.ireturn, 1) := by decide +kernel
theorem dX7_wipe_0 : decode cX7_wipe 0 = .ok (.aload_n 0, 1) := by decide +kernel
theorem dX7_wipe_1 : decode cX7_wipe 1 = .ok (.getfield 70, 3) := by decide +kernel
theorem dX7_wipe_4 : decode cX7_wipe 4 = .ok (.istore_n 1, 1) := by decide +kernel
theorem dX7_wipe_5 : decode cX7_wipe 5 = .ok (.aload_n 0, 1) := by decide +kernel
theorem dX7_wipe_6 : decode cX7_wipe 6 = .ok (.iconst 0, 1) := by decide +kernel
theorem dX7_wipe_7 : decode cX7_wipe 7 = .ok (.putfield 70, 3) := by decide +kernel
theorem dX7_wipe_10 : decode cX7_wipe 10 = .ok (.iload_n 1, 1) := by decide +kernel
theorem dX7_wipe_11 : decode cX7_wipe 11 = .ok (.ireturn, 1) := by decide +kernel
theorem dX7_here_0 : decode cX7_here 0 = .ok (.aload_n 0, 1) := by decide +kernel
theorem dX7_here_1 : decode cX7_here 1 = .ok (.getfield 74, 3) := by decide +kernel
theorem dX7_here_4 : decode cX7_here 4 = .ok (.aload_n 0, 1) := by decide +kernel
theorem dX7_here_5 : decode cX7_here 5 = .ok (.getfield 70, 3) := by decide +kernel
theorem dX7_here_8 : decode cX7_here 8 = .ok (.if_icmp .ge 15, 3) := by decide +kernel
theorem dX7_here_11 : decode cX7_here 11 = .ok (.aload_n 0, 1) := by decide +kernel
theorem dX7_here_12 : decode cX7_here 12 = .ok (.getfield 7, 3) := by decide +kernel
theorem dX7_here_15 : decode cX7_here 15 = .ok (.aload_n 0, 1) := by decide +kernel
theorem dX7_here_16 : decode cX7_here 16 = .ok (.getfield 74, 3) := by decide +kernel
theorem dX7_here_19 : decode cX7_here 19 = .ok (.baload, 1) := by decide +kernel
theorem dX7_here_20 : decode cX7_here 20 = .ok (.goto 4, 3) := by decide +kernel
theorem dX7_here_23 : decode cX7_here 23 = .ok (.iconst (-1), 1) := by decide +kernel
theorem dX7_here_24 : decode cX7_here 24 = .ok (.ireturn, 1) := by decide +kernel
theorem dX7_number_0 : decode cX7_number 0 = .ok (.iconst 0, 1) := by decide +kernel
theorem dX7_number_1 : decode cX7_number 1 = .ok (.istore 4, 2) := by decide +kernel
theorem dX7_number_3 : decode cX7_number 3 = .ok (.iconst 0, 1) := by decide +kernel
theorem dX7_number_4 : decode cX7_number 4 = .ok (.istore 5, 2) := by decide +kernel
theorem dX7_number_6 : decode cX7_number 6 = .ok (.iload 5, 2) := by decide +kernel
theorem dX7_number_8 : decode cX7_number 8 = .ok (.iconst 2, 1) := by decide +kernel
theorem dX7_number_9 : decode cX7_number 9 = .ok (.if_icmp .ge 48, 3) := by decide +kernel
theorem dX7_number_12 : decode cX7_number 12 = .ok (.aload_n 0, 1) := by decide +kernel
theorem dX7_number_13 : decode cX7_number 13 = .ok (.invokevirtual 77, 3) := by decide +kernel
theorem dX7_number_16 : decode cX7_number 16 = .ok (.bipush 48, 2) := by decide +kernel
theorem dX7_number_18 : decode cX7_number 18 = .ok (.bipush 57, 2) := by decide +kernel
theorem dX7_number_20 : decode cX7_number 20 = .ok (.invokestatic 66, 3) := by decide +kernel
theorem dX7_number_23 : decode cX7_number 23 = .ok (.ifCond .eq 34, 3) := by decide +kernel
theorem dX7_number_26 : decode cX7_number 26 = .ok (.bipush 10, 2) := by decide +kernel
theorem dX7_number_28 : decode cX7_number 28 = .ok (.iload 4, 2) := by decide +kernel
theorem dX7_number_30 : decode cX7_number 30 = .ok (.imul, 1) := by decide +kernel
theorem dX7_number_31 : decode cX7_number 31 = .ok (.aload_n 0, 1) := by decide +kernel
theorem dX7_number_32 : decode cX7_number 32 = .ok (.invokevirtual 77, 3) := by decide +kernel
theorem dX7_number_35 : decode cX7_number 35 = .ok (.iadd, 1) := by decide +kernel
theorem dX7_number_36 : decode cX7_number 36 = .ok (.bipush 48, 2) := by decide +kernel
theorem dX7_number_38 : decode cX7_number 38 = .ok (.isub, 1) := by decide +kernel
theorem dX7_number_39 : decode cX7_number 39 = .ok (.istore 4, 2) := by decide +kernel
theorem dX7_number_41 : decode cX7_number 41 = .ok (.aload_n 0, 1) := by decide +kernel
theorem dX7_number_42 : decode cX7_number 42 = .ok (.dup, 1) := by decide +kernel
theorem dX7_number_43 : decode cX7_number 43 = .ok (.getfield 74, 3) := by decide +kernel
theorem dX7_number_46 : decode cX7_number 46 = .ok (.iconst 1, 1) := by decide +kernel
theorem dX7_number_47 : decode cX7_number 47 = .ok (.iadd, 1) := by decide +kernel
theorem dX7_number_48 : decode cX7_number 48 = .ok (.putfield 74, 3) := by decide +kernel
theorem dX7_number_51 : decode cX7_number 51 = .ok (.iinc 5 1, 3) := by decide +kernel
theorem dX7_number_54 : decode cX7_number 54 = .ok (.goto (-48), 3) := by decide +kernel
theorem dX7_number_57 : decode cX7_number 57 = .ok (.aload_n 0, 1) := by decide +kernel
theorem dX7_number_58 : decode cX7_number 58 = .ok (.aload_n 0, 1) := by decide +kernel
theorem dX7_number_59 : decode cX7_number 59 = .ok (.getfield 81, 3) := by decide +kernel
theorem dX7_number_62 : decode cX7_number 62 = .ok (.ifCond .eq 30, 3) := by decide +kernel
theorem dX7_number_65 : decode cX7_number 65 = .ok (.iload 5, 2) := by decide +kernel
theorem dX7_number_67 : decode cX7_number 67 = .ok (.ifCond .le 25, 3) := by decide +kernel
theorem dX7_number_70 : decode cX7_number 70 = .ok (.iload 4, 2) := by decide +kernel
theorem dX7_number_72 : decode cX7_number 72 = .ok (.iload_n 1, 1) := by decide +kernel
theorem dX7_number_73 : decode cX7_number 73 = .ok (.iload_n 2, 1) := by decide +kernel
theorem dX7_number_74 : decode cX7_number 74 = .ok (.invokestatic 66, 3) := by decide +kernel
theorem dX7_number_77 : decode cX7_number 77 = .ok (.ifCond .eq 15, 3) := by decide +kernel
theorem dX7_number_80 : decode cX7_number 80 = .ok (.aload_n 0, 1) := by decide +kernel
theorem dX7_number_81 : decode cX7_number 81 = .ok (.invokevirtual 77, 3) := by decide +kernel
theorem dX7_number_84 : decode cX7_number 84 = .ok (.iload_n 3, 1) := by decide +kernel
theorem dX7_number_85 : decode cX7_number 85 = .ok (.if_icmp .ne 7, 3) := by decide +kernel
theorem dX7_number_88 : decode cX7_number 88 = .ok (.iconst 1, 1) := by decide +kernel
theorem dX7_number_89 : decode cX7_number 89 = .ok (.goto 4, 3) := by decide +kernel
theorem dX7_number_92 : decode cX7_number 92 = .ok (.iconst 0, 1) := by decide +kernel
theorem dX7_number_93 : decode cX7_number 93 = .ok (.putfield 81, 3) := by decide +kernel
theorem dX7_number_96 : decode cX7_number 96 = .ok (.aload_n 0, 1) := by decide +kernel
theorem dX7_number_97 : decode cX7_number 97 = .ok (.dup, 1) := by decide +kernel
theorem dX7_number_98 : decode cX7_number 98 = .ok (.getfield 74, 3) := by decide +kernel
theorem dX7_number_101 : decode cX7_number 101 = .ok (.iconst 1, 1) := by decide +kernel
theorem dX7_number_102 : decode cX7_number 102 = .ok (.iadd, 1) := by decide +kernel
theorem dX7_number_103 : decode cX7_number 103 = .ok (.putfield 74, 3) := by decide +kernel
theorem dX7_number_106 : decode cX7_number 106 = .ok (.iload 4, 2) := by decide +kernel
theorem dX7_number_108 : decode cX7_number 108 = .ok (.ireturn, 1) := by decide +kernel
theorem dX7_readItem_0 : decode cX7_readItem 0 = .ok (.aload_n 0, 1) := by decide +kernel
theorem dX7_readItem_1 : decode cX7_readItem 1 = .ok (.invokevirtual 77, 3) := by decide +kernel
theorem dX7_readItem_4 : decode cX7_readItem 4 = .ok (.istore_n 1, 1) := by decide +kernel
theorem dX7_readItem_5 : decode cX7_readItem 5 = .ok (.aload_n 0, 1) := by decide +kernel
theorem dX7_readItem_6 : decode cX7_readItem 6 = .ok (.dup, 1) := by decide +kernel
theorem dX7_readItem_7 : decode cX7_readItem 7 = .ok (.getfield 74, 3) := by decide +kernel
theorem dX7_readItem_10 : decode cX7_readItem 10 = .ok (.iconst 1, 1) := by decide +kernel
theorem dX7_readItem_11 : decode cX7_readItem 11 = .ok (.iadd, 1) := by decide +kernel
theorem dX7_readItem_12 : decode cX7_readItem 12 = .ok (.putfield 74, 3) := by decide +kernel
theorem dX7_readItem_15 : decode cX7_readItem 15 = .ok (.aload_n 0, 1) := by decide +kernel
theorem dX7_readItem_16 : decode cX7_readItem 16 = .ok (.iconst 1, 1) := by decide +kernel
theorem dX7_readItem_17 : decode cX7_readItem 17 = .ok (.putfield 81, 3) := by decide +kernel
theorem dX7_readItem_20 : decode cX7_readItem 20 = .ok (.iload_n 1, 1) := by decide +kernel
theorem dX7_readItem_21 : decode cX7_readItem 21 = .ok (.lookupswitch 315 #[(99, 297), (100, 124), (104, 228), (112, 43)], 43) := by decide +kernel
theorem dX7_readItem_64 : decode cX7_readItem 64 = .ok (.aload_n 0, 1) := by decide +kernel
theorem dX7_readItem_65 : decode cX7_readItem 65 = .ok (.aload_n 0, 1) := by decide +kernel
theorem dX7_readItem_66 : decode cX7_readItem 66 = .ok (.getfield 13, 3) := by decide +kernel
theorem dX7_readItem_69 : decode cX7_readItem 69 = .ok (.iconst 1, 1) := by decide +kernel
theorem dX7_readItem_70 : decode cX7_readItem 70 = .ok (.iaload, 1) := by decide +kernel
theorem dX7_readItem_71 : decode cX7_readItem 71 = .ok (.bipush 6, 2) := by decide +kernel
theorem dX7_readItem_73 : decode cX7_readItem 73 = .ok (.if_icmp .ge 7, 3) := by decide +kernel
theorem dX7_readItem_76 : decode cX7_readItem 76 = .ok (.iconst 1, 1) := by decide +kernel
theorem dX7_readItem_77 : decode cX7_readItem 77 = .ok (.goto 4, 3) := by decide +kernel
theorem dX7_readItem_80 : decode cX7_readItem 80 = .ok (.iconst 0, 1) := by decide +kernel
theorem dX7_readItem_81 : decode cX7_readItem 81 = .ok (.putfield 81, 3) := by decide +kernel
theorem dX7_readItem_84 : decode cX7_readItem 84 = .ok (.aload_n 0, 1) := by decide +kernel
theorem dX7_readItem_85 : decode cX7_readItem 85 = .ok (.iconst 0, 1) := by decide +kernel
theorem dX7_readItem_86 : decode cX7_readItem 86 = .ok (.iconst 4, 1) := by decide +kernel
theorem dX7_readItem_87 : decode cX7_readItem 87 = .ok (.bipush 44, 2) := by decide +kernel
theorem dX7_readItem_89 : decode cX7_readItem 89 = .ok (.invokevirtual 85, 3) := by decide +kernel
theorem dX7_readItem_92 : decode cX7_readItem 92 = .ok (.istore_n 2, 1) := by decide +kernel
theorem dX7_readItem_93 : decode cX7_readItem 93 = .ok (.aload_n 0, 1) := by decide +kernel
theorem dX7_readItem_94 : decode cX7_readItem 94 = .ok (.iconst 0, 1) := by decide +kernel
theorem dX7_readItem_95 : decode cX7_readItem 95 = .ok (.bipush 9, 2) := by decide +kernel
theorem dX7_readItem_97 : decode cX7_readItem 97 = .ok (.bipush 44, 2) := by decide +kernel
theorem dX7_readItem_99 : decode cX7_readItem 99 = .ok (.invokevirtual 85, 3) := by decide +kernel
theorem dX7_readItem_102 : decode cX7_readItem 102 = .ok (.istore_n 3, 1) := by decide +kernel
theorem dX7_readItem_103 : decode cX7_readItem 103 = .ok (.aload_n 0, 1) := by decide +kernel
theorem dX7_readItem_104 : decode cX7_readItem 104 = .ok (.iconst 0, 1) := by decide +kernel
theorem dX7_readItem_105 : decode cX7_readItem 105 = .ok (.bipush 9, 2) := by decide +kernel
theorem dX7_readItem_107 : decode cX7_readItem 107 = .ok (.bipush 44, 2) := by decide +kernel
theorem dX7_readItem_109 : decode cX7_readItem 109 = .ok (.invokevirtual 85, 3) := by decide +kernel
theorem dX7_readItem_112 : decode cX7_readItem 112 = .ok (.istore 4, 2) := by decide +kernel
theorem dX7_readItem_114 : decode cX7_readItem 114 = .ok (.aload_n 0, 1) := by decide +kernel
theorem dX7_readItem_115 : decode cX7_readItem 115 = .ok (.iconst 0, 1) := by decide +kernel
theorem dX7_readItem_116 : decode cX7_readItem 116 = .ok (.bipush 9, 2) := by decide +kernel
theorem dX7_readItem_118 : decode cX7_readItem 118 = .ok (.bipush 59, 2) := by decide +kernel
theorem dX7_readItem_120 : decode cX7_readItem 120 = .ok (.invokevirtual 85, 3) := by decide +kernel
theorem dX7_readItem_123 : decode cX7_readItem 123 = .ok (.istore 5, 2) := by decide +kernel
theorem dX7_readItem_125 : decode cX7_readItem 125 = .ok (.aload_n 0, 1) := by decide +kernel
theorem dX7_readItem_126 : decode cX7_readItem 126 = .ok (.getfield 81, 3) := by decide +kernel
theorem dX7_readItem_129 : decode cX7_readItem 129 = .ok (.ifCond .eq 212, 3) := by decide +kernel
theorem dX7_readItem_132 : decode cX7_readItem 132 = .ok (.aload_n 0, 1) := by decide +kernel
theorem dX7_readItem_133 : decode cX7_readItem 133 = .ok (.iload_n 2, 1) := by decide +kernel
theorem dX7_readItem_134 : decode cX7_readItem 134 = .ok (.iload_n 3, 1) := by decide +kernel
theorem dX7_readItem_135 : decode cX7_readItem 135 = .ok (.iload 4, 2) := by decide +kernel
theorem dX7_readItem_137 : decode cX7_readItem 137 = .ok (.iload 5, 2) := by decide +kernel
theorem dX7_readItem_139 : decode cX7_readItem 139 = .ok (.invokevirtual 56, 3) := by decide +kernel
theorem dX7_readItem_142 : decode cX7_readItem 142 = .ok (.goto 199, 3) := by decide +kernel
theorem dX7_readItem_145 : decode cX7_readItem 145 = .ok (.aload_n 0, 1) := by decide +kernel
theorem dX7_readItem_146 : decode cX7_readItem 146 = .ok (.aload_n 0, 1) := by decide +kernel
theorem dX7_readItem_147 : decode cX7_readItem 147 = .ok (.getfield 23, 3) := by decide +kernel
theorem dX7_readItem_150 : decode cX7_readItem 150 = .ok (.iconst 1, 1) := by decide +kernel
theorem dX7_readItem_151 : decode cX7_readItem 151 = .ok (.iaload, 1) := by decide +kernel
theorem dX7_readItem_152 : decode cX7_readItem 152 = .ok (.bipush 6, 2) := by decide +kernel
theorem dX7_readItem_154 : decode cX7_readItem 154 = .ok (.if_icmp .ge 7, 3) := by decide +kernel
theorem dX7_readItem_157 : decode cX7_readItem 157 = .ok (.iconst 1, 1) := by decide +kernel
theorem dX7_readItem_158 : decode cX7_readItem 158 = .ok (.goto 4, 3) := by decide +kernel
theorem dX7_readItem_161 : decode cX7_readItem 161 = .ok (.iconst 0, 1) := by decide +kernel
theorem dX7_readItem_162 : decode cX7_readItem 162 = .ok (.putfield 81, 3) := by decide +kernel
theorem dX7_readItem_165 : decode cX7_readItem 165 = .ok (.aload_n 0, 1) := by decide +kernel
theorem dX7_readItem_166 : decode cX7_readItem 166 = .ok (.iconst 0, 1) := by decide +kernel
theorem dX7_readItem_167 : decode cX7_readItem 167 = .ok (.iconst 4, 1) := by decide +kernel
theorem dX7_readItem_168 : decode cX7_readItem 168 = .ok (.bipush 44, 2) := by decide +kernel
theorem dX7_readItem_170 : decode cX7_readItem 170 = .ok (.invokevirtual 85, 3) := by decide +kernel
theorem dX7_readItem_173 : decode cX7_readItem 173 = .ok (.istore_n 2, 1) := by decide +kernel
theorem dX7_readItem_174 : decode cX7_readItem 174 = .ok (.aload_n 0, 1) := by decide +kernel
theorem dX7_readItem_175 : decode cX7_readItem 175 = .ok (.iconst 0, 1) := by decide +kernel
theorem dX7_readItem_176 : decode cX7_readItem 176 = .ok (.iconst 4, 1) := by decide +kernel
theorem dX7_readItem_177 : decode cX7_readItem 177 = .ok (.bipush 44, 2) := by decide +kernel
theorem dX7_readItem_179 : decode cX7_readItem 179 = .ok (.invokevirtual 85, 3) := by decide +kernel
theorem dX7_readItem_182 : decode cX7_readItem 182 = .ok (.istore_n 3, 1) := by decide +kernel
theorem dX7_readItem_183 : decode cX7_readItem 183 = .ok (.aload_n 0, 1) := by decide +kernel
theorem dX7_readItem_184 : decode cX7_readItem 184 = .ok (.iconst 0, 1) := by decide +kernel
theorem dX7_readItem_185 : decode cX7_readItem 185 = .ok (.iconst 4, 1) := by decide +kernel
theorem dX7_readItem_186 : decode cX7_readItem 186 = .ok (.bipush 44, 2) := by decide +kernel
theorem dX7_readItem_188 : decode cX7_readItem 188 = .ok (.invokevirtual 85, 3) := by decide +kernel
theorem dX7_readItem_191 : decode cX7_readItem 191 = .ok (.istore 4, 2) := by decide +kernel
theorem dX7_readItem_193 : decode cX7_readItem 193 = .ok (.aload_n 0, 1) := by decide +kernel
theorem dX7_readItem_194 : decode cX7_readItem 194 = .ok (.iconst 0, 1) := by decide +kernel
theorem dX7_readItem_195 : decode cX7_readItem 195 = .ok (.bipush 9, 2) := by decide +kernel
theorem dX7_readItem_197 : decode cX7_readItem 197 = .ok (.bipush 59, 2) := by decide +kernel
theorem dX7_readItem_199 : decode cX7_readItem 199 = .ok (.invokevirtual 85, 3) := by decide +kernel
theorem dX7_readItem_202 : decode cX7_readItem 202 = .ok (.istore 5, 2) := by decide +kernel
theorem dX7_readItem_204 : decode cX7_readItem 204 = .ok (.aload_n 0, 1) := by decide +kernel
theorem dX7_readItem_205 : decode cX7_readItem 205 = .ok (.aload_n 0, 1) := by decide +kernel
theorem dX7_readItem_206 : decode cX7_readItem 206 = .ok (.getfield 81, 3) := by decide +kernel
theorem dX7_readItem_209 : decode cX7_readItem 209 = .ok (.ifCond .eq 16, 3) := by decide +kernel
theorem dX7_readItem_212 : decode cX7_readItem 212 = .ok (.iload_n 2, 1) := by decide +kernel
theorem dX7_readItem_213 : decode cX7_readItem 213 = .ok (.iload_n 3, 1) := by decide +kernel
theorem dX7_readItem_214 : decode cX7_readItem 214 = .ok (.iadd, 1) := by decide +kernel
theorem dX7_readItem_215 : decode cX7_readItem 215 = .ok (.iload 4, 2) := by decide +kernel
theorem dX7_readItem_217 : decode cX7_readItem 217 = .ok (.iadd, 1) := by decide +kernel
theorem dX7_readItem_218 : decode cX7_readItem 218 = .ok (.ifCond .le 7, 3) := by decide +kernel
theorem dX7_readItem_221 : decode cX7_readItem 221 = .ok (.iconst 1, 1) := by decide +kernel
theorem dX7_readItem_222 : decode cX7_readItem 222 = .ok (.goto 4, 3) := by decide +kernel
theorem dX7_readItem_225 : decode cX7_readItem 225 = .ok (.iconst 0, 1) := by decide +kernel
theorem dX7_readItem_226 : decode cX7_readItem 226 = .ok (.putfield 81, 3) := by decide +kernel
theorem dX7_readItem_229 : decode cX7_readItem 229 = .ok (.aload_n 0, 1) := by decide +kernel
theorem dX7_readItem_230 : decode cX7_readItem 230 = .ok (.getfield 81, 3) := by decide +kernel
theorem dX7_readItem_233 : decode cX7_readItem 233 = .ok (.ifCond .eq 108, 3) := by decide +kernel
theorem dX7_readItem_236 : decode cX7_readItem 236 = .ok (.aload_n 0, 1) := by decide +kernel
theorem dX7_readItem_237 : decode cX7_readItem 237 = .ok (.iload_n 2, 1) := by decide +kernel
theorem dX7_readItem_238 : decode cX7_readItem 238 = .ok (.iload_n 3, 1) := by decide +kernel
theorem dX7_readItem_239 : decode cX7_readItem 239 = .ok (.iload 4, 2) := by decide +kernel
theorem dX7_readItem_241 : decode cX7_readItem 241 = .ok (.iload 5, 2) := by decide +kernel
theorem dX7_readItem_243 : decode cX7_readItem 243 = .ok (.invokevirtual 60, 3) := by decide +kernel
theorem dX7_readItem_246 : decode cX7_readItem 246 = .ok (.goto 95, 3) := by decide +kernel
theorem dX7_readItem_249 : decode cX7_readItem 249 = .ok (.aload_n 0, 1) := by decide +kernel
theorem dX7_readItem_250 : decode cX7_readItem 250 = .ok (.iconst 0, 1) := by decide +kernel
theorem dX7_readItem_251 : decode cX7_readItem 251 = .ok (.aload_n 0, 1) := by decide +kernel
theorem dX7_readItem_252 : decode cX7_readItem 252 = .ok (.getfield 13, 3) := by decide +kernel
theorem dX7_readItem_255 : decode cX7_readItem 255 = .ok (.iconst 1, 1) := by decide +kernel
theorem dX7_readItem_256 : decode cX7_readItem 256 = .ok (.iaload, 1) := by decide +kernel
theorem dX7_readItem_257 : decode cX7_readItem 257 = .ok (.iconst 1, 1) := by decide +kernel
theorem dX7_readItem_258 : decode cX7_readItem 258 = .ok (.isub, 1) := by decide +kernel
theorem dX7_readItem_259 : decode cX7_readItem 259 = .ok (.bipush 44, 2) := by decide +kernel
theorem dX7_readItem_261 : decode cX7_readItem 261 = .ok (.invokevirtual 85, 3) := by decide +kernel
theorem dX7_readItem_264 : decode cX7_readItem 264 = .ok (.istore_n 2, 1) := by decide +kernel
theorem dX7_readItem_265 : decode cX7_readItem 265 = .ok (.aload_n 0, 1) := by decide +kernel
theorem dX7_readItem_266 : decode cX7_readItem 266 = .ok (.iconst 0, 1) := by decide +kernel
theorem dX7_readItem_267 : decode cX7_readItem 267 = .ok (.bipush 6, 2) := by decide +kernel
theorem dX7_readItem_269 : decode cX7_readItem 269 = .ok (.bipush 44, 2) := by decide +kernel
theorem dX7_readItem_271 : decode cX7_readItem 271 = .ok (.invokevirtual 85, 3) := by decide +kernel
theorem dX7_readItem_274 : decode cX7_readItem 274 = .ok (.istore_n 3, 1) := by decide +kernel
theorem dX7_readItem_275 : decode cX7_readItem 275 = .ok (.aload_n 0, 1) := by decide +kernel
theorem dX7_readItem_276 : decode cX7_readItem 276 = .ok (.iconst 0, 1) := by decide +kernel
theorem dX7_readItem_277 : decode cX7_readItem 277 = .ok (.aload_n 0, 1) := by decide +kernel
theorem dX7_readItem_278 : decode cX7_readItem 278 = .ok (.getfield 23, 3) := by decide +kernel
theorem dX7_readItem_281 : decode cX7_readItem 281 = .ok (.iconst 1, 1) := by decide +kernel
theorem dX7_readItem_282 : decode cX7_readItem 282 = .ok (.iaload, 1) := by decide +kernel
theorem dX7_readItem_283 : decode cX7_readItem 283 = .ok (.iconst 1, 1) := by decide +kernel
theorem dX7_readItem_284 : decode cX7_readItem 284 = .ok (.isub, 1) := by decide +kernel
theorem dX7_readItem_285 : decode cX7_readItem 285 = .ok (.bipush 59, 2) := by decide +kernel
theorem dX7_readItem_287 : decode cX7_readItem 287 = .ok (.invokevirtual 85, 3) := by decide +kernel
theorem dX7_readItem_290 : decode cX7_readItem 290 = .ok (.istore 4, 2) := by decide +kernel
theorem dX7_readItem_292 : decode cX7_readItem 292 = .ok (.aload_n 0, 1) := by decide +kernel
theorem dX7_readItem_293 : decode cX7_readItem 293 = .ok (.getfield 81, 3) := by decide +kernel
theorem dX7_readItem_296 : decode cX7_readItem 296 = .ok (.ifCond .eq 45, 3) := by decide +kernel
theorem dX7_readItem_299 : decode cX7_readItem 299 = .ok (.aload_n 0, 1) := by decide +kernel
theorem dX7_readItem_300 : decode cX7_readItem 300 = .ok (.getfield 32, 3) := by decide +kernel
theorem dX7_readItem_303 : decode cX7_readItem 303 = .ok (.bipush 7, 2) := by decide +kernel
theorem dX7_readItem_305 : decode cX7_readItem 305 = .ok (.bipush 6, 2) := by decide +kernel
theorem dX7_readItem_307 : decode cX7_readItem 307 = .ok (.iload_n 2, 1) := by decide +kernel
theorem dX7_readItem_308 : decode cX7_readItem 308 = .ok (.iadd, 1) := by decide +kernel
theorem dX7_readItem_309 : decode cX7_readItem 309 = .ok (.imul, 1) := by decide +kernel
theorem dX7_readItem_310 : decode cX7_readItem 310 = .ok (.iload_n 3, 1) := by decide +kernel
theorem dX7_readItem_311 : decode cX7_readItem 311 = .ok (.iadd, 1) := by decide +kernel
theorem dX7_readItem_312 : decode cX7_readItem 312 = .ok (.iload 4, 2) := by decide +kernel
theorem dX7_readItem_314 : decode cX7_readItem 314 = .ok (.iastore, 1) := by decide +kernel
theorem dX7_readItem_315 : decode cX7_readItem 315 = .ok (.goto 26, 3) := by decide +kernel
theorem dX7_readItem_318 : decode cX7_readItem 318 = .ok (.aload_n 0, 1) := by decide +kernel
theorem dX7_readItem_319 : decode cX7_readItem 319 = .ok (.getfield 35, 3) := by decide +kernel
theorem dX7_readItem_322 : decode cX7_readItem 322 = .ok (.iconst 1, 1) := by decide +kernel
theorem dX7_readItem_323 : decode cX7_readItem 323 = .ok (.aload_n 0, 1) := by decide +kernel
theorem dX7_readItem_324 : decode cX7_readItem 324 = .ok (.iconst 0, 1) := by decide +kernel
theorem dX7_readItem_325 : decode cX7_readItem 325 = .ok (.bipush 9, 2) := by decide +kernel
theorem dX7_readItem_327 : decode cX7_readItem 327 = .ok (.bipush 59, 2) := by decide +kernel
theorem dX7_readItem_329 : decode cX7_readItem 329 = .ok (.invokevirtual 85, 3) := by decide +kernel
theorem dX7_readItem_332 : decode cX7_readItem 332 = .ok (.iastore, 1) := by decide +kernel
theorem dX7_readItem_333 : decode cX7_readItem 333 = .ok (.goto 8, 3) := by decide +kernel
theorem dX7_readItem_336 : decode cX7_readItem 336 = .ok (.aload_n 0, 1) := by decide +kernel
theorem dX7_readItem_337 : decode cX7_readItem 337 = .ok (.iconst 0, 1) := by decide +kernel
theorem dX7_readItem_338 : decode cX7_readItem 338 = .ok (.putfield 81, 3) := by decide +kernel
theorem dX7_readItem_341 : decode cX7_readItem 341 = .ok (.return_, 1) := by decide +kernel
theorem dX7_fault_0 : decode cX7_fault 0 = .ok (.aload_n 0, 1) := by decide +kernel
theorem dX7_fault_1 : decode cX7_fault 1 = .ok (.iconst 0, 1) := by decide +kernel
theorem dX7_fault_2 : decode cX7_fault 2 = .ok (.putfield 74, 3) := by decide +kernel
theorem dX7_fault_5 : decode cX7_fault 5 = .ok (.aload_n 0, 1) := by decide +kernel
theorem dX7_fault_6 : decode cX7_fault 6 = .ok (.getfield 13, 3) := by decide +kernel
theorem dX7_fault_9 : decode cX7_fault 9 = .ok (.iconst 1, 1) := by decide +kernel
theorem dX7_fault_10 : decode cX7_fault 10 = .ok (.iconst 0, 1) := by decide +kernel
theorem dX7_fault_11 : decode cX7_fault 11 = .ok (.iastore, 1) := by decide +kernel
theorem dX7_fault_12 : decode cX7_fault 12 = .ok (.aload_n 0, 1) := by decide +kernel
theorem dX7_fault_13 : decode cX7_fault 13 = .ok (.getfield 23, 3) := by decide +kernel
theorem dX7_fault_16 : decode cX7_fault 16 = .ok (.iconst 1, 1) := by decide +kernel
theorem dX7_fault_17 : decode cX7_fault 17 = .ok (.iconst 0, 1) := by decide +kernel
theorem dX7_fault_18 : decode cX7_fault 18 = .ok (.iastore, 1) := by decide +kernel
theorem dX7_fault_19 : decode cX7_fault 19 = .ok (.aload_n 0, 1) := by decide +kernel
theorem dX7_fault_20 : decode cX7_fault 20 = .ok (.getfield 35, 3) := by decide +kernel
theorem dX7_fault_23 : decode cX7_fault 23 = .ok (.iconst 1, 1) := by decide +kernel
theorem dX7_fault_24 : decode cX7_fault 24 = .ok (.iconst 1, 1) := by decide +kernel
theorem dX7_fault_25 : decode cX7_fault 25 = .ok (.iastore, 1) := by decide +kernel
theorem dX7_fault_26 : decode cX7_fault 26 = .ok (.aload_n 0, 1) := by decide +kernel
theorem dX7_fault_27 : decode cX7_fault 27 = .ok (.getfield 74, 3) := by decide +kernel
theorem dX7_fault_30 : decode cX7_fault 30 = .ok (.aload_n 0, 1) := by decide +kernel
theorem dX7_fault_31 : decode cX7_fault 31 = .ok (.getfield 70, 3) := by decide +kernel
theorem dX7_fault_34 : decode cX7_fault 34 = .ok (.if_icmp .ge 24, 3) := by decide +kernel
theorem dX7_fault_37 : decode cX7_fault 37 = .ok (.aload_n 0, 1) := by decide +kernel
theorem dX7_fault_38 : decode cX7_fault 38 = .ok (.getfield 74, 3) := by decide +kernel
theorem dX7_fault_41 : decode cX7_fault 41 = .ok (.istore_n 1, 1) := by decide +kernel
theorem dX7_fault_42 : decode cX7_fault 42 = .ok (.aload_n 0, 1) := by decide +kernel
theorem dX7_fault_43 : decode cX7_fault 43 = .ok (.invokevirtual 89, 3) := by decide +kernel
theorem dX7_fault_46 : decode cX7_fault 46 = .ok (.aload_n 0, 1) := by decide +kernel
theorem dX7_fault_47 : decode cX7_fault 47 = .ok (.getfield 81, 3) := by decide +kernel
theorem dX7_fault_50 : decode cX7_fault 50 = .ok (.ifCond .ne 5, 3) := by decide +kernel
theorem dX7_fault_53 : decode cX7_fault 53 = .ok (.iload_n 1, 1) := by decide +kernel
theorem dX7_fault_54 : decode cX7_fault 54 = .ok (.ireturn, 1) := by decide +kernel
theorem dX7_fault_55 : decode cX7_fault 55 = .ok (.goto (-29), 3) := by decide +kernel
theorem dX7_fault_58 : decode cX7_fault 58 = .ok (.bipush (-4), 2) := by decide +kernel
theorem dX7_fault_60 : decode cX7_fault 60 = .ok (.ireturn, 1) := by decide +kernel
theorem dX7_takeDraft_0 : decode cX7_takeDraft 0 = .ok (.aload_n 0, 1) := by decide +kernel
theorem dX7_takeDraft_1 : decode cX7_takeDraft 1 = .ok (.getfield 13, 3) := by decide +kernel
theorem dX7_takeDraft_4 : decode cX7_takeDraft 4 = .ok (.iconst 0, 1) := by decide +kernel
theorem dX7_takeDraft_5 : decode cX7_takeDraft 5 = .ok (.aload_n 0, 1) := by decide +kernel
theorem dX7_takeDraft_6 : decode cX7_takeDraft 6 = .ok (.getfield 13, 3) := by decide +kernel
theorem dX7_takeDraft_9 : decode cX7_takeDraft 9 = .ok (.iconst 1, 1) := by decide +kernel
theorem dX7_takeDraft_10 : decode cX7_takeDraft 10 = .ok (.iaload, 1) := by decide +kernel
theorem dX7_takeDraft_11 : decode cX7_takeDraft 11 = .ok (.iastore, 1) := by decide +kernel
theorem dX7_takeDraft_12 : decode cX7_takeDraft 12 = .ok (.aload_n 0, 1) := by decide +kernel
theorem dX7_takeDraft_13 : decode cX7_takeDraft 13 = .ok (.getfield 23, 3) := by decide +kernel
theorem dX7_takeDraft_16 : decode cX7_takeDraft 16 = .ok (.iconst 0, 1) := by decide +kernel
theorem dX7_takeDraft_17 : decode cX7_takeDraft 17 = .ok (.aload_n 0, 1) := by decide +kernel
theorem dX7_takeDraft_18 : decode cX7_takeDraft 18 = .ok (.getfield 23, 3) := by decide +kernel
theorem dX7_takeDraft_21 : decode cX7_takeDraft 21 = .ok (.iconst 1, 1) := by decide +kernel
theorem dX7_takeDraft_22 : decode cX7_takeDraft 22 = .ok (.iaload, 1) := by decide +kernel
theorem dX7_takeDraft_23 : decode cX7_takeDraft 23 = .ok (.iastore, 1) := by decide +kernel
theorem dX7_takeDraft_24 : decode cX7_takeDraft 24 = .ok (.aload_n 0, 1) := by decide +kernel
theorem dX7_takeDraft_25 : decode cX7_takeDraft 25 = .ok (.getfield 35, 3) := by decide +kernel
theorem dX7_takeDraft_28 : decode cX7_takeDraft 28 = .ok (.iconst 0, 1) := by decide +kernel
theorem dX7_takeDraft_29 : decode cX7_takeDraft 29 = .ok (.aload_n 0, 1) := by decide +kernel
theorem dX7_takeDraft_30 : decode cX7_takeDraft 30 = .ok (.getfield 35, 3) := by decide +kernel
theorem dX7_takeDraft_33 : decode cX7_takeDraft 33 = .ok (.iconst 1, 1) := by decide +kernel
theorem dX7_takeDraft_34 : decode cX7_takeDraft 34 = .ok (.iaload, 1) := by decide +kernel
theorem dX7_takeDraft_35 : decode cX7_takeDraft 35 = .ok (.iastore, 1) := by decide +kernel
theorem dX7_takeDraft_36 : decode cX7_takeDraft 36 = .ok (.iconst 0, 1) := by decide +kernel
theorem dX7_takeDraft_37 : decode cX7_takeDraft 37 = .ok (.istore_n 1, 1) := by decide +kernel
theorem dX7_takeDraft_38 : decode cX7_takeDraft 38 = .ok (.iload_n 1, 1) := by decide +kernel
theorem dX7_takeDraft_39 : decode cX7_takeDraft 39 = .ok (.bipush 6, 2) := by decide +kernel
theorem dX7_takeDraft_41 : decode cX7_takeDraft 41 = .ok (.if_icmp .ge 24, 3) := by decide +kernel
theorem dX7_takeDraft_44 : decode cX7_takeDraft 44 = .ok (.aload_n 0, 1) := by decide +kernel
theorem dX7_takeDraft_45 : decode cX7_takeDraft 45 = .ok (.getfield 17, 3) := by decide +kernel
theorem dX7_takeDraft_48 : decode cX7_takeDraft 48 = .ok (.iload_n 1, 1) := by decide +kernel
theorem dX7_takeDraft_49 : decode cX7_takeDraft 49 = .ok (.aload_n 0, 1) := by decide +kernel
theorem dX7_takeDraft_50 : decode cX7_takeDraft 50 = .ok (.getfield 17, 3) := by decide +kernel
theorem dX7_takeDraft_53 : decode cX7_takeDraft 53 = .ok (.bipush 6, 2) := by decide +kernel
theorem dX7_takeDraft_55 : decode cX7_takeDraft 55 = .ok (.iload_n 1, 1) := by decide +kernel
theorem dX7_takeDraft_56 : decode cX7_takeDraft 56 = .ok (.iadd, 1) := by decide +kernel
theorem dX7_takeDraft_57 : decode cX7_takeDraft 57 = .ok (.iaload, 1) := by decide +kernel
theorem dX7_takeDraft_58 : decode cX7_takeDraft 58 = .ok (.iastore, 1) := by decide +kernel
theorem dX7_takeDraft_59 : decode cX7_takeDraft 59 = .ok (.iinc 1 1, 3) := by decide +kernel
theorem dX7_takeDraft_62 : decode cX7_takeDraft 62 = .ok (.goto (-24), 3) := by decide +kernel
theorem dX7_takeDraft_65 : decode cX7_takeDraft 65 = .ok (.iconst 0, 1) := by decide +kernel
theorem dX7_takeDraft_66 : decode cX7_takeDraft 66 = .ok (.istore_n 1, 1) := by decide +kernel
theorem dX7_takeDraft_67 : decode cX7_takeDraft 67 = .ok (.iload_n 1, 1) := by decide +kernel
theorem dX7_takeDraft_68 : decode cX7_takeDraft 68 = .ok (.bipush 18, 2) := by decide +kernel
theorem dX7_takeDraft_70 : decode cX7_takeDraft 70 = .ok (.if_icmp .ge 39, 3) := by decide +kernel
theorem dX7_takeDraft_73 : decode cX7_takeDraft 73 = .ok (.aload_n 0, 1) := by decide +kernel
theorem dX7_takeDraft_74 : decode cX7_takeDraft 74 = .ok (.getfield 20, 3) := by decide +kernel
theorem dX7_takeDraft_77 : decode cX7_takeDraft 77 = .ok (.iload_n 1, 1) := by decide +kernel
theorem dX7_takeDraft_78 : decode cX7_takeDraft 78 = .ok (.aload_n 0, 1) := by decide +kernel
theorem dX7_takeDraft_79 : decode cX7_takeDraft 79 = .ok (.getfield 20, 3) := by decide +kernel
theorem dX7_takeDraft_82 : decode cX7_takeDraft 82 = .ok (.bipush 18, 2) := by decide +kernel
theorem dX7_takeDraft_84 : decode cX7_takeDraft 84 = .ok (.iload_n 1, 1) := by decide +kernel
theorem dX7_takeDraft_85 : decode cX7_takeDraft 85 = .ok (.iadd, 1) := by decide +kernel
theorem dX7_takeDraft_86 : decode cX7_takeDraft 86 = .ok (.iaload, 1) := by decide +kernel
theorem dX7_takeDraft_87 : decode cX7_takeDraft 87 = .ok (.iastore, 1) := by decide +kernel
theorem dX7_takeDraft_88 : decode cX7_takeDraft 88 = .ok (.aload_n 0, 1) := by decide +kernel
theorem dX7_takeDraft_89 : decode cX7_takeDraft 89 = .ok (.getfield 26, 3) := by decide +kernel
theorem dX7_takeDraft_92 : decode cX7_takeDraft 92 = .ok (.iload_n 1, 1) := by decide +kernel
theorem dX7_takeDraft_93 : decode cX7_takeDraft 93 = .ok (.aload_n 0, 1) := by decide +kernel
theorem dX7_takeDraft_94 : decode cX7_takeDraft 94 = .ok (.getfield 26, 3) := by decide +kernel
theorem dX7_takeDraft_97 : decode cX7_takeDraft 97 = .ok (.bipush 18, 2) := by decide +kernel
theorem dX7_takeDraft_99 : decode cX7_takeDraft 99 = .ok (.iload_n 1, 1) := by decide +kernel
theorem dX7_takeDraft_100 : decode cX7_takeDraft 100 = .ok (.iadd, 1) := by decide +kernel
theorem dX7_takeDraft_101 : decode cX7_takeDraft 101 = .ok (.iaload, 1) := by decide +kernel
theorem dX7_takeDraft_102 : decode cX7_takeDraft 102 = .ok (.iastore, 1) := by decide +kernel
theorem dX7_takeDraft_103 : decode cX7_takeDraft 103 = .ok (.iinc 1 1, 3) := by decide +kernel
theorem dX7_takeDraft_106 : decode cX7_takeDraft 106 = .ok (.goto (-39), 3) := by decide +kernel
theorem dX7_takeDraft_109 : decode cX7_takeDraft 109 = .ok (.iconst 0, 1) := by decide +kernel
theorem dX7_takeDraft_110 : decode cX7_takeDraft 110 = .ok (.istore_n 1, 1) := by decide +kernel
theorem dX7_takeDraft_111 : decode cX7_takeDraft 111 = .ok (.iload_n 1, 1) := by decide +kernel
theorem dX7_takeDraft_112 : decode cX7_takeDraft 112 = .ok (.bipush 6, 2) := by decide +kernel
theorem dX7_takeDraft_114 : decode cX7_takeDraft 114 = .ok (.if_icmp .ge 24, 3) := by decide +kernel
theorem dX7_takeDraft_117 : decode cX7_takeDraft 117 = .ok (.aload_n 0, 1) := by decide +kernel
theorem dX7_takeDraft_118 : decode cX7_takeDraft 118 = .ok (.getfield 29, 3) := by decide +kernel
theorem dX7_takeDraft_121 : decode cX7_takeDraft 121 = .ok (.iload_n 1, 1) := by decide +kernel
theorem dX7_takeDraft_122 : decode cX7_takeDraft 122 = .ok (.aload_n 0, 1) := by decide +kernel
theorem dX7_takeDraft_123 : decode cX7_takeDraft 123 = .ok (.getfield 29, 3) := by decide +kernel
theorem dX7_takeDraft_126 : decode cX7_takeDraft 126 = .ok (.bipush 6, 2) := by decide +kernel
theorem dX7_takeDraft_128 : decode cX7_takeDraft 128 = .ok (.iload_n 1, 1) := by decide +kernel
theorem dX7_takeDraft_129 : decode cX7_takeDraft 129 = .ok (.iadd, 1) := by decide +kernel
theorem dX7_takeDraft_130 : decode cX7_takeDraft 130 = .ok (.iaload, 1) := by decide +kernel
theorem dX7_takeDraft_131 : decode cX7_takeDraft 131 = .ok (.iastore, 1) := by decide +kernel
theorem dX7_takeDraft_132 : decode cX7_takeDraft 132 = .ok (.iinc 1 1, 3) := by decide +kernel
theorem dX7_takeDraft_135 : decode cX7_takeDraft 135 = .ok (.goto (-24), 3) := by decide +kernel
theorem dX7_takeDraft_138 : decode cX7_takeDraft 138 = .ok (.iconst 0, 1) := by decide +kernel
theorem dX7_takeDraft_139 : decode cX7_takeDraft 139 = .ok (.istore_n 1, 1) := by decide +kernel
theorem dX7_takeDraft_140 : decode cX7_takeDraft 140 = .ok (.iload_n 1, 1) := by decide +kernel
theorem dX7_takeDraft_141 : decode cX7_takeDraft 141 = .ok (.bipush 42, 2) := by decide +kernel
theorem dX7_takeDraft_143 : decode cX7_takeDraft 143 = .ok (.if_icmp .ge 24, 3) := by decide +kernel
theorem dX7_takeDraft_146 : decode cX7_takeDraft 146 = .ok (.aload_n 0, 1) := by decide +kernel
theorem dX7_takeDraft_147 : decode cX7_takeDraft 147 = .ok (.getfield 32, 3) := by decide +kernel
theorem dX7_takeDraft_150 : decode cX7_takeDraft 150 = .ok (.iload_n 1, 1) := by decide +kernel
theorem dX7_takeDraft_151 : decode cX7_takeDraft 151 = .ok (.aload_n 0, 1) := by decide +kernel
theorem dX7_takeDraft_152 : decode cX7_takeDraft 152 = .ok (.getfield 32, 3) := by decide +kernel
theorem dX7_takeDraft_155 : decode cX7_takeDraft 155 = .ok (.bipush 42, 2) := by decide +kernel
theorem dX7_takeDraft_157 : decode cX7_takeDraft 157 = .ok (.iload_n 1, 1) := by decide +kernel
theorem dX7_takeDraft_158 : decode cX7_takeDraft 158 = .ok (.iadd, 1) := by decide +kernel
theorem dX7_takeDraft_159 : decode cX7_takeDraft 159 = .ok (.iaload, 1) := by decide +kernel
theorem dX7_takeDraft_160 : decode cX7_takeDraft 160 = .ok (.iastore, 1) := by decide +kernel
theorem dX7_takeDraft_161 : decode cX7_takeDraft 161 = .ok (.iinc 1 1, 3) := by decide +kernel
theorem dX7_takeDraft_164 : decode cX7_takeDraft 164 = .ok (.goto (-24), 3) := by decide +kernel
theorem dX7_takeDraft_167 : decode cX7_takeDraft 167 = .ok (.iconst 0, 1) := by decide +kernel
theorem dX7_takeDraft_168 : decode cX7_takeDraft 168 = .ok (.istore_n 1, 1) := by decide +kernel
theorem dX7_takeDraft_169 : decode cX7_takeDraft 169 = .ok (.iload_n 1, 1) := by decide +kernel
theorem dX7_takeDraft_170 : decode cX7_takeDraft 170 = .ok (.bipush 31, 2) := by decide +kernel
theorem dX7_takeDraft_172 : decode cX7_takeDraft 172 = .ok (.if_icmp .ge 16, 3) := by decide +kernel
theorem dX7_takeDraft_175 : decode cX7_takeDraft 175 = .ok (.aload_n 0, 1) := by decide +kernel
theorem dX7_takeDraft_176 : decode cX7_takeDraft 176 = .ok (.getfield 38, 3) := by decide +kernel
theorem dX7_takeDraft_179 : decode cX7_takeDraft 179 = .ok (.iload_n 1, 1) := by decide +kernel
theorem dX7_takeDraft_180 : decode cX7_takeDraft 180 = .ok (.iconst 0, 1) := by decide +kernel
theorem dX7_takeDraft_181 : decode cX7_takeDraft 181 = .ok (.iastore, 1) := by decide +kernel
theorem dX7_takeDraft_182 : decode cX7_takeDraft 182 = .ok (.iinc 1 1, 3) := by decide +kernel
theorem dX7_takeDraft_185 : decode cX7_takeDraft 185 = .ok (.goto (-16), 3) := by decide +kernel
theorem dX7_takeDraft_188 : decode cX7_takeDraft 188 = .ok (.iconst 0, 1) := by decide +kernel
theorem dX7_takeDraft_189 : decode cX7_takeDraft 189 = .ok (.istore_n 1, 1) := by decide +kernel
theorem dX7_takeDraft_190 : decode cX7_takeDraft 190 = .ok (.iload_n 1, 1) := by decide +kernel
theorem dX7_takeDraft_191 : decode cX7_takeDraft 191 = .ok (.iconst 3, 1) := by decide +kernel
theorem dX7_takeDraft_192 : decode cX7_takeDraft 192 = .ok (.aload_n 0, 1) := by decide +kernel
theorem dX7_takeDraft_193 : decode cX7_takeDraft 193 = .ok (.getfield 13, 3) := by decide +kernel
theorem dX7_takeDraft_196 : decode cX7_takeDraft 196 = .ok (.iconst 0, 1) := by decide +kernel
theorem dX7_takeDraft_197 : decode cX7_takeDraft 197 = .ok (.iaload, 1) := by decide +kernel
end
section
theorem dX7_takeDraft_198 : decode cX7_takeDraft 198 = .ok (.imul, 1) := by decide +kernel
theorem dX7_takeDraft_199 : decode cX7_takeDraft 199 = .ok (.if_icmp .ge 23, 3) := by decide +kernel
theorem dX7_takeDraft_202 : decode cX7_takeDraft 202 = .ok (.aload_n 0, 1) := by decide +kernel
theorem dX7_takeDraft_203 : decode cX7_takeDraft 203 = .ok (.getfield 38, 3) := by decide +kernel
theorem dX7_takeDraft_206 : decode cX7_takeDraft 206 = .ok (.iconst 1, 1) := by decide +kernel
theorem dX7_takeDraft_207 : decode cX7_takeDraft 207 = .ok (.iload_n 1, 1) := by decide +kernel
theorem dX7_takeDraft_208 : decode cX7_takeDraft 208 = .ok (.iadd, 1) := by decide +kernel
theorem dX7_takeDraft_209 : decode cX7_takeDraft 209 = .ok (.aload_n 0, 1) := by decide +kernel
theorem dX7_takeDraft_210 : decode cX7_takeDraft 210 = .ok (.getfield 20, 3) := by decide +kernel
theorem dX7_takeDraft_213 : decode cX7_takeDraft 213 = .ok (.iload_n 1, 1) := by decide +kernel
theorem dX7_takeDraft_214 : decode cX7_takeDraft 214 = .ok (.iaload, 1) := by decide +kernel
theorem dX7_takeDraft_215 : decode cX7_takeDraft 215 = .ok (.iastore, 1) := by decide +kernel
theorem dX7_takeDraft_216 : decode cX7_takeDraft 216 = .ok (.iinc 1 1, 3) := by decide +kernel
theorem dX7_takeDraft_219 : decode cX7_takeDraft 219 = .ok (.goto (-29), 3) := by decide +kernel
theorem dX7_takeDraft_222 : decode cX7_takeDraft 222 = .ok (.aload_n 0, 1) := by decide +kernel
theorem dX7_takeDraft_223 : decode cX7_takeDraft 223 = .ok (.iconst 0, 1) := by decide +kernel
theorem dX7_takeDraft_224 : decode cX7_takeDraft 224 = .ok (.putfield 92, 3) := by decide +kernel
theorem dX7_takeDraft_227 : decode cX7_takeDraft 227 = .ok (.aload_n 0, 1) := by decide +kernel
theorem dX7_takeDraft_228 : decode cX7_takeDraft 228 = .ok (.iconst 0, 1) := by decide +kernel
theorem dX7_takeDraft_229 : decode cX7_takeDraft 229 = .ok (.putfield 95, 3) := by decide +kernel
theorem dX7_takeDraft_232 : decode cX7_takeDraft 232 = .ok (.aload_n 0, 1) := by decide +kernel
theorem dX7_takeDraft_233 : decode cX7_takeDraft 233 = .ok (.iconst 0, 1) := by decide +kernel
theorem dX7_takeDraft_234 : decode cX7_takeDraft 234 = .ok (.putfield 98, 3) := by decide +kernel
theorem dX7_takeDraft_237 : decode cX7_takeDraft 237 = .ok (.return_, 1) := by decide +kernel
theorem dX7_lay_0 : decode cX7_lay 0 = .ok (.aload_n 0, 1) := by decide +kernel
theorem dX7_lay_1 : decode cX7_lay 1 = .ok (.invokevirtual 101, 3) := by decide +kernel
theorem dX7_lay_4 : decode cX7_lay 4 = .ok (.bipush (-4), 2) := by decide +kernel
theorem dX7_lay_6 : decode cX7_lay 6 = .ok (.if_icmp .ne 12, 3) := by decide +kernel
theorem dX7_lay_9 : decode cX7_lay 9 = .ok (.aload_n 0, 1) := by decide +kernel
theorem dX7_lay_10 : decode cX7_lay 10 = .ok (.getfield 13, 3) := by decide +kernel
theorem dX7_lay_13 : decode cX7_lay 13 = .ok (.iconst 1, 1) := by decide +kernel
theorem dX7_lay_14 : decode cX7_lay 14 = .ok (.iaload, 1) := by decide +kernel
theorem dX7_lay_15 : decode cX7_lay 15 = .ok (.ifCond .ne 6, 3) := by decide +kernel
theorem dX7_lay_18 : decode cX7_lay 18 = .ok (.bipush (-2), 2) := by decide +kernel
theorem dX7_lay_20 : decode cX7_lay 20 = .ok (.ireturn, 1) := by decide +kernel
theorem dX7_lay_21 : decode cX7_lay 21 = .ok (.aload_n 0, 1) := by decide +kernel
theorem dX7_lay_22 : decode cX7_lay 22 = .ok (.invokevirtual 63, 3) := by decide +kernel
theorem dX7_lay_25 : decode cX7_lay 25 = .ok (.aload_n 0, 1) := by decide +kernel
theorem dX7_lay_26 : decode cX7_lay 26 = .ok (.getfield 13, 3) := by decide +kernel
theorem dX7_lay_29 : decode cX7_lay 29 = .ok (.iconst 0, 1) := by decide +kernel
theorem dX7_lay_30 : decode cX7_lay 30 = .ok (.iaload, 1) := by decide +kernel
theorem dX7_lay_31 : decode cX7_lay 31 = .ok (.ireturn, 1) := by decide +kernel
theorem dX7_copy_0 : decode cX7_copy 0 = .ok (.iconst 0, 1) := by decide +kernel
theorem dX7_copy_1 : decode cX7_copy 1 = .ok (.istore_n 3, 1) := by decide +kernel
theorem dX7_copy_2 : decode cX7_copy 2 = .ok (.iload_n 3, 1) := by decide +kernel
theorem dX7_copy_3 : decode cX7_copy 3 = .ok (.bipush 31, 2) := by decide +kernel
theorem dX7_copy_5 : decode cX7_copy 5 = .ok (.if_icmp .ge 25, 3) := by decide +kernel
theorem dX7_copy_8 : decode cX7_copy 8 = .ok (.aload_n 0, 1) := by decide +kernel
theorem dX7_copy_9 : decode cX7_copy 9 = .ok (.getfield 38, 3) := by decide +kernel
theorem dX7_copy_12 : decode cX7_copy 12 = .ok (.iload_n 2, 1) := by decide +kernel
theorem dX7_copy_13 : decode cX7_copy 13 = .ok (.iload_n 3, 1) := by decide +kernel
theorem dX7_copy_14 : decode cX7_copy 14 = .ok (.iadd, 1) := by decide +kernel
theorem dX7_copy_15 : decode cX7_copy 15 = .ok (.aload_n 0, 1) := by decide +kernel
theorem dX7_copy_16 : decode cX7_copy 16 = .ok (.getfield 38, 3) := by decide +kernel
theorem dX7_copy_19 : decode cX7_copy 19 = .ok (.iload_n 1, 1) := by decide +kernel
theorem dX7_copy_20 : decode cX7_copy 20 = .ok (.iload_n 3, 1) := by decide +kernel
theorem dX7_copy_21 : decode cX7_copy 21 = .ok (.iadd, 1) := by decide +kernel
theorem dX7_copy_22 : decode cX7_copy 22 = .ok (.iaload, 1) := by decide +kernel
theorem dX7_copy_23 : decode cX7_copy 23 = .ok (.iastore, 1) := by decide +kernel
theorem dX7_copy_24 : decode cX7_copy 24 = .ok (.iinc 3 1, 3) := by decide +kernel
theorem dX7_copy_27 : decode cX7_copy 27 = .ok (.goto (-25), 3) := by decide +kernel
theorem dX7_copy_30 : decode cX7_copy 30 = .ok (.return_, 1) := by decide +kernel
theorem dX7_isPerson_0 : decode cX7_isPerson 0 = .ok (.iload_n 1, 1) := by decide +kernel
theorem dX7_isPerson_1 : decode cX7_isPerson 1 = .ok (.iconst 0, 1) := by decide +kernel
theorem dX7_isPerson_2 : decode cX7_isPerson 2 = .ok (.aload_n 0, 1) := by decide +kernel
theorem dX7_isPerson_3 : decode cX7_isPerson 3 = .ok (.getfield 13, 3) := by decide +kernel
theorem dX7_isPerson_6 : decode cX7_isPerson 6 = .ok (.iconst 0, 1) := by decide +kernel
theorem dX7_isPerson_7 : decode cX7_isPerson 7 = .ok (.iaload, 1) := by decide +kernel
theorem dX7_isPerson_8 : decode cX7_isPerson 8 = .ok (.iconst 1, 1) := by decide +kernel
theorem dX7_isPerson_9 : decode cX7_isPerson 9 = .ok (.isub, 1) := by decide +kernel
theorem dX7_isPerson_10 : decode cX7_isPerson 10 = .ok (.invokestatic 66, 3) := by decide +kernel
theorem dX7_isPerson_13 : decode cX7_isPerson 13 = .ok (.ireturn, 1) := by decide +kernel
theorem dX7_isDeed_0 : decode cX7_isDeed 0 = .ok (.iload_n 1, 1) := by decide +kernel
theorem dX7_isDeed_1 : decode cX7_isDeed 1 = .ok (.iconst 0, 1) := by decide +kernel
theorem dX7_isDeed_2 : decode cX7_isDeed 2 = .ok (.aload_n 0, 1) := by decide +kernel
theorem dX7_isDeed_3 : decode cX7_isDeed 3 = .ok (.getfield 23, 3) := by decide +kernel
theorem dX7_isDeed_6 : decode cX7_isDeed 6 = .ok (.iconst 0, 1) := by decide +kernel
theorem dX7_isDeed_7 : decode cX7_isDeed 7 = .ok (.iaload, 1) := by decide +kernel
theorem dX7_isDeed_8 : decode cX7_isDeed 8 = .ok (.iconst 1, 1) := by decide +kernel
theorem dX7_isDeed_9 : decode cX7_isDeed 9 = .ok (.isub, 1) := by decide +kernel
theorem dX7_isDeed_10 : decode cX7_isDeed 10 = .ok (.invokestatic 66, 3) := by decide +kernel
theorem dX7_isDeed_13 : decode cX7_isDeed 13 = .ok (.ireturn, 1) := by decide +kernel
theorem dX7_isSort_0 : decode cX7_isSort 0 = .ok (.iload_n 0, 1) := by decide +kernel
theorem dX7_isSort_1 : decode cX7_isSort 1 = .ok (.iconst 0, 1) := by decide +kernel
theorem dX7_isSort_2 : decode cX7_isSort 2 = .ok (.iconst 2, 1) := by decide +kernel
theorem dX7_isSort_3 : decode cX7_isSort 3 = .ok (.invokestatic 66, 3) := by decide +kernel
theorem dX7_isSort_6 : decode cX7_isSort 6 = .ok (.ireturn, 1) := by decide +kernel
theorem dX7_hue_0 : decode cX7_hue 0 = .ok (.iconst 0, 1) := by decide +kernel
theorem dX7_hue_1 : decode cX7_hue 1 = .ok (.istore_n 3, 1) := by decide +kernel
theorem dX7_hue_2 : decode cX7_hue 2 = .ok (.iconst 0, 1) := by decide +kernel
theorem dX7_hue_3 : decode cX7_hue 3 = .ok (.istore 4, 2) := by decide +kernel
theorem dX7_hue_5 : decode cX7_hue 5 = .ok (.iload 4, 2) := by decide +kernel
theorem dX7_hue_7 : decode cX7_hue 7 = .ok (.iconst 3, 1) := by decide +kernel
theorem dX7_hue_8 : decode cX7_hue 8 = .ok (.if_icmp .ge 38, 3) := by decide +kernel
theorem dX7_hue_11 : decode cX7_hue 11 = .ok (.iload_n 3, 1) := by decide +kernel
theorem dX7_hue_12 : decode cX7_hue 12 = .ok (.aload_n 0, 1) := by decide +kernel
theorem dX7_hue_13 : decode cX7_hue 13 = .ok (.getfield 38, 3) := by decide +kernel
theorem dX7_hue_16 : decode cX7_hue 16 = .ok (.iload_n 1, 1) := by decide +kernel
theorem dX7_hue_17 : decode cX7_hue 17 = .ok (.iconst 1, 1) := by decide +kernel
theorem dX7_hue_18 : decode cX7_hue 18 = .ok (.iadd, 1) := by decide +kernel
theorem dX7_hue_19 : decode cX7_hue 19 = .ok (.iconst 3, 1) := by decide +kernel
theorem dX7_hue_20 : decode cX7_hue 20 = .ok (.iload_n 2, 1) := by decide +kernel
theorem dX7_hue_21 : decode cX7_hue 21 = .ok (.imul, 1) := by decide +kernel
theorem dX7_hue_22 : decode cX7_hue 22 = .ok (.iadd, 1) := by decide +kernel
theorem dX7_hue_23 : decode cX7_hue 23 = .ok (.iload 4, 2) := by decide +kernel
theorem dX7_hue_25 : decode cX7_hue 25 = .ok (.iadd, 1) := by decide +kernel
theorem dX7_hue_26 : decode cX7_hue 26 = .ok (.iaload, 1) := by decide +kernel
theorem dX7_hue_27 : decode cX7_hue 27 = .ok (.ifCond .le 10, 3) := by decide +kernel
theorem dX7_hue_30 : decode cX7_hue 30 = .ok (.iconst 1, 1) := by decide +kernel
theorem dX7_hue_31 : decode cX7_hue 31 = .ok (.iload 4, 2) := by decide +kernel
theorem dX7_hue_33 : decode cX7_hue 33 = .ok (.ishl, 1) := by decide +kernel
theorem dX7_hue_34 : decode cX7_hue 34 = .ok (.goto 4, 3) := by decide +kernel
theorem dX7_hue_37 : decode cX7_hue 37 = .ok (.iconst 0, 1) := by decide +kernel
theorem dX7_hue_38 : decode cX7_hue 38 = .ok (.ior, 1) := by decide +kernel
theorem dX7_hue_39 : decode cX7_hue 39 = .ok (.istore_n 3, 1) := by decide +kernel
theorem dX7_hue_40 : decode cX7_hue 40 = .ok (.iinc 4 1, 3) := by decide +kernel
theorem dX7_hue_43 : decode cX7_hue 43 = .ok (.goto (-38), 3) := by decide +kernel
theorem dX7_hue_46 : decode cX7_hue 46 = .ok (.iload_n 3, 1) := by decide +kernel
theorem dX7_hue_47 : decode cX7_hue 47 = .ok (.ireturn, 1) := by decide +kernel
theorem dX7_person_0 : decode cX7_person 0 = .ok (.aload_n 0, 1) := by decide +kernel
theorem dX7_person_1 : decode cX7_person 1 = .ok (.iload_n 1, 1) := by decide +kernel
theorem dX7_person_2 : decode cX7_person 2 = .ok (.invokevirtual 104, 3) := by decide +kernel
theorem dX7_person_5 : decode cX7_person 5 = .ok (.ifCond .ne 5, 3) := by decide +kernel
theorem dX7_person_8 : decode cX7_person 8 = .ok (.iconst (-1), 1) := by decide +kernel
theorem dX7_person_9 : decode cX7_person 9 = .ok (.ireturn, 1) := by decide +kernel
theorem dX7_person_10 : decode cX7_person 10 = .ok (.iload_n 2, 1) := by decide +kernel
theorem dX7_person_11 : decode cX7_person 11 = .ok (.tableswitch 90 0 6 #[41, 48, 48, 48, 63, 70, 80], 41) := by decide +kernel
theorem dX7_person_52 : decode cX7_person 52 = .ok (.aload_n 0, 1) := by decide +kernel
theorem dX7_person_53 : decode cX7_person 53 = .ok (.getfield 17, 3) := by decide +kernel
theorem dX7_person_56 : decode cX7_person 56 = .ok (.iload_n 1, 1) := by decide +kernel
theorem dX7_person_57 : decode cX7_person 57 = .ok (.iaload, 1) := by decide +kernel
theorem dX7_person_58 : decode cX7_person 58 = .ok (.ireturn, 1) := by decide +kernel
theorem dX7_person_59 : decode cX7_person 59 = .ok (.aload_n 0, 1) := by decide +kernel
theorem dX7_person_60 : decode cX7_person 60 = .ok (.getfield 38, 3) := by decide +kernel
theorem dX7_person_63 : decode cX7_person 63 = .ok (.iconst 1, 1) := by decide +kernel
theorem dX7_person_64 : decode cX7_person 64 = .ok (.iconst 3, 1) := by decide +kernel
theorem dX7_person_65 : decode cX7_person 65 = .ok (.iload_n 1, 1) := by decide +kernel
theorem dX7_person_66 : decode cX7_person 66 = .ok (.imul, 1) := by decide +kernel
theorem dX7_person_67 : decode cX7_person 67 = .ok (.iadd, 1) := by decide +kernel
theorem dX7_person_68 : decode cX7_person 68 = .ok (.iload_n 2, 1) := by decide +kernel
theorem dX7_person_69 : decode cX7_person 69 = .ok (.iadd, 1) := by decide +kernel
theorem dX7_person_70 : decode cX7_person 70 = .ok (.iconst 1, 1) := by decide +kernel
theorem dX7_person_71 : decode cX7_person 71 = .ok (.isub, 1) := by decide +kernel
theorem dX7_person_72 : decode cX7_person 72 = .ok (.iaload, 1) := by decide +kernel
theorem dX7_person_73 : decode cX7_person 73 = .ok (.ireturn, 1) := by decide +kernel
theorem dX7_person_74 : decode cX7_person 74 = .ok (.aload_n 0, 1) := by decide +kernel
theorem dX7_person_75 : decode cX7_person 75 = .ok (.iconst 0, 1) := by decide +kernel
theorem dX7_person_76 : decode cX7_person 76 = .ok (.iload_n 1, 1) := by decide +kernel
theorem dX7_person_77 : decode cX7_person 77 = .ok (.invokevirtual 108, 3) := by decide +kernel
theorem dX7_person_80 : decode cX7_person 80 = .ok (.ireturn, 1) := by decide +kernel
theorem dX7_person_81 : decode cX7_person 81 = .ok (.aload_n 0, 1) := by decide +kernel
theorem dX7_person_82 : decode cX7_person 82 = .ok (.getfield 38, 3) := by decide +kernel
theorem dX7_person_85 : decode cX7_person 85 = .ok (.bipush 19, 2) := by decide +kernel
theorem dX7_person_87 : decode cX7_person 87 = .ok (.iload_n 1, 1) := by decide +kernel
theorem dX7_person_88 : decode cX7_person 88 = .ok (.iadd, 1) := by decide +kernel
theorem dX7_person_89 : decode cX7_person 89 = .ok (.iaload, 1) := by decide +kernel
theorem dX7_person_90 : decode cX7_person 90 = .ok (.ireturn, 1) := by decide +kernel
theorem dX7_person_91 : decode cX7_person 91 = .ok (.aload_n 0, 1) := by decide +kernel
theorem dX7_person_92 : decode cX7_person 92 = .ok (.getfield 38, 3) := by decide +kernel
theorem dX7_person_95 : decode cX7_person 95 = .ok (.bipush 25, 2) := by decide +kernel
theorem dX7_person_97 : decode cX7_person 97 = .ok (.iload_n 1, 1) := by decide +kernel
theorem dX7_person_98 : decode cX7_person 98 = .ok (.iadd, 1) := by decide +kernel
theorem dX7_person_99 : decode cX7_person 99 = .ok (.iaload, 1) := by decide +kernel
theorem dX7_person_100 : decode cX7_person 100 = .ok (.ireturn, 1) := by decide +kernel
theorem dX7_person_101 : decode cX7_person 101 = .ok (.iconst (-1), 1) := by decide +kernel
theorem dX7_person_102 : decode cX7_person 102 = .ok (.ireturn, 1) := by decide +kernel
theorem dX7_deed_0 : decode cX7_deed 0 = .ok (.aload_n 0, 1) := by decide +kernel
theorem dX7_deed_1 : decode cX7_deed 1 = .ok (.iload_n 1, 1) := by decide +kernel
theorem dX7_deed_2 : decode cX7_deed 2 = .ok (.invokevirtual 112, 3) := by decide +kernel
theorem dX7_deed_5 : decode cX7_deed 5 = .ok (.ifCond .eq 12, 3) := by decide +kernel
theorem dX7_deed_8 : decode cX7_deed 8 = .ok (.iload_n 2, 1) := by decide +kernel
theorem dX7_deed_9 : decode cX7_deed 9 = .ok (.iconst 0, 1) := by decide +kernel
theorem dX7_deed_10 : decode cX7_deed 10 = .ok (.iconst 3, 1) := by decide +kernel
theorem dX7_deed_11 : decode cX7_deed 11 = .ok (.invokestatic 66, 3) := by decide +kernel
theorem dX7_deed_14 : decode cX7_deed 14 = .ok (.ifCond .ne 5, 3) := by decide +kernel
theorem dX7_deed_17 : decode cX7_deed 17 = .ok (.iconst (-1), 1) := by decide +kernel
theorem dX7_deed_18 : decode cX7_deed 18 = .ok (.ireturn, 1) := by decide +kernel
theorem dX7_deed_19 : decode cX7_deed 19 = .ok (.iload_n 2, 1) := by decide +kernel
theorem dX7_deed_20 : decode cX7_deed 20 = .ok (.iconst 3, 1) := by decide +kernel
theorem dX7_deed_21 : decode cX7_deed 21 = .ok (.if_icmp .ge 16, 3) := by decide +kernel
theorem dX7_deed_24 : decode cX7_deed 24 = .ok (.aload_n 0, 1) := by decide +kernel
theorem dX7_deed_25 : decode cX7_deed 25 = .ok (.getfield 26, 3) := by decide +kernel
theorem dX7_deed_28 : decode cX7_deed 28 = .ok (.iconst 3, 1) := by decide +kernel
theorem dX7_deed_29 : decode cX7_deed 29 = .ok (.iload_n 1, 1) := by decide +kernel
theorem dX7_deed_30 : decode cX7_deed 30 = .ok (.imul, 1) := by decide +kernel
theorem dX7_deed_31 : decode cX7_deed 31 = .ok (.iload_n 2, 1) := by decide +kernel
theorem dX7_deed_32 : decode cX7_deed 32 = .ok (.iadd, 1) := by decide +kernel
theorem dX7_deed_33 : decode cX7_deed 33 = .ok (.iaload, 1) := by decide +kernel
theorem dX7_deed_34 : decode cX7_deed 34 = .ok (.goto 9, 3) := by decide +kernel
theorem dX7_deed_37 : decode cX7_deed 37 = .ok (.aload_n 0, 1) := by decide +kernel
theorem dX7_deed_38 : decode cX7_deed 38 = .ok (.getfield 29, 3) := by decide +kernel
theorem dX7_deed_41 : decode cX7_deed 41 = .ok (.iload_n 1, 1) := by decide +kernel
theorem dX7_deed_42 : decode cX7_deed 42 = .ok (.iaload, 1) := by decide +kernel
theorem dX7_deed_43 : decode cX7_deed 43 = .ok (.ireturn, 1) := by decide +kernel
theorem dX7_told_0 : decode cX7_told 0 = .ok (.aload_n 0, 1) := by decide +kernel
theorem dX7_told_1 : decode cX7_told 1 = .ok (.iload_n 1, 1) := by decide +kernel
theorem dX7_told_2 : decode cX7_told 2 = .ok (.invokevirtual 104, 3) := by decide +kernel
theorem dX7_told_5 : decode cX7_told 5 = .ok (.ifCond .eq 27, 3) := by decide +kernel
theorem dX7_told_8 : decode cX7_told 8 = .ok (.iload_n 2, 1) := by decide +kernel
theorem dX7_told_9 : decode cX7_told 9 = .ok (.iconst 0, 1) := by decide +kernel
theorem dX7_told_10 : decode cX7_told 10 = .ok (.bipush 6, 2) := by decide +kernel
theorem dX7_told_12 : decode cX7_told 12 = .ok (.invokestatic 66, 3) := by decide +kernel
theorem dX7_told_15 : decode cX7_told 15 = .ok (.ifCond .eq 17, 3) := by decide +kernel
theorem dX7_told_18 : decode cX7_told 18 = .ok (.aload_n 0, 1) := by decide +kernel
theorem dX7_told_19 : decode cX7_told 19 = .ok (.getfield 32, 3) := by decide +kernel
theorem dX7_told_22 : decode cX7_told 22 = .ok (.bipush 7, 2) := by decide +kernel
theorem dX7_told_24 : decode cX7_told 24 = .ok (.iload_n 1, 1) := by decide +kernel
theorem dX7_told_25 : decode cX7_told 25 = .ok (.imul, 1) := by decide +kernel
theorem dX7_told_26 : decode cX7_told 26 = .ok (.iload_n 2, 1) := by decide +kernel
theorem dX7_told_27 : decode cX7_told 27 = .ok (.iadd, 1) := by decide +kernel
theorem dX7_told_28 : decode cX7_told 28 = .ok (.iaload, 1) := by decide +kernel
theorem dX7_told_29 : decode cX7_told 29 = .ok (.goto 4, 3) := by decide +kernel
theorem dX7_told_32 : decode cX7_told 32 = .ok (.iconst (-1), 1) := by decide +kernel
theorem dX7_told_33 : decode cX7_told 33 = .ok (.ireturn, 1) := by decide +kernel
theorem dX7_plainCost_0 : decode cX7_plainCost 0 = .ok (.iconst 0, 1) := by decide +kernel
theorem dX7_plainCost_1 : decode cX7_plainCost 1 = .ok (.istore_n 3, 1) := by decide +kernel
theorem dX7_plainCost_2 : decode cX7_plainCost 2 = .ok (.iconst 0, 1) := by decide +kernel
theorem dX7_plainCost_3 : decode cX7_plainCost 3 = .ok (.istore 4, 2) := by decide +kernel
theorem dX7_plainCost_5 : decode cX7_plainCost 5 = .ok (.iload 4, 2) := by decide +kernel
theorem dX7_plainCost_7 : decode cX7_plainCost 7 = .ok (.iconst 3, 1) := by decide +kernel
theorem dX7_plainCost_8 : decode cX7_plainCost 8 = .ok (.if_icmp .ge 37, 3) := by decide +kernel
theorem dX7_plainCost_11 : decode cX7_plainCost 11 = .ok (.aload_n 0, 1) := by decide +kernel
theorem dX7_plainCost_12 : decode cX7_plainCost 12 = .ok (.getfield 41, 3) := by decide +kernel
theorem dX7_plainCost_15 : decode cX7_plainCost 15 = .ok (.iload 4, 2) := by decide +kernel
theorem dX7_plainCost_17 : decode cX7_plainCost 17 = .ok (.aload_n 0, 1) := by decide +kernel
theorem dX7_plainCost_18 : decode cX7_plainCost 18 = .ok (.getfield 26, 3) := by decide +kernel
theorem dX7_plainCost_21 : decode cX7_plainCost 21 = .ok (.iconst 3, 1) := by decide +kernel
theorem dX7_plainCost_22 : decode cX7_plainCost 22 = .ok (.iload_n 2, 1) := by decide +kernel
theorem dX7_plainCost_23 : decode cX7_plainCost 23 = .ok (.imul, 1) := by decide +kernel
theorem dX7_plainCost_24 : decode cX7_plainCost 24 = .ok (.iload 4, 2) := by decide +kernel
theorem dX7_plainCost_26 : decode cX7_plainCost 26 = .ok (.iadd, 1) := by decide +kernel
theorem dX7_plainCost_27 : decode cX7_plainCost 27 = .ok (.iaload, 1) := by decide +kernel
theorem dX7_plainCost_28 : decode cX7_plainCost 28 = .ok (.iastore, 1) := by decide +kernel
theorem dX7_plainCost_29 : decode cX7_plainCost 29 = .ok (.iload_n 3, 1) := by decide +kernel
theorem dX7_plainCost_30 : decode cX7_plainCost 30 = .ok (.aload_n 0, 1) := by decide +kernel
theorem dX7_plainCost_31 : decode cX7_plainCost 31 = .ok (.getfield 41, 3) := by decide +kernel
theorem dX7_plainCost_34 : decode cX7_plainCost 34 = .ok (.iload 4, 2) := by decide +kernel
theorem dX7_plainCost_36 : decode cX7_plainCost 36 = .ok (.iaload, 1) := by decide +kernel
theorem dX7_plainCost_37 : decode cX7_plainCost 37 = .ok (.iadd, 1) := by decide +kernel
theorem dX7_plainCost_38 : decode cX7_plainCost 38 = .ok (.istore_n 3, 1) := by decide +kernel
theorem dX7_plainCost_39 : decode cX7_plainCost 39 = .ok (.iinc 4 1, 3) := by decide +kernel
theorem dX7_plainCost_42 : decode cX7_plainCost 42 = .ok (.goto (-37), 3) := by decide +kernel
theorem dX7_plainCost_45 : decode cX7_plainCost 45 = .ok (.aload_n 0, 1) := by decide +kernel
theorem dX7_plainCost_46 : decode cX7_plainCost 46 = .ok (.getfield 17, 3) := by decide +kernel
theorem dX7_plainCost_49 : decode cX7_plainCost 49 = .ok (.iload_n 1, 1) := by decide +kernel
theorem dX7_plainCost_50 : decode cX7_plainCost 50 = .ok (.iaload, 1) := by decide +kernel
theorem dX7_plainCost_51 : decode cX7_plainCost 51 = .ok (.iconst 3, 1) := by decide +kernel
theorem dX7_plainCost_52 : decode cX7_plainCost 52 = .ok (.if_icmp .ne 12, 3) := by decide +kernel
theorem dX7_plainCost_55 : decode cX7_plainCost 55 = .ok (.iload_n 3, 1) := by decide +kernel
theorem dX7_plainCost_56 : decode cX7_plainCost 56 = .ok (.iconst 1, 1) := by decide +kernel
theorem dX7_plainCost_57 : decode cX7_plainCost 57 = .ok (.if_icmp .le 7, 3) := by decide +kernel
theorem dX7_plainCost_60 : decode cX7_plainCost 60 = .ok (.iconst 1, 1) := by decide +kernel
theorem dX7_plainCost_61 : decode cX7_plainCost 61 = .ok (.goto 4, 3) := by decide +kernel
theorem dX7_plainCost_64 : decode cX7_plainCost 64 = .ok (.iconst 0, 1) := by decide +kernel
theorem dX7_plainCost_65 : decode cX7_plainCost 65 = .ok (.istore 4, 2) := by decide +kernel
theorem dX7_plainCost_67 : decode cX7_plainCost 67 = .ok (.iconst 0, 1) := by decide +kernel
theorem dX7_plainCost_68 : decode cX7_plainCost 68 = .ok (.istore 5, 2) := by decide +kernel
theorem dX7_plainCost_70 : decode cX7_plainCost 70 = .ok (.iload 5, 2) := by decide +kernel
theorem dX7_plainCost_72 : decode cX7_plainCost 72 = .ok (.iconst 3, 1) := by decide +kernel
theorem dX7_plainCost_73 : decode cX7_plainCost 73 = .ok (.if_icmp .ge 38, 3) := by decide +kernel
theorem dX7_plainCost_76 : decode cX7_plainCost 76 = .ok (.iload 4, 2) := by decide +kernel
theorem dX7_plainCost_78 : decode cX7_plainCost 78 = .ok (.ifCond .eq 33, 3) := by decide +kernel
theorem dX7_plainCost_81 : decode cX7_plainCost 81 = .ok (.aload_n 0, 1) := by decide +kernel
theorem dX7_plainCost_82 : decode cX7_plainCost 82 = .ok (.getfield 41, 3) := by decide +kernel
theorem dX7_plainCost_85 : decode cX7_plainCost 85 = .ok (.iload 5, 2) := by decide +kernel
theorem dX7_plainCost_87 : decode cX7_plainCost 87 = .ok (.iaload, 1) := by decide +kernel
theorem dX7_plainCost_88 : decode cX7_plainCost 88 = .ok (.ifCond .le 17, 3) := by decide +kernel
theorem dX7_plainCost_91 : decode cX7_plainCost 91 = .ok (.aload_n 0, 1) := by decide +kernel
theorem dX7_plainCost_92 : decode cX7_plainCost 92 = .ok (.getfield 41, 3) := by decide +kernel
theorem dX7_plainCost_95 : decode cX7_plainCost 95 = .ok (.iload 5, 2) := by decide +kernel
theorem dX7_plainCost_97 : decode cX7_plainCost 97 = .ok (.dup2, 1) := by decide +kernel
theorem dX7_plainCost_98 : decode cX7_plainCost 98 = .ok (.iaload, 1) := by decide +kernel
theorem dX7_plainCost_99 : decode cX7_plainCost 99 = .ok (.iconst 1, 1) := by decide +kernel
theorem dX7_plainCost_100 : decode cX7_plainCost 100 = .ok (.isub, 1) := by decide +kernel
theorem dX7_plainCost_101 : decode cX7_plainCost 101 = .ok (.iastore, 1) := by decide +kernel
theorem dX7_plainCost_102 : decode cX7_plainCost 102 = .ok (.iconst 0, 1) := by decide +kernel
theorem dX7_plainCost_103 : decode cX7_plainCost 103 = .ok (.istore 4, 2) := by decide +kernel
theorem dX7_plainCost_105 : decode cX7_plainCost 105 = .ok (.iinc 5 1, 3) := by decide +kernel
theorem dX7_plainCost_108 : decode cX7_plainCost 108 = .ok (.goto (-38), 3) := by decide +kernel
theorem dX7_plainCost_111 : decode cX7_plainCost 111 = .ok (.return_, 1) := by decide +kernel
theorem dX7_lacks_0 : decode cX7_lacks 0 = .ok (.iconst 0, 1) := by decide +kernel
theorem dX7_lacks_1 : decode cX7_lacks 1 = .ok (.istore_n 3, 1) := by decide +kernel
theorem dX7_lacks_2 : decode cX7_lacks 2 = .ok (.iconst 0, 1) := by decide +kernel
theorem dX7_lacks_3 : decode cX7_lacks 3 = .ok (.istore 4, 2) := by decide +kernel
theorem dX7_lacks_5 : decode cX7_lacks 5 = .ok (.iload 4, 2) := by decide +kernel
theorem dX7_lacks_7 : decode cX7_lacks 7 = .ok (.iconst 3, 1) := by decide +kernel
theorem dX7_lacks_8 : decode cX7_lacks 8 = .ok (.if_icmp .ge 48, 3) := by decide +kernel
theorem dX7_lacks_11 : decode cX7_lacks 11 = .ok (.aload_n 0, 1) := by decide +kernel
theorem dX7_lacks_12 : decode cX7_lacks 12 = .ok (.getfield 41, 3) := by decide +kernel
theorem dX7_lacks_15 : decode cX7_lacks 15 = .ok (.iload 4, 2) := by decide +kernel
theorem dX7_lacks_17 : decode cX7_lacks 17 = .ok (.iaload, 1) := by decide +kernel
theorem dX7_lacks_18 : decode cX7_lacks 18 = .ok (.aload_n 0, 1) := by decide +kernel
theorem dX7_lacks_19 : decode cX7_lacks 19 = .ok (.getfield 38, 3) := by decide +kernel
theorem dX7_lacks_22 : decode cX7_lacks 22 = .ok (.iload_n 1, 1) := by decide +kernel
theorem dX7_lacks_23 : decode cX7_lacks 23 = .ok (.iconst 1, 1) := by decide +kernel
theorem dX7_lacks_24 : decode cX7_lacks 24 = .ok (.iadd, 1) := by decide +kernel
theorem dX7_lacks_25 : decode cX7_lacks 25 = .ok (.iconst 3, 1) := by decide +kernel
theorem dX7_lacks_26 : decode cX7_lacks 26 = .ok (.iload_n 2, 1) := by decide +kernel
theorem dX7_lacks_27 : decode cX7_lacks 27 = .ok (.imul, 1) := by decide +kernel
theorem dX7_lacks_28 : decode cX7_lacks 28 = .ok (.iadd, 1) := by decide +kernel
theorem dX7_lacks_29 : decode cX7_lacks 29 = .ok (.iload 4, 2) := by decide +kernel
theorem dX7_lacks_31 : decode cX7_lacks 31 = .ok (.iadd, 1) := by decide +kernel
theorem dX7_lacks_32 : decode cX7_lacks 32 = .ok (.iaload, 1) := by decide +kernel
theorem dX7_lacks_33 : decode cX7_lacks 33 = .ok (.isub, 1) := by decide +kernel
theorem dX7_lacks_34 : decode cX7_lacks 34 = .ok (.istore 5, 2) := by decide +kernel
theorem dX7_lacks_36 : decode cX7_lacks 36 = .ok (.iload_n 3, 1) := by decide +kernel
theorem dX7_lacks_37 : decode cX7_lacks 37 = .ok (.iload 5, 2) := by decide +kernel
theorem dX7_lacks_39 : decode cX7_lacks 39 = .ok (.ifCond .le 8, 3) := by decide +kernel
theorem dX7_lacks_42 : decode cX7_lacks 42 = .ok (.iload 5, 2) := by decide +kernel
theorem dX7_lacks_44 : decode cX7_lacks 44 = .ok (.goto 4, 3) := by decide +kernel
theorem dX7_lacks_47 : decode cX7_lacks 47 = .ok (.iconst 0, 1) := by decide +kernel
theorem dX7_lacks_48 : decode cX7_lacks 48 = .ok (.iadd, 1) := by decide +kernel
theorem dX7_lacks_49 : decode cX7_lacks 49 = .ok (.istore_n 3, 1) := by decide +kernel
theorem dX7_lacks_50 : decode cX7_lacks 50 = .ok (.iinc 4 1, 3) := by decide +kernel
theorem dX7_lacks_53 : decode cX7_lacks 53 = .ok (.goto (-48), 3) := by decide +kernel
theorem dX7_lacks_56 : decode cX7_lacks 56 = .ok (.iload_n 3, 1) := by decide +kernel
theorem dX7_lacks_57 : decode cX7_lacks 57 = .ok (.ireturn, 1) := by decide +kernel
theorem dX7_canDo_0 : decode cX7_canDo 0 = .ok (.aload_n 0, 1) := by decide +kernel
theorem dX7_canDo_1 : decode cX7_canDo 1 = .ok (.iload_n 2, 1) := by decide +kernel
theorem dX7_canDo_2 : decode cX7_canDo 2 = .ok (.iload_n 3, 1) := by decide +kernel
theorem dX7_canDo_3 : decode cX7_canDo 3 = .ok (.invokevirtual 115, 3) := by decide +kernel
theorem dX7_canDo_6 : decode cX7_canDo 6 = .ok (.aload_n 0, 1) := by decide +kernel
theorem dX7_canDo_7 : decode cX7_canDo 7 = .ok (.iload_n 1, 1) := by decide +kernel
theorem dX7_canDo_8 : decode cX7_canDo 8 = .ok (.iload_n 2, 1) := by decide +kernel
theorem dX7_canDo_9 : decode cX7_canDo 9 = .ok (.invokevirtual 119, 3) := by decide +kernel
theorem dX7_canDo_12 : decode cX7_canDo 12 = .ok (.istore 4, 2) := by decide +kernel
theorem dX7_canDo_14 : decode cX7_canDo 14 = .ok (.iload 4, 2) := by decide +kernel
theorem dX7_canDo_16 : decode cX7_canDo 16 = .ok (.iconst 1, 1) := by decide +kernel
theorem dX7_canDo_17 : decode cX7_canDo 17 = .ok (.if_icmp .ne 13, 3) := by decide +kernel
theorem dX7_canDo_20 : decode cX7_canDo 20 = .ok (.aload_n 0, 1) := by decide +kernel
theorem dX7_canDo_21 : decode cX7_canDo 21 = .ok (.getfield 17, 3) := by decide +kernel
theorem dX7_canDo_24 : decode cX7_canDo 24 = .ok (.iload_n 2, 1) := by decide +kernel
theorem dX7_canDo_25 : decode cX7_canDo 25 = .ok (.iaload, 1) := by decide +kernel
theorem dX7_canDo_26 : decode cX7_canDo 26 = .ok (.iconst 4, 1) := by decide +kernel
theorem dX7_canDo_27 : decode cX7_canDo 27 = .ok (.if_icmp .eq 14, 3) := by decide +kernel
theorem dX7_canDo_30 : decode cX7_canDo 30 = .ok (.iload 4, 2) := by decide +kernel
theorem dX7_canDo_32 : decode cX7_canDo 32 = .ok (.ifCond .ne 7, 3) := by decide +kernel
theorem dX7_canDo_35 : decode cX7_canDo 35 = .ok (.iconst 1, 1) := by decide +kernel
theorem dX7_canDo_36 : decode cX7_canDo 36 = .ok (.goto 4, 3) := by decide +kernel
theorem dX7_canDo_39 : decode cX7_canDo 39 = .ok (.iconst 0, 1) := by decide +kernel
theorem dX7_canDo_40 : decode cX7_canDo 40 = .ok (.ireturn, 1) := by decide +kernel
theorem dX7_canDo_41 : decode cX7_canDo 41 = .ok (.iload_n 1, 1) := by decide +kernel
theorem dX7_canDo_42 : decode cX7_canDo 42 = .ok (.iconst 1, 1) := by decide +kernel
theorem dX7_canDo_43 : decode cX7_canDo 43 = .ok (.iadd, 1) := by decide +kernel
theorem dX7_canDo_44 : decode cX7_canDo 44 = .ok (.iconst 3, 1) := by decide +kernel
theorem dX7_canDo_45 : decode cX7_canDo 45 = .ok (.iload_n 2, 1) := by decide +kernel
theorem dX7_canDo_46 : decode cX7_canDo 46 = .ok (.imul, 1) := by decide +kernel
theorem dX7_canDo_47 : decode cX7_canDo 47 = .ok (.iadd, 1) := by decide +kernel
theorem dX7_canDo_48 : decode cX7_canDo 48 = .ok (.istore 5, 2) := by decide +kernel
theorem dX7_canDo_50 : decode cX7_canDo 50 = .ok (.iconst 0, 1) := by decide +kernel
theorem dX7_canDo_51 : decode cX7_canDo 51 = .ok (.istore 6, 2) := by decide +kernel
theorem dX7_canDo_53 : decode cX7_canDo 53 = .ok (.iconst 0, 1) := by decide +kernel
theorem dX7_canDo_54 : decode cX7_canDo 54 = .ok (.istore 7, 2) := by decide +kernel
theorem dX7_canDo_56 : decode cX7_canDo 56 = .ok (.iload 7, 2) := by decide +kernel
theorem dX7_canDo_58 : decode cX7_canDo 58 = .ok (.iconst 3, 1) := by decide +kernel
theorem dX7_canDo_59 : decode cX7_canDo 59 = .ok (.if_icmp .ge 56, 3) := by decide +kernel
theorem dX7_canDo_62 : decode cX7_canDo 62 = .ok (.aload_n 0, 1) := by decide +kernel
theorem dX7_canDo_63 : decode cX7_canDo 63 = .ok (.getfield 41, 3) := by decide +kernel
theorem dX7_canDo_66 : decode cX7_canDo 66 = .ok (.iload 7, 2) := by decide +kernel
theorem dX7_canDo_68 : decode cX7_canDo 68 = .ok (.aload_n 0, 1) := by decide +kernel
theorem dX7_canDo_69 : decode cX7_canDo 69 = .ok (.getfield 41, 3) := by decide +kernel
theorem dX7_canDo_72 : decode cX7_canDo 72 = .ok (.iload 7, 2) := by decide +kernel
theorem dX7_canDo_74 : decode cX7_canDo 74 = .ok (.iaload, 1) := by decide +kernel
theorem dX7_canDo_75 : decode cX7_canDo 75 = .ok (.aload_n 0, 1) := by decide +kernel
theorem dX7_canDo_76 : decode cX7_canDo 76 = .ok (.getfield 38, 3) := by decide +kernel
theorem dX7_canDo_79 : decode cX7_canDo 79 = .ok (.iload 5, 2) := by decide +kernel
theorem dX7_canDo_81 : decode cX7_canDo 81 = .ok (.iload 7, 2) := by decide +kernel
theorem dX7_canDo_83 : decode cX7_canDo 83 = .ok (.iadd, 1) := by decide +kernel
theorem dX7_canDo_84 : decode cX7_canDo 84 = .ok (.iaload, 1) := by decide +kernel
theorem dX7_canDo_85 : decode cX7_canDo 85 = .ok (.if_icmp .le 16, 3) := by decide +kernel
theorem dX7_canDo_88 : decode cX7_canDo 88 = .ok (.aload_n 0, 1) := by decide +kernel
theorem dX7_canDo_89 : decode cX7_canDo 89 = .ok (.getfield 38, 3) := by decide +kernel
theorem dX7_canDo_92 : decode cX7_canDo 92 = .ok (.iload 5, 2) := by decide +kernel
theorem dX7_canDo_94 : decode cX7_canDo 94 = .ok (.iload 7, 2) := by decide +kernel
theorem dX7_canDo_96 : decode cX7_canDo 96 = .ok (.iadd, 1) := by decide +kernel
theorem dX7_canDo_97 : decode cX7_canDo 97 = .ok (.iaload, 1) := by decide +kernel
theorem dX7_canDo_98 : decode cX7_canDo 98 = .ok (.goto 10, 3) := by decide +kernel
theorem dX7_canDo_101 : decode cX7_canDo 101 = .ok (.aload_n 0, 1) := by decide +kernel
theorem dX7_canDo_102 : decode cX7_canDo 102 = .ok (.getfield 41, 3) := by decide +kernel
theorem dX7_canDo_105 : decode cX7_canDo 105 = .ok (.iload 7, 2) := by decide +kernel
theorem dX7_canDo_107 : decode cX7_canDo 107 = .ok (.iaload, 1) := by decide +kernel
theorem dX7_canDo_108 : decode cX7_canDo 108 = .ok (.iastore, 1) := by decide +kernel
theorem dX7_canDo_109 : decode cX7_canDo 109 = .ok (.iinc 7 1, 3) := by decide +kernel
theorem dX7_canDo_112 : decode cX7_canDo 112 = .ok (.goto (-56), 3) := by decide +kernel
theorem dX7_canDo_115 : decode cX7_canDo 115 = .ok (.iconst 1, 1) := by decide +kernel
theorem dX7_canDo_116 : decode cX7_canDo 116 = .ok (.istore 7, 2) := by decide +kernel
theorem dX7_canDo_118 : decode cX7_canDo 118 = .ok (.iload 7, 2) := by decide +kernel
theorem dX7_canDo_120 : decode cX7_canDo 120 = .ok (.iconst 3, 1) := by decide +kernel
theorem dX7_canDo_121 : decode cX7_canDo 121 = .ok (.if_icmp .ge 57, 3) := by decide +kernel
theorem dX7_canDo_124 : decode cX7_canDo 124 = .ok (.aload_n 0, 1) := by decide +kernel
theorem dX7_canDo_125 : decode cX7_canDo 125 = .ok (.getfield 38, 3) := by decide +kernel
theorem dX7_canDo_128 : decode cX7_canDo 128 = .ok (.iload 5, 2) := by decide +kernel
theorem dX7_canDo_130 : decode cX7_canDo 130 = .ok (.iload 7, 2) := by decide +kernel
theorem dX7_canDo_132 : decode cX7_canDo 132 = .ok (.iadd, 1) := by decide +kernel
theorem dX7_canDo_133 : decode cX7_canDo 133 = .ok (.iaload, 1) := by decide +kernel
theorem dX7_canDo_134 : decode cX7_canDo 134 = .ok (.aload_n 0, 1) := by decide +kernel
theorem dX7_canDo_135 : decode cX7_canDo 135 = .ok (.getfield 41, 3) := by decide +kernel
theorem dX7_canDo_138 : decode cX7_canDo 138 = .ok (.iload 7, 2) := by decide +kernel
theorem dX7_canDo_140 : decode cX7_canDo 140 = .ok (.iaload, 1) := by decide +kernel
theorem dX7_canDo_141 : decode cX7_canDo 141 = .ok (.isub, 1) := by decide +kernel
theorem dX7_canDo_142 : decode cX7_canDo 142 = .ok (.aload_n 0, 1) := by decide +kernel
theorem dX7_canDo_143 : decode cX7_canDo 143 = .ok (.getfield 38, 3) := by decide +kernel
theorem dX7_canDo_146 : decode cX7_canDo 146 = .ok (.iload 5, 2) := by decide +kernel
theorem dX7_canDo_148 : decode cX7_canDo 148 = .ok (.iload 6, 2) := by decide +kernel
theorem dX7_canDo_150 : decode cX7_canDo 150 = .ok (.iadd, 1) := by decide +kernel
theorem dX7_canDo_151 : decode cX7_canDo 151 = .ok (.iaload, 1) := by decide +kernel
theorem dX7_canDo_152 : decode cX7_canDo 152 = .ok (.aload_n 0, 1) := by decide +kernel
theorem dX7_canDo_153 : decode cX7_canDo 153 = .ok (.getfield 41, 3) := by decide +kernel
theorem dX7_canDo_156 : decode cX7_canDo 156 = .ok (.iload 6, 2) := by decide +kernel
theorem dX7_canDo_158 : decode cX7_canDo 158 = .ok (.iaload, 1) := by decide +kernel
theorem dX7_canDo_159 : decode cX7_canDo 159 = .ok (.isub, 1) := by decide +kernel
theorem dX7_canDo_160 : decode cX7_canDo 160 = .ok (.if_icmp .le 8, 3) := by decide +kernel
theorem dX7_canDo_163 : decode cX7_canDo 163 = .ok (.iload 7, 2) := by decide +kernel
theorem dX7_canDo_165 : decode cX7_canDo 165 = .ok (.goto 5, 3) := by decide +kernel
theorem dX7_canDo_168 : decode cX7_canDo 168 = .ok (.iload 6, 2) := by decide +kernel
theorem dX7_canDo_170 : decode cX7_canDo 170 = .ok (.istore 6, 2) := by decide +kernel
theorem dX7_canDo_172 : decode cX7_canDo 172 = .ok (.iinc 7 1, 3) := by decide +kernel
theorem dX7_canDo_175 : decode cX7_canDo 175 = .ok (.goto (-57), 3) := by decide +kernel
theorem dX7_canDo_178 : decode cX7_canDo 178 = .ok (.aload_n 0, 1) := by decide +kernel
theorem dX7_canDo_179 : decode cX7_canDo 179 = .ok (.getfield 38, 3) := by decide +kernel
theorem dX7_canDo_182 : decode cX7_canDo 182 = .ok (.iload 5, 2) := by decide +kernel
theorem dX7_canDo_184 : decode cX7_canDo 184 = .ok (.iload 6, 2) := by decide +kernel
theorem dX7_canDo_186 : decode cX7_canDo 186 = .ok (.iadd, 1) := by decide +kernel
theorem dX7_canDo_187 : decode cX7_canDo 187 = .ok (.iaload, 1) := by decide +kernel
theorem dX7_canDo_188 : decode cX7_canDo 188 = .ok (.aload_n 0, 1) := by decide +kernel
theorem dX7_canDo_189 : decode cX7_canDo 189 = .ok (.getfield 41, 3) := by decide +kernel
theorem dX7_canDo_192 : decode cX7_canDo 192 = .ok (.iload 6, 2) := by decide +kernel
theorem dX7_canDo_194 : decode cX7_canDo 194 = .ok (.iaload, 1) := by decide +kernel
theorem dX7_canDo_195 : decode cX7_canDo 195 = .ok (.isub, 1) := by decide +kernel
theorem dX7_canDo_196 : decode cX7_canDo 196 = .ok (.iconst 2, 1) := by decide +kernel
theorem dX7_canDo_197 : decode cX7_canDo 197 = .ok (.if_icmp .lt 7, 3) := by decide +kernel
theorem dX7_canDo_200 : decode cX7_canDo 200 = .ok (.iconst 1, 1) := by decide +kernel
theorem dX7_canDo_201 : decode cX7_canDo 201 = .ok (.goto 4, 3) := by decide +kernel
theorem dX7_canDo_204 : decode cX7_canDo 204 = .ok (.iconst 0, 1) := by decide +kernel
theorem dX7_canDo_205 : decode cX7_canDo 205 = .ok (.istore 7, 2) := by decide +kernel
theorem dX7_canDo_207 : decode cX7_canDo 207 = .ok (.aload_n 0, 1) := by decide +kernel
theorem dX7_canDo_208 : decode cX7_canDo 208 = .ok (.getfield 41, 3) := by decide +kernel
theorem dX7_canDo_211 : decode cX7_canDo 211 = .ok (.iload 6, 2) := by decide +kernel
theorem dX7_canDo_213 : decode cX7_canDo 213 = .ok (.dup2, 1) := by decide +kernel
theorem dX7_canDo_214 : decode cX7_canDo 214 = .ok (.iaload, 1) := by decide +kernel
theorem dX7_canDo_215 : decode cX7_canDo 215 = .ok (.iconst 2, 1) := by decide +kernel
theorem dX7_canDo_216 : decode cX7_canDo 216 = .ok (.iadd, 1) := by decide +kernel
theorem dX7_canDo_217 : decode cX7_canDo 217 = .ok (.iastore, 1) := by decide +kernel
theorem dX7_canDo_218 : decode cX7_canDo 218 = .ok (.iload 7, 2) := by decide +kernel
theorem dX7_canDo_220 : decode cX7_canDo 220 = .ok (.ireturn, 1) := by decide +kernel
theorem dX7_doIt_0 : decode cX7_doIt 0 = .ok (.aload_n 0, 1) := by decide +kernel
theorem dX7_doIt_1 : decode cX7_doIt 1 = .ok (.iload_n 1, 1) := by decide +kernel
theorem dX7_doIt_2 : decode cX7_doIt 2 = .ok (.iload_n 2, 1) := by decide +kernel
theorem dX7_doIt_3 : decode cX7_doIt 3 = .ok (.iload_n 3, 1) := by decide +kernel
theorem dX7_doIt_4 : decode cX7_doIt 4 = .ok (.invokevirtual 122, 3) := by decide +kernel
theorem dX7_doIt_7 : decode cX7_doIt 7 = .ok (.ifCond .ne 6, 3) := by decide +kernel
theorem dX7_doIt_10 : decode cX7_doIt 10 = .ok (.bipush (-2), 2) := by decide +kernel
theorem dX7_doIt_12 : decode cX7_doIt 12 = .ok (.ireturn, 1) := by decide +kernel
theorem dX7_doIt_13 : decode cX7_doIt 13 = .ok (.iconst 0, 1) := by decide +kernel
theorem dX7_doIt_14 : decode cX7_doIt 14 = .ok (.istore 4, 2) := by decide +kernel
theorem dX7_doIt_16 : decode cX7_doIt 16 = .ok (.iconst 0, 1) := by decide +kernel
theorem dX7_doIt_17 : decode cX7_doIt 17 = .ok (.istore 5, 2) := by decide +kernel
theorem dX7_doIt_19 : decode cX7_doIt 19 = .ok (.iload 5, 2) := by decide +kernel
theorem dX7_doIt_21 : decode cX7_doIt 21 = .ok (.iconst 3, 1) := by decide +kernel
theorem dX7_doIt_22 : decode cX7_doIt 22 = .ok (.if_icmp .ge 46, 3) := by decide +kernel
theorem dX7_doIt_25 : decode cX7_doIt 25 = .ok (.aload_n 0, 1) := by decide +kernel
theorem dX7_doIt_26 : decode cX7_doIt 26 = .ok (.getfield 38, 3) := by decide +kernel
theorem dX7_doIt_29 : decode cX7_doIt 29 = .ok (.iload_n 1, 1) := by decide +kernel
theorem dX7_doIt_30 : decode cX7_doIt 30 = .ok (.iconst 1, 1) := by decide +kernel
theorem dX7_doIt_31 : decode cX7_doIt 31 = .ok (.iadd, 1) := by decide +kernel
theorem dX7_doIt_32 : decode cX7_doIt 32 = .ok (.iconst 3, 1) := by decide +kernel
theorem dX7_doIt_33 : decode cX7_doIt 33 = .ok (.iload_n 2, 1) := by decide +kernel
theorem dX7_doIt_34 : decode cX7_doIt 34 = .ok (.imul, 1) := by decide +kernel
theorem dX7_doIt_35 : decode cX7_doIt 35 = .ok (.iadd, 1) := by decide +kernel
theorem dX7_doIt_36 : decode cX7_doIt 36 = .ok (.iload 5, 2) := by decide +kernel
theorem dX7_doIt_38 : decode cX7_doIt 38 = .ok (.iadd, 1) := by decide +kernel
theorem dX7_doIt_39 : decode cX7_doIt 39 = .ok (.dup2, 1) := by decide +kernel
theorem dX7_doIt_40 : decode cX7_doIt 40 = .ok (.iaload, 1) := by decide +kernel
theorem dX7_doIt_41 : decode cX7_doIt 41 = .ok (.aload_n 0, 1) := by decide +kernel
theorem dX7_doIt_42 : decode cX7_doIt 42 = .ok (.getfield 41, 3) := by decide +kernel
theorem dX7_doIt_45 : decode cX7_doIt 45 = .ok (.iload 5, 2) := by decide +kernel
theorem dX7_doIt_47 : decode cX7_doIt 47 = .ok (.iaload, 1) := by decide +kernel
theorem dX7_doIt_48 : decode cX7_doIt 48 = .ok (.isub, 1) := by decide +kernel
theorem dX7_doIt_49 : decode cX7_doIt 49 = .ok (.iastore, 1) := by decide +kernel
theorem dX7_doIt_50 : decode cX7_doIt 50 = .ok (.iload 4, 2) := by decide +kernel
theorem dX7_doIt_52 : decode cX7_doIt 52 = .ok (.aload_n 0, 1) := by decide +kernel
theorem dX7_doIt_53 : decode cX7_doIt 53 = .ok (.getfield 41, 3) := by decide +kernel
theorem dX7_doIt_56 : decode cX7_doIt 56 = .ok (.iload 5, 2) := by decide +kernel
theorem dX7_doIt_58 : decode cX7_doIt 58 = .ok (.iaload, 1) := by decide +kernel
theorem dX7_doIt_59 : decode cX7_doIt 59 = .ok (.iadd, 1) := by decide +kernel
theorem dX7_doIt_60 : decode cX7_doIt 60 = .ok (.istore 4, 2) := by decide +kernel
theorem dX7_doIt_62 : decode cX7_doIt 62 = .ok (.iinc 5 1, 3) := by decide +kernel
theorem dX7_doIt_65 : decode cX7_doIt 65 = .ok (.goto (-46), 3) := by decide +kernel
theorem dX7_doIt_68 : decode cX7_doIt 68 = .ok (.aload_n 0, 1) := by decide +kernel
theorem dX7_doIt_69 : decode cX7_doIt 69 = .ok (.getfield 38, 3) := by decide +kernel
theorem dX7_doIt_72 : decode cX7_doIt 72 = .ok (.iload_n 1, 1) := by decide +kernel
theorem dX7_doIt_73 : decode cX7_doIt 73 = .ok (.bipush 25, 2) := by decide +kernel
theorem dX7_doIt_75 : decode cX7_doIt 75 = .ok (.iadd, 1) := by decide +kernel
theorem dX7_doIt_76 : decode cX7_doIt 76 = .ok (.iload_n 2, 1) := by decide +kernel
theorem dX7_doIt_77 : decode cX7_doIt 77 = .ok (.iadd, 1) := by decide +kernel
theorem dX7_doIt_78 : decode cX7_doIt 78 = .ok (.dup2, 1) := by decide +kernel
theorem dX7_doIt_79 : decode cX7_doIt 79 = .ok (.iaload, 1) := by decide +kernel
theorem dX7_doIt_80 : decode cX7_doIt 80 = .ok (.aload_n 0, 1) := by decide +kernel
theorem dX7_doIt_81 : decode cX7_doIt 81 = .ok (.getfield 29, 3) := by decide +kernel
theorem dX7_doIt_84 : decode cX7_doIt 84 = .ok (.iload_n 3, 1) := by decide +kernel
theorem dX7_doIt_85 : decode cX7_doIt 85 = .ok (.iaload, 1) := by decide +kernel
theorem dX7_doIt_86 : decode cX7_doIt 86 = .ok (.iadd, 1) := by decide +kernel
theorem dX7_doIt_87 : decode cX7_doIt 87 = .ok (.iastore, 1) := by decide +kernel
theorem dX7_doIt_88 : decode cX7_doIt 88 = .ok (.iload 4, 2) := by decide +kernel
theorem dX7_doIt_90 : decode cX7_doIt 90 = .ok (.ireturn, 1) := by decide +kernel
theorem dX7_can_0 : decode cX7_can 0 = .ok (.aload_n 0, 1) := by decide +kernel
theorem dX7_can_1 : decode cX7_can 1 = .ok (.iload_n 1, 1) := by decide +kernel
theorem dX7_can_2 : decode cX7_can 2 = .ok (.invokevirtual 104, 3) := by decide +kernel
theorem dX7_can_5 : decode cX7_can 5 = .ok (.ifCond .eq 11, 3) := by decide +kernel
theorem dX7_can_8 : decode cX7_can 8 = .ok (.aload_n 0, 1) := by decide +kernel
theorem dX7_can_9 : decode cX7_can 9 = .ok (.iload_n 2, 1) := by decide +kernel
theorem dX7_can_10 : decode cX7_can 10 = .ok (.invokevirtual 112, 3) := by decide +kernel
theorem dX7_can_13 : decode cX7_can 13 = .ok (.ifCond .ne 5, 3) := by decide +kernel
theorem dX7_can_16 : decode cX7_can 16 = .ok (.iconst (-1), 1) := by decide +kernel
theorem dX7_can_17 : decode cX7_can 17 = .ok (.ireturn, 1) := by decide +kernel
theorem dX7_can_18 : decode cX7_can 18 = .ok (.aload_n 0, 1) := by decide +kernel
theorem dX7_can_19 : decode cX7_can 19 = .ok (.iconst 0, 1) := by decide +kernel
theorem dX7_can_20 : decode cX7_can 20 = .ok (.iload_n 1, 1) := by decide +kernel
theorem dX7_can_21 : decode cX7_can 21 = .ok (.iload_n 2, 1) := by decide +kernel
theorem dX7_can_22 : decode cX7_can 22 = .ok (.invokevirtual 122, 3) := by decide +kernel
theorem dX7_can_25 : decode cX7_can 25 = .ok (.ifCond .eq 7, 3) := by decide +kernel
theorem dX7_can_28 : decode cX7_can 28 = .ok (.iconst 1, 1) := by decide +kernel
theorem dX7_can_29 : decode cX7_can 29 = .ok (.goto 4, 3) := by decide +kernel
theorem dX7_can_32 : decode cX7_can 32 = .ok (.iconst 0, 1) := by decide +kernel
theorem dX7_can_33 : decode cX7_can 33 = .ok (.ireturn, 1) := by decide +kernel
theorem dX7_toldDeeds_0 : decode cX7_toldDeeds 0 = .ok (.iconst 0, 1) := by decide +kernel
theorem dX7_toldDeeds_1 : decode cX7_toldDeeds 1 = .ok (.istore_n 2, 1) := by decide +kernel
theorem dX7_toldDeeds_2 : decode cX7_toldDeeds 2 = .ok (.iload_n 2, 1) := by decide +kernel
theorem dX7_toldDeeds_3 : decode cX7_toldDeeds 3 = .ok (.aload_n 0, 1) := by decide +kernel
theorem dX7_toldDeeds_4 : decode cX7_toldDeeds 4 = .ok (.getfield 13, 3) := by decide +kernel
theorem dX7_toldDeeds_7 : decode cX7_toldDeeds 7 = .ok (.iconst 0, 1) := by decide +kernel
theorem dX7_toldDeeds_8 : decode cX7_toldDeeds 8 = .ok (.iaload, 1) := by decide +kernel
theorem dX7_toldDeeds_9 : decode cX7_toldDeeds 9 = .ok (.if_icmp .ge 45, 3) := by decide +kernel
theorem dX7_toldDeeds_12 : decode cX7_toldDeeds 12 = .ok (.aload_n 0, 1) := by decide +kernel
theorem dX7_toldDeeds_13 : decode cX7_toldDeeds 13 = .ok (.getfield 32, 3) := by decide +kernel
theorem dX7_toldDeeds_16 : decode cX7_toldDeeds 16 = .ok (.bipush 7, 2) := by decide +kernel
theorem dX7_toldDeeds_18 : decode cX7_toldDeeds 18 = .ok (.iload_n 2, 1) := by decide +kernel
theorem dX7_toldDeeds_19 : decode cX7_toldDeeds 19 = .ok (.imul, 1) := by decide +kernel
theorem dX7_toldDeeds_20 : decode cX7_toldDeeds 20 = .ok (.aload_n 0, 1) := by decide +kernel
theorem dX7_toldDeeds_21 : decode cX7_toldDeeds 21 = .ok (.getfield 38, 3) := by decide +kernel
theorem dX7_toldDeeds_24 : decode cX7_toldDeeds 24 = .ok (.iload_n 1, 1) := by decide +kernel
theorem dX7_toldDeeds_25 : decode cX7_toldDeeds 25 = .ok (.iconst 0, 1) := by decide +kernel
theorem dX7_toldDeeds_26 : decode cX7_toldDeeds 26 = .ok (.iadd, 1) := by decide +kernel
theorem dX7_toldDeeds_27 : decode cX7_toldDeeds 27 = .ok (.iaload, 1) := by decide +kernel
theorem dX7_toldDeeds_28 : decode cX7_toldDeeds 28 = .ok (.bipush 7, 2) := by decide +kernel
theorem dX7_toldDeeds_30 : decode cX7_toldDeeds 30 = .ok (.irem, 1) := by decide +kernel
theorem dX7_toldDeeds_31 : decode cX7_toldDeeds 31 = .ok (.iadd, 1) := by decide +kernel
theorem dX7_toldDeeds_32 : decode cX7_toldDeeds 32 = .ok (.iaload, 1) := by decide +kernel
theorem dX7_toldDeeds_33 : decode cX7_toldDeeds 33 = .ok (.istore_n 3, 1) := by decide +kernel
theorem dX7_toldDeeds_34 : decode cX7_toldDeeds 34 = .ok (.iload_n 3, 1) := by decide +kernel
theorem dX7_toldDeeds_35 : decode cX7_toldDeeds 35 = .ok (.bipush (-4), 2) := by decide +kernel
theorem dX7_toldDeeds_37 : decode cX7_toldDeeds 37 = .ok (.if_icmp .eq 11, 3) := by decide +kernel
theorem dX7_toldDeeds_40 : decode cX7_toldDeeds 40 = .ok (.aload_n 0, 1) := by decide +kernel
theorem dX7_toldDeeds_41 : decode cX7_toldDeeds 41 = .ok (.iload_n 1, 1) := by decide +kernel
theorem dX7_toldDeeds_42 : decode cX7_toldDeeds 42 = .ok (.iload_n 2, 1) := by decide +kernel
theorem dX7_toldDeeds_43 : decode cX7_toldDeeds 43 = .ok (.iload_n 3, 1) := by decide +kernel
theorem dX7_toldDeeds_44 : decode cX7_toldDeeds 44 = .ok (.invokevirtual 125, 3) := by decide +kernel
theorem dX7_toldDeeds_47 : decode cX7_toldDeeds 47 = .ok (.pop, 1) := by decide +kernel
theorem dX7_toldDeeds_48 : decode cX7_toldDeeds 48 = .ok (.iinc 2 1, 3) := by decide +kernel
theorem dX7_toldDeeds_51 : decode cX7_toldDeeds 51 = .ok (.goto (-49), 3) := by decide +kernel
theorem dX7_toldDeeds_54 : decode cX7_toldDeeds 54 = .ok (.return_, 1) := by decide +kernel
theorem dX7_sea_0 : decode cX7_sea 0 = .ok (.iload_n 1, 1) := by decide +kernel
theorem dX7_sea_1 : decode cX7_sea 1 = .ok (.iconst 1, 1) := by decide +kernel
theorem dX7_sea_2 : decode cX7_sea 2 = .ok (.iadd, 1) := by decide +kernel
theorem dX7_sea_3 : decode cX7_sea 3 = .ok (.iconst 3, 1) := by decide +kernel
theorem dX7_sea_4 : decode cX7_sea 4 = .ok (.iload_n 2, 1) := by decide +kernel
theorem dX7_sea_5 : decode cX7_sea 5 = .ok (.imul, 1) := by decide +kernel
theorem dX7_sea_6 : decode cX7_sea 6 = .ok (.iadd, 1) := by decide +kernel
theorem dX7_sea_7 : decode cX7_sea 7 = .ok (.iconst 2, 1) := by decide +kernel
theorem dX7_sea_8 : decode cX7_sea 8 = .ok (.iadd, 1) := by decide +kernel
theorem dX7_sea_9 : decode cX7_sea 9 = .ok (.istore_n 3, 1) := by decide +kernel
theorem dX7_sea_10 : decode cX7_sea 10 = .ok (.aload_n 0, 1) := by decide +kernel
theorem dX7_sea_11 : decode cX7_sea 11 = .ok (.getfield 38, 3) := by decide +kernel
theorem dX7_sea_14 : decode cX7_sea 14 = .ok (.iload_n 3, 1) := by decide +kernel
theorem dX7_sea_15 : decode cX7_sea 15 = .ok (.dup2, 1) := by decide +kernel
theorem dX7_sea_16 : decode cX7_sea 16 = .ok (.iaload, 1) := by decide +kernel
theorem dX7_sea_17 : decode cX7_sea 17 = .ok (.aload_n 0, 1) := by decide +kernel
theorem dX7_sea_18 : decode cX7_sea 18 = .ok (.getfield 17, 3) := by decide +kernel
theorem dX7_sea_21 : decode cX7_sea 21 = .ok (.iload_n 2, 1) := by decide +kernel
theorem dX7_sea_22 : decode cX7_sea 22 = .ok (.iaload, 1) := by decide +kernel
theorem dX7_sea_23 : decode cX7_sea 23 = .ok (.iconst 2, 1) := by decide +kernel
theorem dX7_sea_24 : decode cX7_sea 24 = .ok (.if_icmp .ne 16, 3) := by decide +kernel
theorem dX7_sea_27 : decode cX7_sea 27 = .ok (.aload_n 0, 1) := by decide +kernel
theorem dX7_sea_28 : decode cX7_sea 28 = .ok (.getfield 38, 3) := by decide +kernel
theorem dX7_sea_31 : decode cX7_sea 31 = .ok (.iload_n 3, 1) := by decide +kernel
theorem dX7_sea_32 : decode cX7_sea 32 = .ok (.iaload, 1) := by decide +kernel
theorem dX7_sea_33 : decode cX7_sea 33 = .ok (.ifCond .le 7, 3) := by decide +kernel
theorem dX7_sea_36 : decode cX7_sea 36 = .ok (.iconst 1, 1) := by decide +kernel
theorem dX7_sea_37 : decode cX7_sea 37 = .ok (.goto 4, 3) := by decide +kernel
theorem dX7_sea_40 : decode cX7_sea 40 = .ok (.iconst 0, 1) := by decide +kernel
theorem dX7_sea_41 : decode cX7_sea 41 = .ok (.isub, 1) := by decide +kernel
theorem dX7_sea_42 : decode cX7_sea 42 = .ok (.iastore, 1) := by decide +kernel
theorem dX7_sea_43 : decode cX7_sea 43 = .ok (.return_, 1) := by decide +kernel
theorem dX7_seaAll_0 : decode cX7_seaAll 0 = .ok (.iconst 0, 1) := by decide +kernel
theorem dX7_seaAll_1 : decode cX7_seaAll 1 = .ok (.istore_n 2, 1) := by decide +kernel
theorem dX7_seaAll_2 : decode cX7_seaAll 2 = .ok (.iload_n 2, 1) := by decide +kernel
theorem dX7_seaAll_3 : decode cX7_seaAll 3 = .ok (.aload_n 0, 1) := by decide +kernel
theorem dX7_seaAll_4 : decode cX7_seaAll 4 = .ok (.getfield 13, 3) := by decide +kernel
theorem dX7_seaAll_7 : decode cX7_seaAll 7 = .ok (.iconst 0, 1) := by decide +kernel
theorem dX7_seaAll_8 : decode cX7_seaAll 8 = .ok (.iaload, 1) := by decide +kernel
theorem dX7_seaAll_9 : decode cX7_seaAll 9 = .ok (.if_icmp .ge 15, 3) := by decide +kernel
theorem dX7_seaAll_12 : decode cX7_seaAll 12 = .ok (.aload_n 0, 1) := by decide +kernel
theorem dX7_seaAll_13 : decode cX7_seaAll 13 = .ok (.iload_n 1, 1) := by decide +kernel
theorem dX7_seaAll_14 : decode cX7_seaAll 14 = .ok (.iload_n 2, 1) := by decide +kernel
theorem dX7_seaAll_15 : decode cX7_seaAll 15 = .ok (.invokevirtual 128, 3) := by decide +kernel
theorem dX7_seaAll_18 : decode cX7_seaAll 18 = .ok (.iinc 2 1, 3) := by decide +kernel
theorem dX7_seaAll_21 : decode cX7_seaAll 21 = .ok (.goto (-19), 3) := by decide +kernel
theorem dX7_seaAll_24 : decode cX7_seaAll 24 = .ok (.return_, 1) := by decide +kernel
theorem dX7_over_0 : decode cX7_over 0 = .ok (.aload_n 0, 1) := by decide +kernel
theorem dX7_over_1 : decode cX7_over 1 = .ok (.getfield 38, 3) := by decide +kernel
theorem dX7_over_4 : decode cX7_over 4 = .ok (.iload_n 1, 1) := by decide +kernel
theorem dX7_over_5 : decode cX7_over 5 = .ok (.iconst 0, 1) := by decide +kernel
theorem dX7_over_6 : decode cX7_over 6 = .ok (.iadd, 1) := by decide +kernel
theorem dX7_over_7 : decode cX7_over 7 = .ok (.iaload, 1) := by decide +kernel
theorem dX7_over_8 : decode cX7_over 8 = .ok (.bipush 7, 2) := by decide +kernel
theorem dX7_over_10 : decode cX7_over 10 = .ok (.irem, 1) := by decide +kernel
theorem dX7_over_11 : decode cX7_over 11 = .ok (.bipush 6, 2) := by decide +kernel
theorem dX7_over_13 : decode cX7_over 13 = .ok (.if_icmp .ne 7, 3) := by decide +kernel
theorem dX7_over_16 : decode cX7_over 16 = .ok (.iconst 1, 1) := by decide +kernel
theorem dX7_over_17 : decode cX7_over 17 = .ok (.goto 4, 3) := by decide +kernel
theorem dX7_over_20 : decode cX7_over 20 = .ok (.iconst 0, 1) := by decide +kernel
theorem dX7_over_21 : decode cX7_over 21 = .ok (.istore_n 2, 1) := by decide +kernel
theorem dX7_over_22 : decode cX7_over 22 = .ok (.iconst 0, 1) := by decide +kernel
theorem dX7_over_23 : decode cX7_over 23 = .ok (.istore_n 3, 1) := by decide +kernel
theorem dX7_over_24 : decode cX7_over 24 = .ok (.iload_n 3, 1) := by decide +kernel
theorem dX7_over_25 : decode cX7_over 25 = .ok (.iconst 3, 1) := by decide +kernel
theorem dX7_over_26 : decode cX7_over 26 = .ok (.aload_n 0, 1) := by decide +kernel
theorem dX7_over_27 : decode cX7_over 27 = .ok (.getfield 13, 3) := by decide +kernel
theorem dX7_over_30 : decode cX7_over 30 = .ok (.iconst 0, 1) := by decide +kernel
theorem dX7_over_31 : decode cX7_over 31 = .ok (.iaload, 1) := by decide +kernel
theorem dX7_over_32 : decode cX7_over 32 = .ok (.imul, 1) := by decide +kernel
theorem dX7_over_33 : decode cX7_over 33 = .ok (.if_icmp .ge 72, 3) := by decide +kernel
theorem dX7_over_36 : decode cX7_over 36 = .ok (.iload_n 2, 1) := by decide +kernel
theorem dX7_over_37 : decode cX7_over 37 = .ok (.ifCond .eq 68, 3) := by decide +kernel
theorem dX7_over_40 : decode cX7_over 40 = .ok (.aload_n 0, 1) := by decide +kernel
theorem dX7_over_41 : decode cX7_over 41 = .ok (.getfield 20, 3) := by decide +kernel
theorem dX7_over_44 : decode cX7_over 44 = .ok (.iload_n 3, 1) := by decide +kernel
theorem dX7_over_45 : decode cX7_over 45 = .ok (.iaload, 1) := by decide +kernel
theorem dX7_over_46 : decode cX7_over 46 = .ok (.aload_n 0, 1) := by decide +kernel
theorem dX7_over_47 : decode cX7_over 47 = .ok (.getfield 17, 3) := by decide +kernel
theorem dX7_over_50 : decode cX7_over 50 = .ok (.iload_n 3, 1) := by decide +kernel
theorem dX7_over_51 : decode cX7_over 51 = .ok (.iconst 3, 1) := by decide +kernel
theorem dX7_over_52 : decode cX7_over 52 = .ok (.idiv, 1) := by decide +kernel
theorem dX7_over_53 : decode cX7_over 53 = .ok (.iaload, 1) := by decide +kernel
theorem dX7_over_54 : decode cX7_over 54 = .ok (.iconst 1, 1) := by decide +kernel
theorem dX7_over_55 : decode cX7_over 55 = .ok (.if_icmp .ne 16, 3) := by decide +kernel
theorem dX7_over_58 : decode cX7_over 58 = .ok (.aload_n 0, 1) := by decide +kernel
theorem dX7_over_59 : decode cX7_over 59 = .ok (.getfield 38, 3) := by decide +kernel
theorem dX7_over_62 : decode cX7_over 62 = .ok (.iload_n 1, 1) := by decide +kernel
theorem dX7_over_63 : decode cX7_over 63 = .ok (.iconst 1, 1) := by decide +kernel
theorem dX7_over_64 : decode cX7_over 64 = .ok (.iadd, 1) := by decide +kernel
theorem dX7_over_65 : decode cX7_over 65 = .ok (.iload_n 3, 1) := by decide +kernel
theorem dX7_over_66 : decode cX7_over 66 = .ok (.iadd, 1) := by decide +kernel
theorem dX7_over_67 : decode cX7_over 67 = .ok (.iaload, 1) := by decide +kernel
theorem dX7_over_68 : decode cX7_over 68 = .ok (.goto 4, 3) := by decide +kernel
theorem dX7_over_71 : decode cX7_over 71 = .ok (.iconst 0, 1) := by decide +kernel
theorem dX7_over_72 : decode cX7_over 72 = .ok (.iadd, 1) := by decide +kernel
theorem dX7_over_73 : decode cX7_over 73 = .ok (.istore 4, 2) := by decide +kernel
theorem dX7_over_75 : decode cX7_over 75 = .ok (.aload_n 0, 1) := by decide +kernel
theorem dX7_over_76 : decode cX7_over 76 = .ok (.getfield 38, 3) := by decide +kernel
theorem dX7_over_79 : decode cX7_over 79 = .ok (.iload_n 1, 1) := by decide +kernel
theorem dX7_over_80 : decode cX7_over 80 = .ok (.iconst 1, 1) := by decide +kernel
theorem dX7_over_81 : decode cX7_over 81 = .ok (.iadd, 1) := by decide +kernel
theorem dX7_over_82 : decode cX7_over 82 = .ok (.iload_n 3, 1) := by decide +kernel
theorem dX7_over_83 : decode cX7_over 83 = .ok (.iadd, 1) := by decide +kernel
theorem dX7_over_84 : decode cX7_over 84 = .ok (.iload 4, 2) := by decide +kernel
theorem dX7_over_86 : decode cX7_over 86 = .ok (.bipush 99, 2) := by decide +kernel
theorem dX7_over_88 : decode cX7_over 88 = .ok (.if_icmp .le 8, 3) := by decide +kernel
theorem dX7_over_91 : decode cX7_over 91 = .ok (.bipush 99, 2) := by decide +kernel
theorem dX7_over_93 : decode cX7_over 93 = .ok (.goto 5, 3) := by decide +kernel
theorem dX7_over_96 : decode cX7_over 96 = .ok (.iload 4, 2) := by decide +kernel
theorem dX7_over_98 : decode cX7_over 98 = .ok (.iastore, 1) := by decide +kernel
theorem dX7_over_99 : decode cX7_over 99 = .ok (.iinc 3 1, 3) := by decide +kernel
theorem dX7_over_102 : decode cX7_over 102 = .ok (.goto (-78), 3) := by decide +kernel
theorem dX7_over_105 : decode cX7_over 105 = .ok (.aload_n 0, 1) := by decide +kernel
theorem dX7_over_106 : decode cX7_over 106 = .ok (.getfield 38, 3) := by decide +kernel
theorem dX7_over_109 : decode cX7_over 109 = .ok (.iload_n 1, 1) := by decide +kernel
theorem dX7_over_110 : decode cX7_over 110 = .ok (.iconst 0, 1) := by decide +kernel
theorem dX7_over_111 : decode cX7_over 111 = .ok (.iadd, 1) := by decide +kernel
theorem dX7_over_112 : decode cX7_over 112 = .ok (.dup2, 1) := by decide +kernel
theorem dX7_over_113 : decode cX7_over 113 = .ok (.iaload, 1) := by decide +kernel
theorem dX7_over_114 : decode cX7_over 114 = .ok (.iconst 1, 1) := by decide +kernel
theorem dX7_over_115 : decode cX7_over 115 = .ok (.iadd, 1) := by decide +kernel
theorem dX7_over_116 : decode cX7_over 116 = .ok (.iastore, 1) := by decide +kernel
theorem dX7_over_117 : decode cX7_over 117 = .ok (.return_, 1) := by decide +kernel
theorem dX7_know_0 : decode cX7_know 0 = .ok (.aload_n 0, 1) := by decide +kernel
theorem dX7_know_1 : decode cX7_know 1 = .ok (.getfield 92, 3) := by decide +kernel
theorem dX7_know_4 : decode cX7_know 4 = .ok (.bipush 8, 2) := by decide +kernel
theorem dX7_know_6 : decode cX7_know 6 = .ok (.if_icmp .ne 46, 3) := by decide +kernel
theorem dX7_know_9 : decode cX7_know 9 = .ok (.iconst 0, 1) := by decide +kernel
theorem dX7_know_10 : decode cX7_know 10 = .ok (.istore_n 1, 1) := by decide +kernel
theorem dX7_know_11 : decode cX7_know 11 = .ok (.iload_n 1, 1) := by decide +kernel
theorem dX7_know_12 : decode cX7_know 12 = .ok (.sipush 217, 3) := by decide +kernel
theorem dX7_know_15 : decode cX7_know 15 = .ok (.if_icmp .ge 27, 3) := by decide +kernel
theorem dX7_know_18 : decode cX7_know 18 = .ok (.aload_n 0, 1) := by decide +kernel
theorem dX7_know_19 : decode cX7_know 19 = .ok (.getfield 38, 3) := by decide +kernel
theorem dX7_know_22 : decode cX7_know 22 = .ok (.bipush 31, 2) := by decide +kernel
theorem dX7_know_24 : decode cX7_know 24 = .ok (.iload_n 1, 1) := by decide +kernel
theorem dX7_know_25 : decode cX7_know 25 = .ok (.iadd, 1) := by decide +kernel
theorem dX7_know_26 : decode cX7_know 26 = .ok (.aload_n 0, 1) := by decide +kernel
end
section
theorem dX7_know_27 : decode cX7_know 27 = .ok (.getfield 38, 3) := by decide +kernel
theorem dX7_know_30 : decode cX7_know 30 = .ok (.bipush 62, 2) := by decide +kernel
theorem dX7_know_32 : decode cX7_know 32 = .ok (.iload_n 1, 1) := by decide +kernel
theorem dX7_know_33 : decode cX7_know 33 = .ok (.iadd, 1) := by decide +kernel
theorem dX7_know_34 : decode cX7_know 34 = .ok (.iaload, 1) := by decide +kernel
theorem dX7_know_35 : decode cX7_know 35 = .ok (.iastore, 1) := by decide +kernel
theorem dX7_know_36 : decode cX7_know 36 = .ok (.iinc 1 1, 3) := by decide +kernel
theorem dX7_know_39 : decode cX7_know 39 = .ok (.goto (-28), 3) := by decide +kernel
theorem dX7_know_42 : decode cX7_know 42 = .ok (.aload_n 0, 1) := by decide +kernel
theorem dX7_know_43 : decode cX7_know 43 = .ok (.dup, 1) := by decide +kernel
theorem dX7_know_44 : decode cX7_know 44 = .ok (.getfield 92, 3) := by decide +kernel
theorem dX7_know_47 : decode cX7_know 47 = .ok (.iconst 1, 1) := by decide +kernel
theorem dX7_know_48 : decode cX7_know 48 = .ok (.isub, 1) := by decide +kernel
theorem dX7_know_49 : decode cX7_know 49 = .ok (.putfield 92, 3) := by decide +kernel
theorem dX7_know_52 : decode cX7_know 52 = .ok (.aload_n 0, 1) := by decide +kernel
theorem dX7_know_53 : decode cX7_know 53 = .ok (.iconst 0, 1) := by decide +kernel
theorem dX7_know_54 : decode cX7_know 54 = .ok (.bipush 31, 2) := by decide +kernel
theorem dX7_know_56 : decode cX7_know 56 = .ok (.bipush 31, 2) := by decide +kernel
theorem dX7_know_58 : decode cX7_know 58 = .ok (.aload_n 0, 1) := by decide +kernel
theorem dX7_know_59 : decode cX7_know 59 = .ok (.getfield 92, 3) := by decide +kernel
theorem dX7_know_62 : decode cX7_know 62 = .ok (.imul, 1) := by decide +kernel
theorem dX7_know_63 : decode cX7_know 63 = .ok (.iadd, 1) := by decide +kernel
theorem dX7_know_64 : decode cX7_know 64 = .ok (.invokevirtual 131, 3) := by decide +kernel
theorem dX7_know_67 : decode cX7_know 67 = .ok (.aload_n 0, 1) := by decide +kernel
theorem dX7_know_68 : decode cX7_know 68 = .ok (.dup, 1) := by decide +kernel
theorem dX7_know_69 : decode cX7_know 69 = .ok (.getfield 92, 3) := by decide +kernel
theorem dX7_know_72 : decode cX7_know 72 = .ok (.iconst 1, 1) := by decide +kernel
theorem dX7_know_73 : decode cX7_know 73 = .ok (.iadd, 1) := by decide +kernel
theorem dX7_know_74 : decode cX7_know 74 = .ok (.putfield 92, 3) := by decide +kernel
theorem dX7_know_77 : decode cX7_know 77 = .ok (.return_, 1) := by decide +kernel
theorem dX7_pass_0 : decode cX7_pass 0 = .ok (.iload_n 1, 1) := by decide +kernel
theorem dX7_pass_1 : decode cX7_pass 1 = .ok (.iconst 1, 1) := by decide +kernel
theorem dX7_pass_2 : decode cX7_pass 2 = .ok (.bipush 30, 2) := by decide +kernel
theorem dX7_pass_4 : decode cX7_pass 4 = .ok (.invokestatic 66, 3) := by decide +kernel
theorem dX7_pass_7 : decode cX7_pass 7 = .ok (.ifCond .ne 5, 3) := by decide +kernel
theorem dX7_pass_10 : decode cX7_pass 10 = .ok (.iconst (-1), 1) := by decide +kernel
theorem dX7_pass_11 : decode cX7_pass 11 = .ok (.ireturn, 1) := by decide +kernel
theorem dX7_pass_12 : decode cX7_pass 12 = .ok (.aload_n 0, 1) := by decide +kernel
theorem dX7_pass_13 : decode cX7_pass 13 = .ok (.invokevirtual 134, 3) := by decide +kernel
theorem dX7_pass_16 : decode cX7_pass 16 = .ok (.iconst 0, 1) := by decide +kernel
theorem dX7_pass_17 : decode cX7_pass 17 = .ok (.istore_n 2, 1) := by decide +kernel
theorem dX7_pass_18 : decode cX7_pass 18 = .ok (.iload_n 2, 1) := by decide +kernel
theorem dX7_pass_19 : decode cX7_pass 19 = .ok (.iload_n 1, 1) := by decide +kernel
theorem dX7_pass_20 : decode cX7_pass 20 = .ok (.if_icmp .ge 24, 3) := by decide +kernel
theorem dX7_pass_23 : decode cX7_pass 23 = .ok (.aload_n 0, 1) := by decide +kernel
theorem dX7_pass_24 : decode cX7_pass 24 = .ok (.iconst 0, 1) := by decide +kernel
theorem dX7_pass_25 : decode cX7_pass 25 = .ok (.invokevirtual 137, 3) := by decide +kernel
theorem dX7_pass_28 : decode cX7_pass 28 = .ok (.aload_n 0, 1) := by decide +kernel
theorem dX7_pass_29 : decode cX7_pass 29 = .ok (.iconst 0, 1) := by decide +kernel
theorem dX7_pass_30 : decode cX7_pass 30 = .ok (.invokevirtual 141, 3) := by decide +kernel
theorem dX7_pass_33 : decode cX7_pass 33 = .ok (.aload_n 0, 1) := by decide +kernel
theorem dX7_pass_34 : decode cX7_pass 34 = .ok (.iconst 0, 1) := by decide +kernel
theorem dX7_pass_35 : decode cX7_pass 35 = .ok (.invokevirtual 144, 3) := by decide +kernel
theorem dX7_pass_38 : decode cX7_pass 38 = .ok (.iinc 2 1, 3) := by decide +kernel
theorem dX7_pass_41 : decode cX7_pass 41 = .ok (.goto (-23), 3) := by decide +kernel
theorem dX7_pass_44 : decode cX7_pass 44 = .ok (.aload_n 0, 1) := by decide +kernel
theorem dX7_pass_45 : decode cX7_pass 45 = .ok (.getfield 38, 3) := by decide +kernel
theorem dX7_pass_48 : decode cX7_pass 48 = .ok (.iconst 0, 1) := by decide +kernel
theorem dX7_pass_49 : decode cX7_pass 49 = .ok (.iaload, 1) := by decide +kernel
theorem dX7_pass_50 : decode cX7_pass 50 = .ok (.bipush 7, 2) := by decide +kernel
theorem dX7_pass_52 : decode cX7_pass 52 = .ok (.irem, 1) := by decide +kernel
theorem dX7_pass_53 : decode cX7_pass 53 = .ok (.ireturn, 1) := by decide +kernel
theorem dX7_act_0 : decode cX7_act 0 = .ok (.aload_n 0, 1) := by decide +kernel
theorem dX7_act_1 : decode cX7_act 1 = .ok (.iload_n 1, 1) := by decide +kernel
theorem dX7_act_2 : decode cX7_act 2 = .ok (.invokevirtual 104, 3) := by decide +kernel
theorem dX7_act_5 : decode cX7_act 5 = .ok (.ifCond .eq 11, 3) := by decide +kernel
theorem dX7_act_8 : decode cX7_act 8 = .ok (.aload_n 0, 1) := by decide +kernel
theorem dX7_act_9 : decode cX7_act 9 = .ok (.iload_n 2, 1) := by decide +kernel
theorem dX7_act_10 : decode cX7_act 10 = .ok (.invokevirtual 112, 3) := by decide +kernel
theorem dX7_act_13 : decode cX7_act 13 = .ok (.ifCond .ne 5, 3) := by decide +kernel
theorem dX7_act_16 : decode cX7_act 16 = .ok (.iconst (-1), 1) := by decide +kernel
theorem dX7_act_17 : decode cX7_act 17 = .ok (.ireturn, 1) := by decide +kernel
theorem dX7_act_18 : decode cX7_act 18 = .ok (.aload_n 0, 1) := by decide +kernel
theorem dX7_act_19 : decode cX7_act 19 = .ok (.iconst 0, 1) := by decide +kernel
theorem dX7_act_20 : decode cX7_act 20 = .ok (.iload_n 1, 1) := by decide +kernel
theorem dX7_act_21 : decode cX7_act 21 = .ok (.iload_n 2, 1) := by decide +kernel
theorem dX7_act_22 : decode cX7_act 22 = .ok (.invokevirtual 122, 3) := by decide +kernel
theorem dX7_act_25 : decode cX7_act 25 = .ok (.ifCond .ne 6, 3) := by decide +kernel
theorem dX7_act_28 : decode cX7_act 28 = .ok (.bipush (-2), 2) := by decide +kernel
theorem dX7_act_30 : decode cX7_act 30 = .ok (.ireturn, 1) := by decide +kernel
theorem dX7_act_31 : decode cX7_act 31 = .ok (.aload_n 0, 1) := by decide +kernel
theorem dX7_act_32 : decode cX7_act 32 = .ok (.invokevirtual 134, 3) := by decide +kernel
theorem dX7_act_35 : decode cX7_act 35 = .ok (.aload_n 0, 1) := by decide +kernel
theorem dX7_act_36 : decode cX7_act 36 = .ok (.iconst 0, 1) := by decide +kernel
theorem dX7_act_37 : decode cX7_act 37 = .ok (.iload_n 1, 1) := by decide +kernel
theorem dX7_act_38 : decode cX7_act 38 = .ok (.iload_n 2, 1) := by decide +kernel
theorem dX7_act_39 : decode cX7_act 39 = .ok (.invokevirtual 125, 3) := by decide +kernel
theorem dX7_act_42 : decode cX7_act 42 = .ok (.ireturn, 1) := by decide +kernel
theorem dX7_lend_0 : decode cX7_lend 0 = .ok (.aload_n 0, 1) := by decide +kernel
theorem dX7_lend_1 : decode cX7_lend 1 = .ok (.iload_n 1, 1) := by decide +kernel
theorem dX7_lend_2 : decode cX7_lend 2 = .ok (.invokevirtual 104, 3) := by decide +kernel
theorem dX7_lend_5 : decode cX7_lend 5 = .ok (.ifCond .eq 34, 3) := by decide +kernel
theorem dX7_lend_8 : decode cX7_lend 8 = .ok (.aload_n 0, 1) := by decide +kernel
theorem dX7_lend_9 : decode cX7_lend 9 = .ok (.iload_n 2, 1) := by decide +kernel
theorem dX7_lend_10 : decode cX7_lend 10 = .ok (.invokevirtual 104, 3) := by decide +kernel
theorem dX7_lend_13 : decode cX7_lend 13 = .ok (.ifCond .eq 26, 3) := by decide +kernel
theorem dX7_lend_16 : decode cX7_lend 16 = .ok (.iload_n 1, 1) := by decide +kernel
theorem dX7_lend_17 : decode cX7_lend 17 = .ok (.iload_n 2, 1) := by decide +kernel
theorem dX7_lend_18 : decode cX7_lend 18 = .ok (.if_icmp .eq 21, 3) := by decide +kernel
theorem dX7_lend_21 : decode cX7_lend 21 = .ok (.iload_n 3, 1) := by decide +kernel
theorem dX7_lend_22 : decode cX7_lend 22 = .ok (.invokestatic 147, 3) := by decide +kernel
theorem dX7_lend_25 : decode cX7_lend 25 = .ok (.ifCond .eq 14, 3) := by decide +kernel
theorem dX7_lend_28 : decode cX7_lend 28 = .ok (.iload 4, 2) := by decide +kernel
theorem dX7_lend_30 : decode cX7_lend 30 = .ok (.iconst 1, 1) := by decide +kernel
theorem dX7_lend_31 : decode cX7_lend 31 = .ok (.bipush 99, 2) := by decide +kernel
theorem dX7_lend_33 : decode cX7_lend 33 = .ok (.invokestatic 66, 3) := by decide +kernel
theorem dX7_lend_36 : decode cX7_lend 36 = .ok (.ifCond .ne 5, 3) := by decide +kernel
theorem dX7_lend_39 : decode cX7_lend 39 = .ok (.iconst (-1), 1) := by decide +kernel
theorem dX7_lend_40 : decode cX7_lend 40 = .ok (.ireturn, 1) := by decide +kernel
theorem dX7_lend_41 : decode cX7_lend 41 = .ok (.iconst 1, 1) := by decide +kernel
theorem dX7_lend_42 : decode cX7_lend 42 = .ok (.iconst 3, 1) := by decide +kernel
theorem dX7_lend_43 : decode cX7_lend 43 = .ok (.iload_n 1, 1) := by decide +kernel
theorem dX7_lend_44 : decode cX7_lend 44 = .ok (.imul, 1) := by decide +kernel
theorem dX7_lend_45 : decode cX7_lend 45 = .ok (.iadd, 1) := by decide +kernel
theorem dX7_lend_46 : decode cX7_lend 46 = .ok (.iload_n 3, 1) := by decide +kernel
theorem dX7_lend_47 : decode cX7_lend 47 = .ok (.iadd, 1) := by decide +kernel
theorem dX7_lend_48 : decode cX7_lend 48 = .ok (.istore 5, 2) := by decide +kernel
theorem dX7_lend_50 : decode cX7_lend 50 = .ok (.iconst 1, 1) := by decide +kernel
theorem dX7_lend_51 : decode cX7_lend 51 = .ok (.iconst 3, 1) := by decide +kernel
theorem dX7_lend_52 : decode cX7_lend 52 = .ok (.iload_n 2, 1) := by decide +kernel
theorem dX7_lend_53 : decode cX7_lend 53 = .ok (.imul, 1) := by decide +kernel
theorem dX7_lend_54 : decode cX7_lend 54 = .ok (.iadd, 1) := by decide +kernel
theorem dX7_lend_55 : decode cX7_lend 55 = .ok (.iload_n 3, 1) := by decide +kernel
theorem dX7_lend_56 : decode cX7_lend 56 = .ok (.iadd, 1) := by decide +kernel
theorem dX7_lend_57 : decode cX7_lend 57 = .ok (.istore 6, 2) := by decide +kernel
theorem dX7_lend_59 : decode cX7_lend 59 = .ok (.aload_n 0, 1) := by decide +kernel
theorem dX7_lend_60 : decode cX7_lend 60 = .ok (.getfield 38, 3) := by decide +kernel
theorem dX7_lend_63 : decode cX7_lend 63 = .ok (.iload 5, 2) := by decide +kernel
theorem dX7_lend_65 : decode cX7_lend 65 = .ok (.iaload, 1) := by decide +kernel
theorem dX7_lend_66 : decode cX7_lend 66 = .ok (.iload 4, 2) := by decide +kernel
theorem dX7_lend_68 : decode cX7_lend 68 = .ok (.if_icmp .ge 6, 3) := by decide +kernel
theorem dX7_lend_71 : decode cX7_lend 71 = .ok (.bipush (-2), 2) := by decide +kernel
theorem dX7_lend_73 : decode cX7_lend 73 = .ok (.ireturn, 1) := by decide +kernel
theorem dX7_lend_74 : decode cX7_lend 74 = .ok (.aload_n 0, 1) := by decide +kernel
theorem dX7_lend_75 : decode cX7_lend 75 = .ok (.getfield 38, 3) := by decide +kernel
theorem dX7_lend_78 : decode cX7_lend 78 = .ok (.iload 6, 2) := by decide +kernel
theorem dX7_lend_80 : decode cX7_lend 80 = .ok (.iaload, 1) := by decide +kernel
theorem dX7_lend_81 : decode cX7_lend 81 = .ok (.iload 4, 2) := by decide +kernel
theorem dX7_lend_83 : decode cX7_lend 83 = .ok (.iadd, 1) := by decide +kernel
theorem dX7_lend_84 : decode cX7_lend 84 = .ok (.bipush 99, 2) := by decide +kernel
theorem dX7_lend_86 : decode cX7_lend 86 = .ok (.if_icmp .le 6, 3) := by decide +kernel
theorem dX7_lend_89 : decode cX7_lend 89 = .ok (.bipush (-3), 2) := by decide +kernel
theorem dX7_lend_91 : decode cX7_lend 91 = .ok (.ireturn, 1) := by decide +kernel
theorem dX7_lend_92 : decode cX7_lend 92 = .ok (.aload_n 0, 1) := by decide +kernel
theorem dX7_lend_93 : decode cX7_lend 93 = .ok (.invokevirtual 134, 3) := by decide +kernel
theorem dX7_lend_96 : decode cX7_lend 96 = .ok (.aload_n 0, 1) := by decide +kernel
theorem dX7_lend_97 : decode cX7_lend 97 = .ok (.getfield 38, 3) := by decide +kernel
theorem dX7_lend_100 : decode cX7_lend 100 = .ok (.iload 5, 2) := by decide +kernel
theorem dX7_lend_102 : decode cX7_lend 102 = .ok (.dup2, 1) := by decide +kernel
theorem dX7_lend_103 : decode cX7_lend 103 = .ok (.iaload, 1) := by decide +kernel
theorem dX7_lend_104 : decode cX7_lend 104 = .ok (.iload 4, 2) := by decide +kernel
theorem dX7_lend_106 : decode cX7_lend 106 = .ok (.isub, 1) := by decide +kernel
theorem dX7_lend_107 : decode cX7_lend 107 = .ok (.iastore, 1) := by decide +kernel
theorem dX7_lend_108 : decode cX7_lend 108 = .ok (.aload_n 0, 1) := by decide +kernel
theorem dX7_lend_109 : decode cX7_lend 109 = .ok (.getfield 38, 3) := by decide +kernel
theorem dX7_lend_112 : decode cX7_lend 112 = .ok (.iload 6, 2) := by decide +kernel
theorem dX7_lend_114 : decode cX7_lend 114 = .ok (.dup2, 1) := by decide +kernel
theorem dX7_lend_115 : decode cX7_lend 115 = .ok (.iaload, 1) := by decide +kernel
theorem dX7_lend_116 : decode cX7_lend 116 = .ok (.iload 4, 2) := by decide +kernel
theorem dX7_lend_118 : decode cX7_lend 118 = .ok (.iadd, 1) := by decide +kernel
theorem dX7_lend_119 : decode cX7_lend 119 = .ok (.iastore, 1) := by decide +kernel
theorem dX7_lend_120 : decode cX7_lend 120 = .ok (.aload_n 0, 1) := by decide +kernel
theorem dX7_lend_121 : decode cX7_lend 121 = .ok (.getfield 38, 3) := by decide +kernel
theorem dX7_lend_124 : decode cX7_lend 124 = .ok (.iload 6, 2) := by decide +kernel
theorem dX7_lend_126 : decode cX7_lend 126 = .ok (.iaload, 1) := by decide +kernel
theorem dX7_lend_127 : decode cX7_lend 127 = .ok (.ireturn, 1) := by decide +kernel
theorem dX7_sell_0 : decode cX7_sell 0 = .ok (.aload_n 0, 1) := by decide +kernel
theorem dX7_sell_1 : decode cX7_sell 1 = .ok (.iload_n 1, 1) := by decide +kernel
theorem dX7_sell_2 : decode cX7_sell 2 = .ok (.invokevirtual 104, 3) := by decide +kernel
theorem dX7_sell_5 : decode cX7_sell 5 = .ok (.ifCond .eq 20, 3) := by decide +kernel
theorem dX7_sell_8 : decode cX7_sell 8 = .ok (.iload_n 2, 1) := by decide +kernel
theorem dX7_sell_9 : decode cX7_sell 9 = .ok (.invokestatic 147, 3) := by decide +kernel
theorem dX7_sell_12 : decode cX7_sell 12 = .ok (.ifCond .eq 13, 3) := by decide +kernel
theorem dX7_sell_15 : decode cX7_sell 15 = .ok (.iload_n 3, 1) := by decide +kernel
theorem dX7_sell_16 : decode cX7_sell 16 = .ok (.iconst 1, 1) := by decide +kernel
theorem dX7_sell_17 : decode cX7_sell 17 = .ok (.bipush 99, 2) := by decide +kernel
theorem dX7_sell_19 : decode cX7_sell 19 = .ok (.invokestatic 66, 3) := by decide +kernel
theorem dX7_sell_22 : decode cX7_sell 22 = .ok (.ifCond .ne 5, 3) := by decide +kernel
theorem dX7_sell_25 : decode cX7_sell 25 = .ok (.iconst (-1), 1) := by decide +kernel
theorem dX7_sell_26 : decode cX7_sell 26 = .ok (.ireturn, 1) := by decide +kernel
theorem dX7_sell_27 : decode cX7_sell 27 = .ok (.aload_n 0, 1) := by decide +kernel
theorem dX7_sell_28 : decode cX7_sell 28 = .ok (.getfield 38, 3) := by decide +kernel
theorem dX7_sell_31 : decode cX7_sell 31 = .ok (.iconst 1, 1) := by decide +kernel
theorem dX7_sell_32 : decode cX7_sell 32 = .ok (.iconst 3, 1) := by decide +kernel
theorem dX7_sell_33 : decode cX7_sell 33 = .ok (.iload_n 1, 1) := by decide +kernel
theorem dX7_sell_34 : decode cX7_sell 34 = .ok (.imul, 1) := by decide +kernel
theorem dX7_sell_35 : decode cX7_sell 35 = .ok (.iadd, 1) := by decide +kernel
theorem dX7_sell_36 : decode cX7_sell 36 = .ok (.iload_n 2, 1) := by decide +kernel
theorem dX7_sell_37 : decode cX7_sell 37 = .ok (.iadd, 1) := by decide +kernel
theorem dX7_sell_38 : decode cX7_sell 38 = .ok (.iaload, 1) := by decide +kernel
theorem dX7_sell_39 : decode cX7_sell 39 = .ok (.iload_n 3, 1) := by decide +kernel
theorem dX7_sell_40 : decode cX7_sell 40 = .ok (.if_icmp .ge 6, 3) := by decide +kernel
theorem dX7_sell_43 : decode cX7_sell 43 = .ok (.bipush (-2), 2) := by decide +kernel
theorem dX7_sell_45 : decode cX7_sell 45 = .ok (.ireturn, 1) := by decide +kernel
theorem dX7_sell_46 : decode cX7_sell 46 = .ok (.aload_n 0, 1) := by decide +kernel
theorem dX7_sell_47 : decode cX7_sell 47 = .ok (.invokevirtual 134, 3) := by decide +kernel
theorem dX7_sell_50 : decode cX7_sell 50 = .ok (.aload_n 0, 1) := by decide +kernel
theorem dX7_sell_51 : decode cX7_sell 51 = .ok (.getfield 38, 3) := by decide +kernel
theorem dX7_sell_54 : decode cX7_sell 54 = .ok (.iconst 1, 1) := by decide +kernel
theorem dX7_sell_55 : decode cX7_sell 55 = .ok (.iconst 3, 1) := by decide +kernel
theorem dX7_sell_56 : decode cX7_sell 56 = .ok (.iload_n 1, 1) := by decide +kernel
theorem dX7_sell_57 : decode cX7_sell 57 = .ok (.imul, 1) := by decide +kernel
theorem dX7_sell_58 : decode cX7_sell 58 = .ok (.iadd, 1) := by decide +kernel
theorem dX7_sell_59 : decode cX7_sell 59 = .ok (.iload_n 2, 1) := by decide +kernel
theorem dX7_sell_60 : decode cX7_sell 60 = .ok (.iadd, 1) := by decide +kernel
theorem dX7_sell_61 : decode cX7_sell 61 = .ok (.dup2, 1) := by decide +kernel
theorem dX7_sell_62 : decode cX7_sell 62 = .ok (.iaload, 1) := by decide +kernel
theorem dX7_sell_63 : decode cX7_sell 63 = .ok (.iload_n 3, 1) := by decide +kernel
theorem dX7_sell_64 : decode cX7_sell 64 = .ok (.isub, 1) := by decide +kernel
theorem dX7_sell_65 : decode cX7_sell 65 = .ok (.iastore, 1) := by decide +kernel
theorem dX7_sell_66 : decode cX7_sell 66 = .ok (.aload_n 0, 1) := by decide +kernel
theorem dX7_sell_67 : decode cX7_sell 67 = .ok (.getfield 38, 3) := by decide +kernel
theorem dX7_sell_70 : decode cX7_sell 70 = .ok (.bipush 19, 2) := by decide +kernel
theorem dX7_sell_72 : decode cX7_sell 72 = .ok (.iload_n 1, 1) := by decide +kernel
theorem dX7_sell_73 : decode cX7_sell 73 = .ok (.iadd, 1) := by decide +kernel
theorem dX7_sell_74 : decode cX7_sell 74 = .ok (.dup2, 1) := by decide +kernel
theorem dX7_sell_75 : decode cX7_sell 75 = .ok (.iaload, 1) := by decide +kernel
theorem dX7_sell_76 : decode cX7_sell 76 = .ok (.iload_n 3, 1) := by decide +kernel
theorem dX7_sell_77 : decode cX7_sell 77 = .ok (.aload_n 0, 1) := by decide +kernel
theorem dX7_sell_78 : decode cX7_sell 78 = .ok (.getfield 35, 3) := by decide +kernel
theorem dX7_sell_81 : decode cX7_sell 81 = .ok (.iconst 0, 1) := by decide +kernel
theorem dX7_sell_82 : decode cX7_sell 82 = .ok (.iaload, 1) := by decide +kernel
theorem dX7_sell_83 : decode cX7_sell 83 = .ok (.imul, 1) := by decide +kernel
theorem dX7_sell_84 : decode cX7_sell 84 = .ok (.iadd, 1) := by decide +kernel
theorem dX7_sell_85 : decode cX7_sell 85 = .ok (.iastore, 1) := by decide +kernel
theorem dX7_sell_86 : decode cX7_sell 86 = .ok (.aload_n 0, 1) := by decide +kernel
theorem dX7_sell_87 : decode cX7_sell 87 = .ok (.getfield 38, 3) := by decide +kernel
theorem dX7_sell_90 : decode cX7_sell 90 = .ok (.bipush 19, 2) := by decide +kernel
theorem dX7_sell_92 : decode cX7_sell 92 = .ok (.iload_n 1, 1) := by decide +kernel
theorem dX7_sell_93 : decode cX7_sell 93 = .ok (.iadd, 1) := by decide +kernel
theorem dX7_sell_94 : decode cX7_sell 94 = .ok (.iaload, 1) := by decide +kernel
theorem dX7_sell_95 : decode cX7_sell 95 = .ok (.ireturn, 1) := by decide +kernel
theorem dX7_levy_0 : decode cX7_levy 0 = .ok (.iload_n 1, 1) := by decide +kernel
theorem dX7_levy_1 : decode cX7_levy 1 = .ok (.invokestatic 147, 3) := by decide +kernel
theorem dX7_levy_4 : decode cX7_levy 4 = .ok (.ifCond .eq 13, 3) := by decide +kernel
theorem dX7_levy_7 : decode cX7_levy 7 = .ok (.iload_n 2, 1) := by decide +kernel
theorem dX7_levy_8 : decode cX7_levy 8 = .ok (.iconst 1, 1) := by decide +kernel
theorem dX7_levy_9 : decode cX7_levy 9 = .ok (.bipush 99, 2) := by decide +kernel
theorem dX7_levy_11 : decode cX7_levy 11 = .ok (.invokestatic 66, 3) := by decide +kernel
theorem dX7_levy_14 : decode cX7_levy 14 = .ok (.ifCond .ne 5, 3) := by decide +kernel
theorem dX7_levy_17 : decode cX7_levy 17 = .ok (.iconst (-1), 1) := by decide +kernel
theorem dX7_levy_18 : decode cX7_levy 18 = .ok (.ireturn, 1) := by decide +kernel
theorem dX7_levy_19 : decode cX7_levy 19 = .ok (.aload_n 0, 1) := by decide +kernel
theorem dX7_levy_20 : decode cX7_levy 20 = .ok (.invokevirtual 134, 3) := by decide +kernel
theorem dX7_levy_23 : decode cX7_levy 23 = .ok (.iconst 0, 1) := by decide +kernel
theorem dX7_levy_24 : decode cX7_levy 24 = .ok (.istore_n 3, 1) := by decide +kernel
theorem dX7_levy_25 : decode cX7_levy 25 = .ok (.iload_n 3, 1) := by decide +kernel
theorem dX7_levy_26 : decode cX7_levy 26 = .ok (.iload_n 2, 1) := by decide +kernel
theorem dX7_levy_27 : decode cX7_levy 27 = .ok (.if_icmp .ge 105, 3) := by decide +kernel
theorem dX7_levy_30 : decode cX7_levy 30 = .ok (.iconst 0, 1) := by decide +kernel
theorem dX7_levy_31 : decode cX7_levy 31 = .ok (.istore 4, 2) := by decide +kernel
theorem dX7_levy_33 : decode cX7_levy 33 = .ok (.iconst 1, 1) := by decide +kernel
theorem dX7_levy_34 : decode cX7_levy 34 = .ok (.istore 5, 2) := by decide +kernel
theorem dX7_levy_36 : decode cX7_levy 36 = .ok (.iload 5, 2) := by decide +kernel
theorem dX7_levy_38 : decode cX7_levy 38 = .ok (.aload_n 0, 1) := by decide +kernel
theorem dX7_levy_39 : decode cX7_levy 39 = .ok (.getfield 13, 3) := by decide +kernel
theorem dX7_levy_42 : decode cX7_levy 42 = .ok (.iconst 0, 1) := by decide +kernel
theorem dX7_levy_43 : decode cX7_levy 43 = .ok (.iaload, 1) := by decide +kernel
theorem dX7_levy_44 : decode cX7_levy 44 = .ok (.if_icmp .ge 47, 3) := by decide +kernel
theorem dX7_levy_47 : decode cX7_levy 47 = .ok (.aload_n 0, 1) := by decide +kernel
theorem dX7_levy_48 : decode cX7_levy 48 = .ok (.getfield 38, 3) := by decide +kernel
theorem dX7_levy_51 : decode cX7_levy 51 = .ok (.iconst 1, 1) := by decide +kernel
theorem dX7_levy_52 : decode cX7_levy 52 = .ok (.iconst 3, 1) := by decide +kernel
theorem dX7_levy_53 : decode cX7_levy 53 = .ok (.iload 5, 2) := by decide +kernel
theorem dX7_levy_55 : decode cX7_levy 55 = .ok (.imul, 1) := by decide +kernel
theorem dX7_levy_56 : decode cX7_levy 56 = .ok (.iadd, 1) := by decide +kernel
theorem dX7_levy_57 : decode cX7_levy 57 = .ok (.iload_n 1, 1) := by decide +kernel
theorem dX7_levy_58 : decode cX7_levy 58 = .ok (.iadd, 1) := by decide +kernel
theorem dX7_levy_59 : decode cX7_levy 59 = .ok (.iaload, 1) := by decide +kernel
theorem dX7_levy_60 : decode cX7_levy 60 = .ok (.aload_n 0, 1) := by decide +kernel
theorem dX7_levy_61 : decode cX7_levy 61 = .ok (.getfield 38, 3) := by decide +kernel
theorem dX7_levy_64 : decode cX7_levy 64 = .ok (.iconst 1, 1) := by decide +kernel
theorem dX7_levy_65 : decode cX7_levy 65 = .ok (.iconst 3, 1) := by decide +kernel
theorem dX7_levy_66 : decode cX7_levy 66 = .ok (.iload 4, 2) := by decide +kernel
theorem dX7_levy_68 : decode cX7_levy 68 = .ok (.imul, 1) := by decide +kernel
theorem dX7_levy_69 : decode cX7_levy 69 = .ok (.iadd, 1) := by decide +kernel
theorem dX7_levy_70 : decode cX7_levy 70 = .ok (.iload_n 1, 1) := by decide +kernel
theorem dX7_levy_71 : decode cX7_levy 71 = .ok (.iadd, 1) := by decide +kernel
theorem dX7_levy_72 : decode cX7_levy 72 = .ok (.iaload, 1) := by decide +kernel
theorem dX7_levy_73 : decode cX7_levy 73 = .ok (.if_icmp .le 8, 3) := by decide +kernel
theorem dX7_levy_76 : decode cX7_levy 76 = .ok (.iload 5, 2) := by decide +kernel
theorem dX7_levy_78 : decode cX7_levy 78 = .ok (.goto 5, 3) := by decide +kernel
theorem dX7_levy_81 : decode cX7_levy 81 = .ok (.iload 4, 2) := by decide +kernel
theorem dX7_levy_83 : decode cX7_levy 83 = .ok (.istore 4, 2) := by decide +kernel
theorem dX7_levy_85 : decode cX7_levy 85 = .ok (.iinc 5 1, 3) := by decide +kernel
theorem dX7_levy_88 : decode cX7_levy 88 = .ok (.goto (-52), 3) := by decide +kernel
theorem dX7_levy_91 : decode cX7_levy 91 = .ok (.aload_n 0, 1) := by decide +kernel
theorem dX7_levy_92 : decode cX7_levy 92 = .ok (.getfield 38, 3) := by decide +kernel
theorem dX7_levy_95 : decode cX7_levy 95 = .ok (.iconst 1, 1) := by decide +kernel
theorem dX7_levy_96 : decode cX7_levy 96 = .ok (.iconst 3, 1) := by decide +kernel
theorem dX7_levy_97 : decode cX7_levy 97 = .ok (.iload 4, 2) := by decide +kernel
theorem dX7_levy_99 : decode cX7_levy 99 = .ok (.imul, 1) := by decide +kernel
theorem dX7_levy_100 : decode cX7_levy 100 = .ok (.iadd, 1) := by decide +kernel
theorem dX7_levy_101 : decode cX7_levy 101 = .ok (.iload_n 1, 1) := by decide +kernel
theorem dX7_levy_102 : decode cX7_levy 102 = .ok (.iadd, 1) := by decide +kernel
theorem dX7_levy_103 : decode cX7_levy 103 = .ok (.iaload, 1) := by decide +kernel
theorem dX7_levy_104 : decode cX7_levy 104 = .ok (.ifCond .ne 5, 3) := by decide +kernel
theorem dX7_levy_107 : decode cX7_levy 107 = .ok (.iload_n 3, 1) := by decide +kernel
theorem dX7_levy_108 : decode cX7_levy 108 = .ok (.ireturn, 1) := by decide +kernel
theorem dX7_levy_109 : decode cX7_levy 109 = .ok (.aload_n 0, 1) := by decide +kernel
theorem dX7_levy_110 : decode cX7_levy 110 = .ok (.getfield 38, 3) := by decide +kernel
theorem dX7_levy_113 : decode cX7_levy 113 = .ok (.iconst 1, 1) := by decide +kernel
theorem dX7_levy_114 : decode cX7_levy 114 = .ok (.iconst 3, 1) := by decide +kernel
theorem dX7_levy_115 : decode cX7_levy 115 = .ok (.iload 4, 2) := by decide +kernel
theorem dX7_levy_117 : decode cX7_levy 117 = .ok (.imul, 1) := by decide +kernel
theorem dX7_levy_118 : decode cX7_levy 118 = .ok (.iadd, 1) := by decide +kernel
theorem dX7_levy_119 : decode cX7_levy 119 = .ok (.iload_n 1, 1) := by decide +kernel
theorem dX7_levy_120 : decode cX7_levy 120 = .ok (.iadd, 1) := by decide +kernel
theorem dX7_levy_121 : decode cX7_levy 121 = .ok (.dup2, 1) := by decide +kernel
theorem dX7_levy_122 : decode cX7_levy 122 = .ok (.iaload, 1) := by decide +kernel
theorem dX7_levy_123 : decode cX7_levy 123 = .ok (.iconst 1, 1) := by decide +kernel
theorem dX7_levy_124 : decode cX7_levy 124 = .ok (.isub, 1) := by decide +kernel
theorem dX7_levy_125 : decode cX7_levy 125 = .ok (.iastore, 1) := by decide +kernel
theorem dX7_levy_126 : decode cX7_levy 126 = .ok (.iinc 3 1, 3) := by decide +kernel
theorem dX7_levy_129 : decode cX7_levy 129 = .ok (.goto (-104), 3) := by decide +kernel
theorem dX7_levy_132 : decode cX7_levy 132 = .ok (.iload_n 2, 1) := by decide +kernel
theorem dX7_levy_133 : decode cX7_levy 133 = .ok (.ireturn, 1) := by decide +kernel
theorem dX7_undo_0 : decode cX7_undo 0 = .ok (.aload_n 0, 1) := by decide +kernel
theorem dX7_undo_1 : decode cX7_undo 1 = .ok (.getfield 92, 3) := by decide +kernel
theorem dX7_undo_4 : decode cX7_undo 4 = .ok (.ifCond .ne 6, 3) := by decide +kernel
theorem dX7_undo_7 : decode cX7_undo 7 = .ok (.bipush (-2), 2) := by decide +kernel
theorem dX7_undo_9 : decode cX7_undo 9 = .ok (.ireturn, 1) := by decide +kernel
theorem dX7_undo_10 : decode cX7_undo 10 = .ok (.aload_n 0, 1) := by decide +kernel
theorem dX7_undo_11 : decode cX7_undo 11 = .ok (.dup, 1) := by decide +kernel
theorem dX7_undo_12 : decode cX7_undo 12 = .ok (.getfield 92, 3) := by decide +kernel
theorem dX7_undo_15 : decode cX7_undo 15 = .ok (.iconst 1, 1) := by decide +kernel
theorem dX7_undo_16 : decode cX7_undo 16 = .ok (.isub, 1) := by decide +kernel
theorem dX7_undo_17 : decode cX7_undo 17 = .ok (.putfield 92, 3) := by decide +kernel
theorem dX7_undo_20 : decode cX7_undo 20 = .ok (.aload_n 0, 1) := by decide +kernel
theorem dX7_undo_21 : decode cX7_undo 21 = .ok (.bipush 31, 2) := by decide +kernel
theorem dX7_undo_23 : decode cX7_undo 23 = .ok (.bipush 31, 2) := by decide +kernel
theorem dX7_undo_25 : decode cX7_undo 25 = .ok (.aload_n 0, 1) := by decide +kernel
theorem dX7_undo_26 : decode cX7_undo 26 = .ok (.getfield 92, 3) := by decide +kernel
theorem dX7_undo_29 : decode cX7_undo 29 = .ok (.imul, 1) := by decide +kernel
theorem dX7_undo_30 : decode cX7_undo 30 = .ok (.iadd, 1) := by decide +kernel
theorem dX7_undo_31 : decode cX7_undo 31 = .ok (.iconst 0, 1) := by decide +kernel
theorem dX7_undo_32 : decode cX7_undo 32 = .ok (.invokevirtual 131, 3) := by decide +kernel
theorem dX7_undo_35 : decode cX7_undo 35 = .ok (.aload_n 0, 1) := by decide +kernel
theorem dX7_undo_36 : decode cX7_undo 36 = .ok (.getfield 92, 3) := by decide +kernel
theorem dX7_undo_39 : decode cX7_undo 39 = .ok (.ireturn, 1) := by decide +kernel
theorem dX7_behind_0 : decode cX7_behind 0 = .ok (.iload_n 1, 1) := by decide +kernel
theorem dX7_behind_1 : decode cX7_behind 1 = .ok (.iconst 0, 1) := by decide +kernel
theorem dX7_behind_2 : decode cX7_behind 2 = .ok (.bipush 60, 2) := by decide +kernel
theorem dX7_behind_4 : decode cX7_behind 4 = .ok (.invokestatic 66, 3) := by decide +kernel
theorem dX7_behind_7 : decode cX7_behind 7 = .ok (.ifCond .eq 20, 3) := by decide +kernel
theorem dX7_behind_10 : decode cX7_behind 10 = .ok (.aload_n 0, 1) := by decide +kernel
theorem dX7_behind_11 : decode cX7_behind 11 = .ok (.iload_n 2, 1) := by decide +kernel
theorem dX7_behind_12 : decode cX7_behind 12 = .ok (.invokevirtual 104, 3) := by decide +kernel
theorem dX7_behind_15 : decode cX7_behind 15 = .ok (.ifCond .eq 12, 3) := by decide +kernel
theorem dX7_behind_18 : decode cX7_behind 18 = .ok (.iload_n 3, 1) := by decide +kernel
theorem dX7_behind_19 : decode cX7_behind 19 = .ok (.iconst 0, 1) := by decide +kernel
theorem dX7_behind_20 : decode cX7_behind 20 = .ok (.iconst 4, 1) := by decide +kernel
theorem dX7_behind_21 : decode cX7_behind 21 = .ok (.invokestatic 66, 3) := by decide +kernel
theorem dX7_behind_24 : decode cX7_behind 24 = .ok (.ifCond .ne 5, 3) := by decide +kernel
theorem dX7_behind_27 : decode cX7_behind 27 = .ok (.iconst (-1), 1) := by decide +kernel
theorem dX7_behind_28 : decode cX7_behind 28 = .ok (.ireturn, 1) := by decide +kernel
theorem dX7_behind_29 : decode cX7_behind 29 = .ok (.aload_n 0, 1) := by decide +kernel
theorem dX7_behind_30 : decode cX7_behind 30 = .ok (.iconst 0, 1) := by decide +kernel
theorem dX7_behind_31 : decode cX7_behind 31 = .ok (.sipush 341, 3) := by decide +kernel
theorem dX7_behind_34 : decode cX7_behind 34 = .ok (.invokevirtual 131, 3) := by decide +kernel
theorem dX7_behind_37 : decode cX7_behind 37 = .ok (.iconst 0, 1) := by decide +kernel
theorem dX7_behind_38 : decode cX7_behind 38 = .ok (.istore 4, 2) := by decide +kernel
theorem dX7_behind_40 : decode cX7_behind 40 = .ok (.iload 4, 2) := by decide +kernel
theorem dX7_behind_42 : decode cX7_behind 42 = .ok (.iload_n 1, 1) := by decide +kernel
theorem dX7_behind_43 : decode cX7_behind 43 = .ok (.if_icmp .ge 30, 3) := by decide +kernel
theorem dX7_behind_46 : decode cX7_behind 46 = .ok (.aload_n 0, 1) := by decide +kernel
theorem dX7_behind_47 : decode cX7_behind 47 = .ok (.sipush 341, 3) := by decide +kernel
theorem dX7_behind_50 : decode cX7_behind 50 = .ok (.invokevirtual 137, 3) := by decide +kernel
theorem dX7_behind_53 : decode cX7_behind 53 = .ok (.aload_n 0, 1) := by decide +kernel
theorem dX7_behind_54 : decode cX7_behind 54 = .ok (.sipush 341, 3) := by decide +kernel
theorem dX7_behind_57 : decode cX7_behind 57 = .ok (.invokevirtual 141, 3) := by decide +kernel
theorem dX7_behind_60 : decode cX7_behind 60 = .ok (.aload_n 0, 1) := by decide +kernel
theorem dX7_behind_61 : decode cX7_behind 61 = .ok (.sipush 341, 3) := by decide +kernel
theorem dX7_behind_64 : decode cX7_behind 64 = .ok (.invokevirtual 144, 3) := by decide +kernel
theorem dX7_behind_67 : decode cX7_behind 67 = .ok (.iinc 4 1, 3) := by decide +kernel
theorem dX7_behind_70 : decode cX7_behind 70 = .ok (.goto (-30), 3) := by decide +kernel
theorem dX7_behind_73 : decode cX7_behind 73 = .ok (.iload_n 3, 1) := by decide +kernel
theorem dX7_behind_74 : decode cX7_behind 74 = .ok (.iconst 3, 1) := by decide +kernel
theorem dX7_behind_75 : decode cX7_behind 75 = .ok (.if_icmp .ge 20, 3) := by decide +kernel
theorem dX7_behind_78 : decode cX7_behind 78 = .ok (.aload_n 0, 1) := by decide +kernel
theorem dX7_behind_79 : decode cX7_behind 79 = .ok (.getfield 38, 3) := by decide +kernel
theorem dX7_behind_82 : decode cX7_behind 82 = .ok (.sipush 342, 3) := by decide +kernel
theorem dX7_behind_85 : decode cX7_behind 85 = .ok (.iconst 3, 1) := by decide +kernel
theorem dX7_behind_86 : decode cX7_behind 86 = .ok (.iload_n 2, 1) := by decide +kernel
theorem dX7_behind_87 : decode cX7_behind 87 = .ok (.imul, 1) := by decide +kernel
theorem dX7_behind_88 : decode cX7_behind 88 = .ok (.iadd, 1) := by decide +kernel
theorem dX7_behind_89 : decode cX7_behind 89 = .ok (.iload_n 3, 1) := by decide +kernel
theorem dX7_behind_90 : decode cX7_behind 90 = .ok (.iadd, 1) := by decide +kernel
theorem dX7_behind_91 : decode cX7_behind 91 = .ok (.iaload, 1) := by decide +kernel
theorem dX7_behind_92 : decode cX7_behind 92 = .ok (.goto 39, 3) := by decide +kernel
theorem dX7_behind_95 : decode cX7_behind 95 = .ok (.iload_n 3, 1) := by decide +kernel
theorem dX7_behind_96 : decode cX7_behind 96 = .ok (.iconst 3, 1) := by decide +kernel
theorem dX7_behind_97 : decode cX7_behind 97 = .ok (.if_icmp .ne 14, 3) := by decide +kernel
theorem dX7_behind_100 : decode cX7_behind 100 = .ok (.aload_n 0, 1) := by decide +kernel
theorem dX7_behind_101 : decode cX7_behind 101 = .ok (.sipush 341, 3) := by decide +kernel
theorem dX7_behind_104 : decode cX7_behind 104 = .ok (.iload_n 2, 1) := by decide +kernel
theorem dX7_behind_105 : decode cX7_behind 105 = .ok (.invokevirtual 108, 3) := by decide +kernel
theorem dX7_behind_108 : decode cX7_behind 108 = .ok (.goto 23, 3) := by decide +kernel
theorem dX7_behind_111 : decode cX7_behind 111 = .ok (.aload_n 0, 1) := by decide +kernel
theorem dX7_behind_112 : decode cX7_behind 112 = .ok (.getfield 38, 3) := by decide +kernel
theorem dX7_behind_115 : decode cX7_behind 115 = .ok (.sipush 366, 3) := by decide +kernel
theorem dX7_behind_118 : decode cX7_behind 118 = .ok (.iload_n 2, 1) := by decide +kernel
theorem dX7_behind_119 : decode cX7_behind 119 = .ok (.iadd, 1) := by decide +kernel
theorem dX7_behind_120 : decode cX7_behind 120 = .ok (.iaload, 1) := by decide +kernel
theorem dX7_behind_121 : decode cX7_behind 121 = .ok (.aload_n 0, 1) := by decide +kernel
theorem dX7_behind_122 : decode cX7_behind 122 = .ok (.getfield 38, 3) := by decide +kernel
theorem dX7_behind_125 : decode cX7_behind 125 = .ok (.bipush 25, 2) := by decide +kernel
theorem dX7_behind_127 : decode cX7_behind 127 = .ok (.iload_n 2, 1) := by decide +kernel
theorem dX7_behind_128 : decode cX7_behind 128 = .ok (.iadd, 1) := by decide +kernel
theorem dX7_behind_129 : decode cX7_behind 129 = .ok (.iaload, 1) := by decide +kernel
theorem dX7_behind_130 : decode cX7_behind 130 = .ok (.isub, 1) := by decide +kernel
theorem dX7_behind_131 : decode cX7_behind 131 = .ok (.ireturn, 1) := by decide +kernel
theorem dX7_grey_0 : decode cX7_grey 0 = .ok (.iload_n 1, 1) := by decide +kernel
theorem dX7_grey_1 : decode cX7_grey 1 = .ok (.iconst 0, 1) := by decide +kernel
theorem dX7_grey_2 : decode cX7_grey 2 = .ok (.iconst 1, 1) := by decide +kernel
theorem dX7_grey_3 : decode cX7_grey 3 = .ok (.invokestatic 66, 3) := by decide +kernel
theorem dX7_grey_6 : decode cX7_grey 6 = .ok (.ifCond .ne 5, 3) := by decide +kernel
theorem dX7_grey_9 : decode cX7_grey 9 = .ok (.iconst (-1), 1) := by decide +kernel
theorem dX7_grey_10 : decode cX7_grey 10 = .ok (.ireturn, 1) := by decide +kernel
theorem dX7_grey_11 : decode cX7_grey 11 = .ok (.aload_n 0, 1) := by decide +kernel
theorem dX7_grey_12 : decode cX7_grey 12 = .ok (.iconst 0, 1) := by decide +kernel
theorem dX7_grey_13 : decode cX7_grey 13 = .ok (.sipush 341, 3) := by decide +kernel
theorem dX7_grey_16 : decode cX7_grey 16 = .ok (.invokevirtual 131, 3) := by decide +kernel
theorem dX7_grey_19 : decode cX7_grey 19 = .ok (.iconst 1, 1) := by decide +kernel
theorem dX7_grey_20 : decode cX7_grey 20 = .ok (.istore_n 2, 1) := by decide +kernel
theorem dX7_grey_21 : decode cX7_grey 21 = .ok (.iload_n 2, 1) := by decide +kernel
theorem dX7_grey_22 : decode cX7_grey 22 = .ok (.bipush 60, 2) := by decide +kernel
theorem dX7_grey_24 : decode cX7_grey 24 = .ok (.if_icmp .gt 69, 3) := by decide +kernel
theorem dX7_grey_27 : decode cX7_grey 27 = .ok (.aload_n 0, 1) := by decide +kernel
theorem dX7_grey_28 : decode cX7_grey 28 = .ok (.sipush 341, 3) := by decide +kernel
theorem dX7_grey_31 : decode cX7_grey 31 = .ok (.invokevirtual 137, 3) := by decide +kernel
theorem dX7_grey_34 : decode cX7_grey 34 = .ok (.aload_n 0, 1) := by decide +kernel
theorem dX7_grey_35 : decode cX7_grey 35 = .ok (.sipush 341, 3) := by decide +kernel
theorem dX7_grey_38 : decode cX7_grey 38 = .ok (.invokevirtual 141, 3) := by decide +kernel
theorem dX7_grey_41 : decode cX7_grey 41 = .ok (.iconst 0, 1) := by decide +kernel
theorem dX7_grey_42 : decode cX7_grey 42 = .ok (.istore_n 3, 1) := by decide +kernel
theorem dX7_grey_43 : decode cX7_grey 43 = .ok (.iload_n 3, 1) := by decide +kernel
theorem dX7_grey_44 : decode cX7_grey 44 = .ok (.aload_n 0, 1) := by decide +kernel
theorem dX7_grey_45 : decode cX7_grey 45 = .ok (.getfield 13, 3) := by decide +kernel
theorem dX7_grey_48 : decode cX7_grey 48 = .ok (.iconst 0, 1) := by decide +kernel
theorem dX7_grey_49 : decode cX7_grey 49 = .ok (.iaload, 1) := by decide +kernel
theorem dX7_grey_50 : decode cX7_grey 50 = .ok (.if_icmp .ge 30, 3) := by decide +kernel
theorem dX7_grey_53 : decode cX7_grey 53 = .ok (.aload_n 0, 1) := by decide +kernel
theorem dX7_grey_54 : decode cX7_grey 54 = .ok (.sipush 341, 3) := by decide +kernel
theorem dX7_grey_57 : decode cX7_grey 57 = .ok (.iload_n 3, 1) := by decide +kernel
theorem dX7_grey_58 : decode cX7_grey 58 = .ok (.invokevirtual 108, 3) := by decide +kernel
theorem dX7_grey_61 : decode cX7_grey 61 = .ok (.ifCond .ne 13, 3) := by decide +kernel
theorem dX7_grey_64 : decode cX7_grey 64 = .ok (.iload_n 1, 1) := by decide +kernel
theorem dX7_grey_65 : decode cX7_grey 65 = .ok (.ifCond .ne 7, 3) := by decide +kernel
theorem dX7_grey_68 : decode cX7_grey 68 = .ok (.iload_n 3, 1) := by decide +kernel
theorem dX7_grey_69 : decode cX7_grey 69 = .ok (.goto 4, 3) := by decide +kernel
theorem dX7_grey_72 : decode cX7_grey 72 = .ok (.iload_n 2, 1) := by decide +kernel
theorem dX7_grey_73 : decode cX7_grey 73 = .ok (.ireturn, 1) := by decide +kernel
theorem dX7_grey_74 : decode cX7_grey 74 = .ok (.iinc 3 1, 3) := by decide +kernel
theorem dX7_grey_77 : decode cX7_grey 77 = .ok (.goto (-34), 3) := by decide +kernel
theorem dX7_grey_80 : decode cX7_grey 80 = .ok (.aload_n 0, 1) := by decide +kernel
theorem dX7_grey_81 : decode cX7_grey 81 = .ok (.sipush 341, 3) := by decide +kernel
theorem dX7_grey_84 : decode cX7_grey 84 = .ok (.invokevirtual 144, 3) := by decide +kernel
theorem dX7_grey_87 : decode cX7_grey 87 = .ok (.iinc 2 1, 3) := by decide +kernel
theorem dX7_grey_90 : decode cX7_grey 90 = .ok (.goto (-69), 3) := by decide +kernel
theorem dX7_grey_93 : decode cX7_grey 93 = .ok (.bipush (-4), 2) := by decide +kernel
theorem dX7_grey_95 : decode cX7_grey 95 = .ok (.ireturn, 1) := by decide +kernel
theorem dX7_tryRow_0 : decode cX7_tryRow 0 = .ok (.aload_n 0, 1) := by decide +kernel
theorem dX7_tryRow_1 : decode cX7_tryRow 1 = .ok (.iconst 0, 1) := by decide +kernel
theorem dX7_tryRow_2 : decode cX7_tryRow 2 = .ok (.sipush 341, 3) := by decide +kernel
theorem dX7_tryRow_5 : decode cX7_tryRow 5 = .ok (.invokevirtual 131, 3) := by decide +kernel
theorem dX7_tryRow_8 : decode cX7_tryRow 8 = .ok (.aload_n 0, 1) := by decide +kernel
theorem dX7_tryRow_9 : decode cX7_tryRow 9 = .ok (.iconst 0, 1) := by decide +kernel
theorem dX7_tryRow_10 : decode cX7_tryRow 10 = .ok (.putfield 150, 3) := by decide +kernel
theorem dX7_tryRow_13 : decode cX7_tryRow 13 = .ok (.aload_n 0, 1) := by decide +kernel
theorem dX7_tryRow_14 : decode cX7_tryRow 14 = .ok (.iconst 0, 1) := by decide +kernel
theorem dX7_tryRow_15 : decode cX7_tryRow 15 = .ok (.putfield 153, 3) := by decide +kernel
theorem dX7_tryRow_18 : decode cX7_tryRow 18 = .ok (.iload_n 2, 1) := by decide +kernel
theorem dX7_tryRow_19 : decode cX7_tryRow 19 = .ok (.istore_n 3, 1) := by decide +kernel
theorem dX7_tryRow_20 : decode cX7_tryRow 20 = .ok (.aload_n 0, 1) := by decide +kernel
theorem dX7_tryRow_21 : decode cX7_tryRow 21 = .ok (.getfield 23, 3) := by decide +kernel
theorem dX7_tryRow_24 : decode cX7_tryRow 24 = .ok (.iconst 0, 1) := by decide +kernel
theorem dX7_tryRow_25 : decode cX7_tryRow 25 = .ok (.iaload, 1) := by decide +kernel
theorem dX7_tryRow_26 : decode cX7_tryRow 26 = .ok (.iconst 1, 1) := by decide +kernel
theorem dX7_tryRow_27 : decode cX7_tryRow 27 = .ok (.isub, 1) := by decide +kernel
theorem dX7_tryRow_28 : decode cX7_tryRow 28 = .ok (.istore 4, 2) := by decide +kernel
theorem dX7_tryRow_30 : decode cX7_tryRow 30 = .ok (.iload 4, 2) := by decide +kernel
theorem dX7_tryRow_32 : decode cX7_tryRow 32 = .ok (.ifCond .lt 25, 3) := by decide +kernel
theorem dX7_tryRow_35 : decode cX7_tryRow 35 = .ok (.aload_n 0, 1) := by decide +kernel
theorem dX7_tryRow_36 : decode cX7_tryRow 36 = .ok (.getfield 44, 3) := by decide +kernel
theorem dX7_tryRow_39 : decode cX7_tryRow 39 = .ok (.iload 4, 2) := by decide +kernel
theorem dX7_tryRow_41 : decode cX7_tryRow 41 = .ok (.iload_n 3, 1) := by decide +kernel
theorem dX7_tryRow_42 : decode cX7_tryRow 42 = .ok (.bipush 6, 2) := by decide +kernel
theorem dX7_tryRow_44 : decode cX7_tryRow 44 = .ok (.irem, 1) := by decide +kernel
theorem dX7_tryRow_45 : decode cX7_tryRow 45 = .ok (.iastore, 1) := by decide +kernel
theorem dX7_tryRow_46 : decode cX7_tryRow 46 = .ok (.iload_n 3, 1) := by decide +kernel
theorem dX7_tryRow_47 : decode cX7_tryRow 47 = .ok (.bipush 6, 2) := by decide +kernel
theorem dX7_tryRow_49 : decode cX7_tryRow 49 = .ok (.idiv, 1) := by decide +kernel
theorem dX7_tryRow_50 : decode cX7_tryRow 50 = .ok (.istore_n 3, 1) := by decide +kernel
theorem dX7_tryRow_51 : decode cX7_tryRow 51 = .ok (.iinc 4 (-1), 3) := by decide +kernel
theorem dX7_tryRow_54 : decode cX7_tryRow 54 = .ok (.goto (-24), 3) := by decide +kernel
theorem dX7_tryRow_57 : decode cX7_tryRow 57 = .ok (.iconst 1, 1) := by decide +kernel
theorem dX7_tryRow_58 : decode cX7_tryRow 58 = .ok (.istore 4, 2) := by decide +kernel
theorem dX7_tryRow_60 : decode cX7_tryRow 60 = .ok (.iconst 0, 1) := by decide +kernel
theorem dX7_tryRow_61 : decode cX7_tryRow 61 = .ok (.istore 5, 2) := by decide +kernel
theorem dX7_tryRow_63 : decode cX7_tryRow 63 = .ok (.iload 5, 2) := by decide +kernel
theorem dX7_tryRow_65 : decode cX7_tryRow 65 = .ok (.aload_n 0, 1) := by decide +kernel
theorem dX7_tryRow_66 : decode cX7_tryRow 66 = .ok (.getfield 23, 3) := by decide +kernel
theorem dX7_tryRow_69 : decode cX7_tryRow 69 = .ok (.iconst 0, 1) := by decide +kernel
theorem dX7_tryRow_70 : decode cX7_tryRow 70 = .ok (.iaload, 1) := by decide +kernel
theorem dX7_tryRow_71 : decode cX7_tryRow 71 = .ok (.if_icmp .ge 81, 3) := by decide +kernel
theorem dX7_tryRow_74 : decode cX7_tryRow 74 = .ok (.iconst 0, 1) := by decide +kernel
theorem dX7_tryRow_75 : decode cX7_tryRow 75 = .ok (.istore 6, 2) := by decide +kernel
theorem dX7_tryRow_77 : decode cX7_tryRow 77 = .ok (.iload 6, 2) := by decide +kernel
theorem dX7_tryRow_79 : decode cX7_tryRow 79 = .ok (.aload_n 0, 1) := by decide +kernel
theorem dX7_tryRow_80 : decode cX7_tryRow 80 = .ok (.getfield 44, 3) := by decide +kernel
theorem dX7_tryRow_83 : decode cX7_tryRow 83 = .ok (.iload 5, 2) := by decide +kernel
theorem dX7_tryRow_85 : decode cX7_tryRow 85 = .ok (.iaload, 1) := by decide +kernel
theorem dX7_tryRow_86 : decode cX7_tryRow 86 = .ok (.if_icmp .ge 60, 3) := by decide +kernel
theorem dX7_tryRow_89 : decode cX7_tryRow 89 = .ok (.iload 4, 2) := by decide +kernel
theorem dX7_tryRow_91 : decode cX7_tryRow 91 = .ok (.ifCond .eq 55, 3) := by decide +kernel
theorem dX7_tryRow_94 : decode cX7_tryRow 94 = .ok (.aload_n 0, 1) := by decide +kernel
theorem dX7_tryRow_95 : decode cX7_tryRow 95 = .ok (.sipush 341, 3) := by decide +kernel
theorem dX7_tryRow_98 : decode cX7_tryRow 98 = .ok (.iload_n 1, 1) := by decide +kernel
theorem dX7_tryRow_99 : decode cX7_tryRow 99 = .ok (.iload 5, 2) := by decide +kernel
theorem dX7_tryRow_101 : decode cX7_tryRow 101 = .ok (.invokevirtual 125, 3) := by decide +kernel
theorem dX7_tryRow_104 : decode cX7_tryRow 104 = .ok (.ifCond .lt 7, 3) := by decide +kernel
theorem dX7_tryRow_107 : decode cX7_tryRow 107 = .ok (.iconst 1, 1) := by decide +kernel
theorem dX7_tryRow_108 : decode cX7_tryRow 108 = .ok (.goto 4, 3) := by decide +kernel
theorem dX7_tryRow_111 : decode cX7_tryRow 111 = .ok (.iconst 0, 1) := by decide +kernel
theorem dX7_tryRow_112 : decode cX7_tryRow 112 = .ok (.istore 4, 2) := by decide +kernel
theorem dX7_tryRow_114 : decode cX7_tryRow 114 = .ok (.aload_n 0, 1) := by decide +kernel
theorem dX7_tryRow_115 : decode cX7_tryRow 115 = .ok (.dup, 1) := by decide +kernel
theorem dX7_tryRow_116 : decode cX7_tryRow 116 = .ok (.getfield 150, 3) := by decide +kernel
theorem dX7_tryRow_119 : decode cX7_tryRow 119 = .ok (.aload_n 0, 1) := by decide +kernel
theorem dX7_tryRow_120 : decode cX7_tryRow 120 = .ok (.getfield 29, 3) := by decide +kernel
theorem dX7_tryRow_123 : decode cX7_tryRow 123 = .ok (.iload 5, 2) := by decide +kernel
theorem dX7_tryRow_125 : decode cX7_tryRow 125 = .ok (.iaload, 1) := by decide +kernel
theorem dX7_tryRow_126 : decode cX7_tryRow 126 = .ok (.iadd, 1) := by decide +kernel
theorem dX7_tryRow_127 : decode cX7_tryRow 127 = .ok (.putfield 150, 3) := by decide +kernel
theorem dX7_tryRow_130 : decode cX7_tryRow 130 = .ok (.aload_n 0, 1) := by decide +kernel
theorem dX7_tryRow_131 : decode cX7_tryRow 131 = .ok (.dup, 1) := by decide +kernel
theorem dX7_tryRow_132 : decode cX7_tryRow 132 = .ok (.getfield 153, 3) := by decide +kernel
theorem dX7_tryRow_135 : decode cX7_tryRow 135 = .ok (.iconst 1, 1) := by decide +kernel
theorem dX7_tryRow_136 : decode cX7_tryRow 136 = .ok (.iadd, 1) := by decide +kernel
theorem dX7_tryRow_137 : decode cX7_tryRow 137 = .ok (.putfield 153, 3) := by decide +kernel
theorem dX7_tryRow_140 : decode cX7_tryRow 140 = .ok (.iinc 6 1, 3) := by decide +kernel
theorem dX7_tryRow_143 : decode cX7_tryRow 143 = .ok (.goto (-66), 3) := by decide +kernel
theorem dX7_tryRow_146 : decode cX7_tryRow 146 = .ok (.iinc 5 1, 3) := by decide +kernel
theorem dX7_tryRow_149 : decode cX7_tryRow 149 = .ok (.goto (-86), 3) := by decide +kernel
theorem dX7_tryRow_152 : decode cX7_tryRow 152 = .ok (.iload 4, 2) := by decide +kernel
theorem dX7_tryRow_154 : decode cX7_tryRow 154 = .ok (.ireturn, 1) := by decide +kernel
theorem dX7_best_0 : decode cX7_best 0 = .ok (.aload_n 0, 1) := by decide +kernel
theorem dX7_best_1 : decode cX7_best 1 = .ok (.iload_n 1, 1) := by decide +kernel
theorem dX7_best_2 : decode cX7_best 2 = .ok (.invokevirtual 104, 3) := by decide +kernel
theorem dX7_best_5 : decode cX7_best 5 = .ok (.ifCond .eq 16, 3) := by decide +kernel
theorem dX7_best_8 : decode cX7_best 8 = .ok (.iload_n 2, 1) := by decide +kernel
theorem dX7_best_9 : decode cX7_best 9 = .ok (.iconst (-1), 1) := by decide +kernel
theorem dX7_best_10 : decode cX7_best 10 = .ok (.if_icmp .eq 13, 3) := by decide +kernel
theorem dX7_best_13 : decode cX7_best 13 = .ok (.aload_n 0, 1) := by decide +kernel
theorem dX7_best_14 : decode cX7_best 14 = .ok (.iload_n 2, 1) := by decide +kernel
theorem dX7_best_15 : decode cX7_best 15 = .ok (.invokevirtual 112, 3) := by decide +kernel
theorem dX7_best_18 : decode cX7_best 18 = .ok (.ifCond .ne 5, 3) := by decide +kernel
theorem dX7_best_21 : decode cX7_best 21 = .ok (.iconst (-1), 1) := by decide +kernel
theorem dX7_best_22 : decode cX7_best 22 = .ok (.ireturn, 1) := by decide +kernel
theorem dX7_best_23 : decode cX7_best 23 = .ok (.iconst 1, 1) := by decide +kernel
theorem dX7_best_24 : decode cX7_best 24 = .ok (.istore_n 3, 1) := by decide +kernel
theorem dX7_best_25 : decode cX7_best 25 = .ok (.iconst 0, 1) := by decide +kernel
theorem dX7_best_26 : decode cX7_best 26 = .ok (.istore 4, 2) := by decide +kernel
theorem dX7_best_28 : decode cX7_best 28 = .ok (.iload 4, 2) := by decide +kernel
theorem dX7_best_30 : decode cX7_best 30 = .ok (.aload_n 0, 1) := by decide +kernel
theorem dX7_best_31 : decode cX7_best 31 = .ok (.getfield 23, 3) := by decide +kernel
theorem dX7_best_34 : decode cX7_best 34 = .ok (.iconst 0, 1) := by decide +kernel
theorem dX7_best_35 : decode cX7_best 35 = .ok (.iaload, 1) := by decide +kernel
theorem dX7_best_36 : decode cX7_best 36 = .ok (.if_icmp .ge 14, 3) := by decide +kernel
theorem dX7_best_39 : decode cX7_best 39 = .ok (.iload_n 3, 1) := by decide +kernel
theorem dX7_best_40 : decode cX7_best 40 = .ok (.bipush 6, 2) := by decide +kernel
theorem dX7_best_42 : decode cX7_best 42 = .ok (.imul, 1) := by decide +kernel
theorem dX7_best_43 : decode cX7_best 43 = .ok (.istore_n 3, 1) := by decide +kernel
theorem dX7_best_44 : decode cX7_best 44 = .ok (.iinc 4 1, 3) := by decide +kernel
theorem dX7_best_47 : decode cX7_best 47 = .ok (.goto (-19), 3) := by decide +kernel
theorem dX7_best_50 : decode cX7_best 50 = .ok (.iconst 0, 1) := by decide +kernel
theorem dX7_best_51 : decode cX7_best 51 = .ok (.istore 4, 2) := by decide +kernel
theorem dX7_best_53 : decode cX7_best 53 = .ok (.iconst 0, 1) := by decide +kernel
theorem dX7_best_54 : decode cX7_best 54 = .ok (.istore 5, 2) := by decide +kernel
theorem dX7_best_56 : decode cX7_best 56 = .ok (.iconst 0, 1) := by decide +kernel
theorem dX7_best_57 : decode cX7_best 57 = .ok (.istore 6, 2) := by decide +kernel
theorem dX7_best_59 : decode cX7_best 59 = .ok (.iconst 1, 1) := by decide +kernel
theorem dX7_best_60 : decode cX7_best 60 = .ok (.istore 7, 2) := by decide +kernel
theorem dX7_best_62 : decode cX7_best 62 = .ok (.iload 7, 2) := by decide +kernel
theorem dX7_best_64 : decode cX7_best 64 = .ok (.iload_n 3, 1) := by decide +kernel
theorem dX7_best_65 : decode cX7_best 65 = .ok (.if_icmp .ge 62, 3) := by decide +kernel
theorem dX7_best_68 : decode cX7_best 68 = .ok (.aload_n 0, 1) := by decide +kernel
theorem dX7_best_69 : decode cX7_best 69 = .ok (.iload_n 1, 1) := by decide +kernel
theorem dX7_best_70 : decode cX7_best 70 = .ok (.iload 7, 2) := by decide +kernel
theorem dX7_best_72 : decode cX7_best 72 = .ok (.invokevirtual 156, 3) := by decide +kernel
theorem dX7_best_75 : decode cX7_best 75 = .ok (.ifCond .eq 46, 3) := by decide +kernel
theorem dX7_best_78 : decode cX7_best 78 = .ok (.aload_n 0, 1) := by decide +kernel
theorem dX7_best_79 : decode cX7_best 79 = .ok (.getfield 150, 3) := by decide +kernel
theorem dX7_best_82 : decode cX7_best 82 = .ok (.iload 5, 2) := by decide +kernel
theorem dX7_best_84 : decode cX7_best 84 = .ok (.if_icmp .gt 21, 3) := by decide +kernel
theorem dX7_best_87 : decode cX7_best 87 = .ok (.aload_n 0, 1) := by decide +kernel
theorem dX7_best_88 : decode cX7_best 88 = .ok (.getfield 150, 3) := by decide +kernel
theorem dX7_best_91 : decode cX7_best 91 = .ok (.iload 5, 2) := by decide +kernel
theorem dX7_best_93 : decode cX7_best 93 = .ok (.if_icmp .ne 28, 3) := by decide +kernel
theorem dX7_best_96 : decode cX7_best 96 = .ok (.aload_n 0, 1) := by decide +kernel
theorem dX7_best_97 : decode cX7_best 97 = .ok (.getfield 153, 3) := by decide +kernel
theorem dX7_best_100 : decode cX7_best 100 = .ok (.iload 6, 2) := by decide +kernel
theorem dX7_best_102 : decode cX7_best 102 = .ok (.if_icmp .gt 19, 3) := by decide +kernel
theorem dX7_best_105 : decode cX7_best 105 = .ok (.iload 7, 2) := by decide +kernel
theorem dX7_best_107 : decode cX7_best 107 = .ok (.istore 4, 2) := by decide +kernel
theorem dX7_best_109 : decode cX7_best 109 = .ok (.aload_n 0, 1) := by decide +kernel
theorem dX7_best_110 : decode cX7_best 110 = .ok (.getfield 150, 3) := by decide +kernel
theorem dX7_best_113 : decode cX7_best 113 = .ok (.istore 5, 2) := by decide +kernel
theorem dX7_best_115 : decode cX7_best 115 = .ok (.aload_n 0, 1) := by decide +kernel
theorem dX7_best_116 : decode cX7_best 116 = .ok (.getfield 153, 3) := by decide +kernel
theorem dX7_best_119 : decode cX7_best 119 = .ok (.istore 6, 2) := by decide +kernel
theorem dX7_best_121 : decode cX7_best 121 = .ok (.iinc 7 1, 3) := by decide +kernel
theorem dX7_best_124 : decode cX7_best 124 = .ok (.goto (-62), 3) := by decide +kernel
theorem dX7_best_127 : decode cX7_best 127 = .ok (.aload_n 0, 1) := by decide +kernel
theorem dX7_best_128 : decode cX7_best 128 = .ok (.iload_n 1, 1) := by decide +kernel
theorem dX7_best_129 : decode cX7_best 129 = .ok (.iload 4, 2) := by decide +kernel
theorem dX7_best_131 : decode cX7_best 131 = .ok (.invokevirtual 156, 3) := by decide +kernel
theorem dX7_best_134 : decode cX7_best 134 = .ok (.pop, 1) := by decide +kernel
theorem dX7_best_135 : decode cX7_best 135 = .ok (.iload_n 2, 1) := by decide +kernel
theorem dX7_best_136 : decode cX7_best 136 = .ok (.iconst (-1), 1) := by decide +kernel
theorem dX7_best_137 : decode cX7_best 137 = .ok (.if_icmp .ne 8, 3) := by decide +kernel
theorem dX7_best_140 : decode cX7_best 140 = .ok (.iload 5, 2) := by decide +kernel
theorem dX7_best_142 : decode cX7_best 142 = .ok (.goto 9, 3) := by decide +kernel
theorem dX7_best_145 : decode cX7_best 145 = .ok (.aload_n 0, 1) := by decide +kernel
theorem dX7_best_146 : decode cX7_best 146 = .ok (.getfield 44, 3) := by decide +kernel
theorem dX7_best_149 : decode cX7_best 149 = .ok (.iload_n 2, 1) := by decide +kernel
theorem dX7_best_150 : decode cX7_best 150 = .ok (.iaload, 1) := by decide +kernel
theorem dX7_best_151 : decode cX7_best 151 = .ok (.ireturn, 1) := by decide +kernel
theorem dX7_lending_0 : decode cX7_lending 0 = .ok (.iconst 0, 1) := by decide +kernel
theorem dX7_lending_1 : decode cX7_lending 1 = .ok (.istore_n 1, 1) := by decide +kernel
theorem dX7_lending_2 : decode cX7_lending 2 = .ok (.iconst 0, 1) := by decide +kernel
theorem dX7_lending_3 : decode cX7_lending 3 = .ok (.istore_n 2, 1) := by decide +kernel
theorem dX7_lending_4 : decode cX7_lending 4 = .ok (.iload_n 2, 1) := by decide +kernel
theorem dX7_lending_5 : decode cX7_lending 5 = .ok (.iconst 3, 1) := by decide +kernel
theorem dX7_lending_6 : decode cX7_lending 6 = .ok (.if_icmp .ge 137, 3) := by decide +kernel
theorem dX7_lending_9 : decode cX7_lending 9 = .ok (.iconst 0, 1) := by decide +kernel
theorem dX7_lending_10 : decode cX7_lending 10 = .ok (.istore_n 3, 1) := by decide +kernel
theorem dX7_lending_11 : decode cX7_lending 11 = .ok (.iconst 0, 1) := by decide +kernel
theorem dX7_lending_12 : decode cX7_lending 12 = .ok (.istore 4, 2) := by decide +kernel
theorem dX7_lending_14 : decode cX7_lending 14 = .ok (.iconst 0, 1) := by decide +kernel
theorem dX7_lending_15 : decode cX7_lending 15 = .ok (.istore 5, 2) := by decide +kernel
theorem dX7_lending_17 : decode cX7_lending 17 = .ok (.iload 5, 2) := by decide +kernel
theorem dX7_lending_19 : decode cX7_lending 19 = .ok (.aload_n 0, 1) := by decide +kernel
theorem dX7_lending_20 : decode cX7_lending 20 = .ok (.getfield 13, 3) := by decide +kernel
theorem dX7_lending_23 : decode cX7_lending 23 = .ok (.iconst 0, 1) := by decide +kernel
theorem dX7_lending_24 : decode cX7_lending 24 = .ok (.iaload, 1) := by decide +kernel
theorem dX7_lending_25 : decode cX7_lending 25 = .ok (.if_icmp .ge 103, 3) := by decide +kernel
theorem dX7_lending_28 : decode cX7_lending 28 = .ok (.aload_n 0, 1) := by decide +kernel
theorem dX7_lending_29 : decode cX7_lending 29 = .ok (.getfield 32, 3) := by decide +kernel
theorem dX7_lending_32 : decode cX7_lending 32 = .ok (.bipush 7, 2) := by decide +kernel
theorem dX7_lending_34 : decode cX7_lending 34 = .ok (.iload 5, 2) := by decide +kernel
theorem dX7_lending_36 : decode cX7_lending 36 = .ok (.imul, 1) := by decide +kernel
theorem dX7_lending_37 : decode cX7_lending 37 = .ok (.aload_n 0, 1) := by decide +kernel
theorem dX7_lending_38 : decode cX7_lending 38 = .ok (.getfield 38, 3) := by decide +kernel
theorem dX7_lending_41 : decode cX7_lending 41 = .ok (.iconst 0, 1) := by decide +kernel
theorem dX7_lending_42 : decode cX7_lending 42 = .ok (.iaload, 1) := by decide +kernel
theorem dX7_lending_43 : decode cX7_lending 43 = .ok (.bipush 7, 2) := by decide +kernel
theorem dX7_lending_45 : decode cX7_lending 45 = .ok (.irem, 1) := by decide +kernel
theorem dX7_lending_46 : decode cX7_lending 46 = .ok (.iadd, 1) := by decide +kernel
theorem dX7_lending_47 : decode cX7_lending 47 = .ok (.iaload, 1) := by decide +kernel
theorem dX7_lending_48 : decode cX7_lending 48 = .ok (.istore 6, 2) := by decide +kernel
theorem dX7_lending_50 : decode cX7_lending 50 = .ok (.iconst 0, 1) := by decide +kernel
theorem dX7_lending_51 : decode cX7_lending 51 = .ok (.istore 7, 2) := by decide +kernel
theorem dX7_lending_53 : decode cX7_lending 53 = .ok (.iload 6, 2) := by decide +kernel
theorem dX7_lending_55 : decode cX7_lending 55 = .ok (.bipush (-4), 2) := by decide +kernel
theorem dX7_lending_57 : decode cX7_lending 57 = .ok (.if_icmp .eq 19, 3) := by decide +kernel
theorem dX7_lending_60 : decode cX7_lending 60 = .ok (.aload_n 0, 1) := by decide +kernel
theorem dX7_lending_61 : decode cX7_lending 61 = .ok (.iload 5, 2) := by decide +kernel
theorem dX7_lending_63 : decode cX7_lending 63 = .ok (.iload 6, 2) := by decide +kernel
theorem dX7_lending_65 : decode cX7_lending 65 = .ok (.invokevirtual 115, 3) := by decide +kernel
theorem dX7_lending_68 : decode cX7_lending 68 = .ok (.aload_n 0, 1) := by decide +kernel
theorem dX7_lending_69 : decode cX7_lending 69 = .ok (.getfield 41, 3) := by decide +kernel
theorem dX7_lending_72 : decode cX7_lending 72 = .ok (.iload_n 2, 1) := by decide +kernel
theorem dX7_lending_73 : decode cX7_lending 73 = .ok (.iaload, 1) := by decide +kernel
theorem dX7_lending_74 : decode cX7_lending 74 = .ok (.istore 7, 2) := by decide +kernel
theorem dX7_lending_76 : decode cX7_lending 76 = .ok (.aload_n 0, 1) := by decide +kernel
theorem dX7_lending_77 : decode cX7_lending 77 = .ok (.getfield 38, 3) := by decide +kernel
theorem dX7_lending_80 : decode cX7_lending 80 = .ok (.iconst 1, 1) := by decide +kernel
theorem dX7_lending_81 : decode cX7_lending 81 = .ok (.iconst 3, 1) := by decide +kernel
theorem dX7_lending_82 : decode cX7_lending 82 = .ok (.iload 5, 2) := by decide +kernel
theorem dX7_lending_84 : decode cX7_lending 84 = .ok (.imul, 1) := by decide +kernel
theorem dX7_lending_85 : decode cX7_lending 85 = .ok (.iadd, 1) := by decide +kernel
theorem dX7_lending_86 : decode cX7_lending 86 = .ok (.iload_n 2, 1) := by decide +kernel
theorem dX7_lending_87 : decode cX7_lending 87 = .ok (.iadd, 1) := by decide +kernel
theorem dX7_lending_88 : decode cX7_lending 88 = .ok (.iaload, 1) := by decide +kernel
theorem dX7_lending_89 : decode cX7_lending 89 = .ok (.istore 8, 2) := by decide +kernel
theorem dX7_lending_91 : decode cX7_lending 91 = .ok (.iload_n 3, 1) := by decide +kernel
theorem dX7_lending_92 : decode cX7_lending 92 = .ok (.iload 8, 2) := by decide +kernel
theorem dX7_lending_94 : decode cX7_lending 94 = .ok (.iadd, 1) := by decide +kernel
theorem dX7_lending_95 : decode cX7_lending 95 = .ok (.istore_n 3, 1) := by decide +kernel
theorem dX7_lending_96 : decode cX7_lending 96 = .ok (.iload 4, 2) := by decide +kernel
theorem dX7_lending_98 : decode cX7_lending 98 = .ok (.iload 7, 2) := by decide +kernel
theorem dX7_lending_100 : decode cX7_lending 100 = .ok (.iadd, 1) := by decide +kernel
theorem dX7_lending_101 : decode cX7_lending 101 = .ok (.istore 4, 2) := by decide +kernel
theorem dX7_lending_103 : decode cX7_lending 103 = .ok (.iload_n 1, 1) := by decide +kernel
theorem dX7_lending_104 : decode cX7_lending 104 = .ok (.iload 7, 2) := by decide +kernel
theorem dX7_lending_106 : decode cX7_lending 106 = .ok (.iload 8, 2) := by decide +kernel
theorem dX7_lending_108 : decode cX7_lending 108 = .ok (.if_icmp .le 11, 3) := by decide +kernel
theorem dX7_lending_111 : decode cX7_lending 111 = .ok (.iload 7, 2) := by decide +kernel
end
section
theorem dX7_lending_113 : decode cX7_lending 113 = .ok (.iload 8, 2) := by decide +kernel
theorem dX7_lending_115 : decode cX7_lending 115 = .ok (.isub, 1) := by decide +kernel
theorem dX7_lending_116 : decode cX7_lending 116 = .ok (.goto 4, 3) := by decide +kernel
theorem dX7_lending_119 : decode cX7_lending 119 = .ok (.iconst 0, 1) := by decide +kernel
theorem dX7_lending_120 : decode cX7_lending 120 = .ok (.iadd, 1) := by decide +kernel
theorem dX7_lending_121 : decode cX7_lending 121 = .ok (.istore_n 1, 1) := by decide +kernel
theorem dX7_lending_122 : decode cX7_lending 122 = .ok (.iinc 5 1, 3) := by decide +kernel
theorem dX7_lending_125 : decode cX7_lending 125 = .ok (.goto (-108), 3) := by decide +kernel
theorem dX7_lending_128 : decode cX7_lending 128 = .ok (.iload 4, 2) := by decide +kernel
theorem dX7_lending_130 : decode cX7_lending 130 = .ok (.iload_n 3, 1) := by decide +kernel
theorem dX7_lending_131 : decode cX7_lending 131 = .ok (.if_icmp .le 6, 3) := by decide +kernel
theorem dX7_lending_134 : decode cX7_lending 134 = .ok (.bipush (-4), 2) := by decide +kernel
theorem dX7_lending_136 : decode cX7_lending 136 = .ok (.ireturn, 1) := by decide +kernel
theorem dX7_lending_137 : decode cX7_lending 137 = .ok (.iinc 2 1, 3) := by decide +kernel
theorem dX7_lending_140 : decode cX7_lending 140 = .ok (.goto (-136), 3) := by decide +kernel
theorem dX7_lending_143 : decode cX7_lending 143 = .ok (.iload_n 1, 1) := by decide +kernel
theorem dX7_lending_144 : decode cX7_lending 144 = .ok (.ireturn, 1) := by decide +kernel
theorem dX7_together_0 : decode cX7_together 0 = .ok (.iconst 0, 1) := by decide +kernel
theorem dX7_together_1 : decode cX7_together 1 = .ok (.istore_n 3, 1) := by decide +kernel
theorem dX7_together_2 : decode cX7_together 2 = .ok (.iconst 0, 1) := by decide +kernel
theorem dX7_together_3 : decode cX7_together 3 = .ok (.istore 4, 2) := by decide +kernel
theorem dX7_together_5 : decode cX7_together 5 = .ok (.iload 4, 2) := by decide +kernel
theorem dX7_together_7 : decode cX7_together 7 = .ok (.aload_n 0, 1) := by decide +kernel
theorem dX7_together_8 : decode cX7_together 8 = .ok (.getfield 13, 3) := by decide +kernel
theorem dX7_together_11 : decode cX7_together 11 = .ok (.iconst 0, 1) := by decide +kernel
theorem dX7_together_12 : decode cX7_together 12 = .ok (.iaload, 1) := by decide +kernel
theorem dX7_together_13 : decode cX7_together 13 = .ok (.if_icmp .ge 32, 3) := by decide +kernel
theorem dX7_together_16 : decode cX7_together 16 = .ok (.iload_n 3, 1) := by decide +kernel
theorem dX7_together_17 : decode cX7_together 17 = .ok (.iload_n 1, 1) := by decide +kernel
theorem dX7_together_18 : decode cX7_together 18 = .ok (.iload 4, 2) := by decide +kernel
theorem dX7_together_20 : decode cX7_together 20 = .ok (.ishr, 1) := by decide +kernel
theorem dX7_together_21 : decode cX7_together 21 = .ok (.iconst 1, 1) := by decide +kernel
theorem dX7_together_22 : decode cX7_together 22 = .ok (.iand, 1) := by decide +kernel
theorem dX7_together_23 : decode cX7_together 23 = .ok (.aload_n 0, 1) := by decide +kernel
theorem dX7_together_24 : decode cX7_together 24 = .ok (.getfield 38, 3) := by decide +kernel
theorem dX7_together_27 : decode cX7_together 27 = .ok (.iconst 1, 1) := by decide +kernel
theorem dX7_together_28 : decode cX7_together 28 = .ok (.iconst 3, 1) := by decide +kernel
theorem dX7_together_29 : decode cX7_together 29 = .ok (.iload 4, 2) := by decide +kernel
theorem dX7_together_31 : decode cX7_together 31 = .ok (.imul, 1) := by decide +kernel
theorem dX7_together_32 : decode cX7_together 32 = .ok (.iadd, 1) := by decide +kernel
theorem dX7_together_33 : decode cX7_together 33 = .ok (.iload_n 2, 1) := by decide +kernel
theorem dX7_together_34 : decode cX7_together 34 = .ok (.iadd, 1) := by decide +kernel
theorem dX7_together_35 : decode cX7_together 35 = .ok (.iaload, 1) := by decide +kernel
theorem dX7_together_36 : decode cX7_together 36 = .ok (.imul, 1) := by decide +kernel
theorem dX7_together_37 : decode cX7_together 37 = .ok (.iadd, 1) := by decide +kernel
theorem dX7_together_38 : decode cX7_together 38 = .ok (.istore_n 3, 1) := by decide +kernel
theorem dX7_together_39 : decode cX7_together 39 = .ok (.iinc 4 1, 3) := by decide +kernel
theorem dX7_together_42 : decode cX7_together 42 = .ok (.goto (-37), 3) := by decide +kernel
theorem dX7_together_45 : decode cX7_together 45 = .ok (.iload_n 3, 1) := by decide +kernel
theorem dX7_together_46 : decode cX7_together 46 = .ok (.ireturn, 1) := by decide +kernel
theorem dX7_manyOf_0 : decode cX7_manyOf 0 = .ok (.iconst 0, 1) := by decide +kernel
theorem dX7_manyOf_1 : decode cX7_manyOf 1 = .ok (.istore_n 1, 1) := by decide +kernel
theorem dX7_manyOf_2 : decode cX7_manyOf 2 = .ok (.iconst 0, 1) := by decide +kernel
theorem dX7_manyOf_3 : decode cX7_manyOf 3 = .ok (.istore_n 2, 1) := by decide +kernel
theorem dX7_manyOf_4 : decode cX7_manyOf 4 = .ok (.iload_n 2, 1) := by decide +kernel
theorem dX7_manyOf_5 : decode cX7_manyOf 5 = .ok (.bipush 8, 2) := by decide +kernel
theorem dX7_manyOf_7 : decode cX7_manyOf 7 = .ok (.if_icmp .ge 17, 3) := by decide +kernel
theorem dX7_manyOf_10 : decode cX7_manyOf 10 = .ok (.iload_n 1, 1) := by decide +kernel
theorem dX7_manyOf_11 : decode cX7_manyOf 11 = .ok (.iload_n 0, 1) := by decide +kernel
theorem dX7_manyOf_12 : decode cX7_manyOf 12 = .ok (.iload_n 2, 1) := by decide +kernel
theorem dX7_manyOf_13 : decode cX7_manyOf 13 = .ok (.ishr, 1) := by decide +kernel
theorem dX7_manyOf_14 : decode cX7_manyOf 14 = .ok (.iconst 1, 1) := by decide +kernel
theorem dX7_manyOf_15 : decode cX7_manyOf 15 = .ok (.iand, 1) := by decide +kernel
theorem dX7_manyOf_16 : decode cX7_manyOf 16 = .ok (.iadd, 1) := by decide +kernel
theorem dX7_manyOf_17 : decode cX7_manyOf 17 = .ok (.istore_n 1, 1) := by decide +kernel
theorem dX7_manyOf_18 : decode cX7_manyOf 18 = .ok (.iinc 2 1, 3) := by decide +kernel
theorem dX7_manyOf_21 : decode cX7_manyOf 21 = .ok (.goto (-17), 3) := by decide +kernel
theorem dX7_manyOf_24 : decode cX7_manyOf 24 = .ok (.iload_n 1, 1) := by decide +kernel
theorem dX7_manyOf_25 : decode cX7_manyOf 25 = .ok (.ireturn, 1) := by decide +kernel
theorem dX7_heap_0 : decode cX7_heap 0 = .ok (.iload_n 1, 1) := by decide +kernel
theorem dX7_heap_1 : decode cX7_heap 1 = .ok (.iconst 0, 1) := by decide +kernel
theorem dX7_heap_2 : decode cX7_heap 2 = .ok (.bipush 99, 2) := by decide +kernel
theorem dX7_heap_4 : decode cX7_heap 4 = .ok (.invokestatic 66, 3) := by decide +kernel
theorem dX7_heap_7 : decode cX7_heap 7 = .ok (.ifCond .eq 23, 3) := by decide +kernel
theorem dX7_heap_10 : decode cX7_heap 10 = .ok (.iload_n 2, 1) := by decide +kernel
theorem dX7_heap_11 : decode cX7_heap 11 = .ok (.iconst 0, 1) := by decide +kernel
theorem dX7_heap_12 : decode cX7_heap 12 = .ok (.bipush 99, 2) := by decide +kernel
theorem dX7_heap_14 : decode cX7_heap 14 = .ok (.invokestatic 66, 3) := by decide +kernel
theorem dX7_heap_17 : decode cX7_heap 17 = .ok (.ifCond .eq 13, 3) := by decide +kernel
theorem dX7_heap_20 : decode cX7_heap 20 = .ok (.iload_n 3, 1) := by decide +kernel
theorem dX7_heap_21 : decode cX7_heap 21 = .ok (.iconst 0, 1) := by decide +kernel
theorem dX7_heap_22 : decode cX7_heap 22 = .ok (.bipush 99, 2) := by decide +kernel
theorem dX7_heap_24 : decode cX7_heap 24 = .ok (.invokestatic 66, 3) := by decide +kernel
theorem dX7_heap_27 : decode cX7_heap 27 = .ok (.ifCond .ne 5, 3) := by decide +kernel
theorem dX7_heap_30 : decode cX7_heap 30 = .ok (.iconst (-1), 1) := by decide +kernel
theorem dX7_heap_31 : decode cX7_heap 31 = .ok (.ireturn, 1) := by decide +kernel
theorem dX7_heap_32 : decode cX7_heap 32 = .ok (.bipush (-4), 2) := by decide +kernel
theorem dX7_heap_34 : decode cX7_heap 34 = .ok (.istore 4, 2) := by decide +kernel
theorem dX7_heap_36 : decode cX7_heap 36 = .ok (.iconst 0, 1) := by decide +kernel
theorem dX7_heap_37 : decode cX7_heap 37 = .ok (.istore 5, 2) := by decide +kernel
theorem dX7_heap_39 : decode cX7_heap 39 = .ok (.iload 5, 2) := by decide +kernel
theorem dX7_heap_41 : decode cX7_heap 41 = .ok (.iconst 1, 1) := by decide +kernel
theorem dX7_heap_42 : decode cX7_heap 42 = .ok (.aload_n 0, 1) := by decide +kernel
theorem dX7_heap_43 : decode cX7_heap 43 = .ok (.getfield 13, 3) := by decide +kernel
theorem dX7_heap_46 : decode cX7_heap 46 = .ok (.iconst 0, 1) := by decide +kernel
theorem dX7_heap_47 : decode cX7_heap 47 = .ok (.iaload, 1) := by decide +kernel
theorem dX7_heap_48 : decode cX7_heap 48 = .ok (.ishl, 1) := by decide +kernel
theorem dX7_heap_49 : decode cX7_heap 49 = .ok (.if_icmp .ge 83, 3) := by decide +kernel
theorem dX7_heap_52 : decode cX7_heap 52 = .ok (.aload_n 0, 1) := by decide +kernel
theorem dX7_heap_53 : decode cX7_heap 53 = .ok (.iload 5, 2) := by decide +kernel
theorem dX7_heap_55 : decode cX7_heap 55 = .ok (.iconst 0, 1) := by decide +kernel
theorem dX7_heap_56 : decode cX7_heap 56 = .ok (.invokevirtual 160, 3) := by decide +kernel
theorem dX7_heap_59 : decode cX7_heap 59 = .ok (.iload_n 1, 1) := by decide +kernel
theorem dX7_heap_60 : decode cX7_heap 60 = .ok (.if_icmp .lt 29, 3) := by decide +kernel
theorem dX7_heap_63 : decode cX7_heap 63 = .ok (.aload_n 0, 1) := by decide +kernel
theorem dX7_heap_64 : decode cX7_heap 64 = .ok (.iload 5, 2) := by decide +kernel
theorem dX7_heap_66 : decode cX7_heap 66 = .ok (.iconst 1, 1) := by decide +kernel
theorem dX7_heap_67 : decode cX7_heap 67 = .ok (.invokevirtual 160, 3) := by decide +kernel
theorem dX7_heap_70 : decode cX7_heap 70 = .ok (.iload_n 2, 1) := by decide +kernel
theorem dX7_heap_71 : decode cX7_heap 71 = .ok (.if_icmp .lt 18, 3) := by decide +kernel
theorem dX7_heap_74 : decode cX7_heap 74 = .ok (.aload_n 0, 1) := by decide +kernel
theorem dX7_heap_75 : decode cX7_heap 75 = .ok (.iload 5, 2) := by decide +kernel
theorem dX7_heap_77 : decode cX7_heap 77 = .ok (.iconst 2, 1) := by decide +kernel
theorem dX7_heap_78 : decode cX7_heap 78 = .ok (.invokevirtual 160, 3) := by decide +kernel
theorem dX7_heap_81 : decode cX7_heap 81 = .ok (.iload_n 3, 1) := by decide +kernel
theorem dX7_heap_82 : decode cX7_heap 82 = .ok (.if_icmp .lt 7, 3) := by decide +kernel
theorem dX7_heap_85 : decode cX7_heap 85 = .ok (.iconst 1, 1) := by decide +kernel
theorem dX7_heap_86 : decode cX7_heap 86 = .ok (.goto 4, 3) := by decide +kernel
theorem dX7_heap_89 : decode cX7_heap 89 = .ok (.iconst 0, 1) := by decide +kernel
theorem dX7_heap_90 : decode cX7_heap 90 = .ok (.istore 6, 2) := by decide +kernel
theorem dX7_heap_92 : decode cX7_heap 92 = .ok (.iload 6, 2) := by decide +kernel
theorem dX7_heap_94 : decode cX7_heap 94 = .ok (.ifCond .eq 28, 3) := by decide +kernel
theorem dX7_heap_97 : decode cX7_heap 97 = .ok (.iload 4, 2) := by decide +kernel
theorem dX7_heap_99 : decode cX7_heap 99 = .ok (.bipush (-4), 2) := by decide +kernel
theorem dX7_heap_101 : decode cX7_heap 101 = .ok (.if_icmp .eq 16, 3) := by decide +kernel
theorem dX7_heap_104 : decode cX7_heap 104 = .ok (.iload 5, 2) := by decide +kernel
theorem dX7_heap_106 : decode cX7_heap 106 = .ok (.invokestatic 163, 3) := by decide +kernel
theorem dX7_heap_109 : decode cX7_heap 109 = .ok (.iload 4, 2) := by decide +kernel
theorem dX7_heap_111 : decode cX7_heap 111 = .ok (.invokestatic 163, 3) := by decide +kernel
theorem dX7_heap_114 : decode cX7_heap 114 = .ok (.if_icmp .ge 8, 3) := by decide +kernel
theorem dX7_heap_117 : decode cX7_heap 117 = .ok (.iload 5, 2) := by decide +kernel
theorem dX7_heap_119 : decode cX7_heap 119 = .ok (.goto 5, 3) := by decide +kernel
theorem dX7_heap_122 : decode cX7_heap 122 = .ok (.iload 4, 2) := by decide +kernel
theorem dX7_heap_124 : decode cX7_heap 124 = .ok (.istore 4, 2) := by decide +kernel
theorem dX7_heap_126 : decode cX7_heap 126 = .ok (.iinc 5 1, 3) := by decide +kernel
theorem dX7_heap_129 : decode cX7_heap 129 = .ok (.goto (-90), 3) := by decide +kernel
theorem dX7_heap_132 : decode cX7_heap 132 = .ok (.iload 4, 2) := by decide +kernel
theorem dX7_heap_134 : decode cX7_heap 134 = .ok (.ireturn, 1) := by decide +kernel
theorem dX7_seen_0 : decode cX7_seen 0 = .ok (.aload_n 0, 1) := by decide +kernel
theorem dX7_seen_1 : decode cX7_seen 1 = .ok (.iload_n 1, 1) := by decide +kernel
theorem dX7_seen_2 : decode cX7_seen 2 = .ok (.invokevirtual 104, 3) := by decide +kernel
theorem dX7_seen_5 : decode cX7_seen 5 = .ok (.ifCond .eq 22, 3) := by decide +kernel
theorem dX7_seen_8 : decode cX7_seen 8 = .ok (.iload_n 2, 1) := by decide +kernel
theorem dX7_seen_9 : decode cX7_seen 9 = .ok (.iconst 1, 1) := by decide +kernel
theorem dX7_seen_10 : decode cX7_seen 10 = .ok (.iconst 4, 1) := by decide +kernel
theorem dX7_seen_11 : decode cX7_seen 11 = .ok (.invokestatic 66, 3) := by decide +kernel
theorem dX7_seen_14 : decode cX7_seen 14 = .ok (.ifCond .eq 13, 3) := by decide +kernel
theorem dX7_seen_17 : decode cX7_seen 17 = .ok (.iload_n 3, 1) := by decide +kernel
theorem dX7_seen_18 : decode cX7_seen 18 = .ok (.iconst 0, 1) := by decide +kernel
theorem dX7_seen_19 : decode cX7_seen 19 = .ok (.bipush 7, 2) := by decide +kernel
theorem dX7_seen_21 : decode cX7_seen 21 = .ok (.invokestatic 66, 3) := by decide +kernel
theorem dX7_seen_24 : decode cX7_seen 24 = .ok (.ifCond .ne 5, 3) := by decide +kernel
theorem dX7_seen_27 : decode cX7_seen 27 = .ok (.iconst (-1), 1) := by decide +kernel
theorem dX7_seen_28 : decode cX7_seen 28 = .ok (.ireturn, 1) := by decide +kernel
theorem dX7_seen_29 : decode cX7_seen 29 = .ok (.aload_n 0, 1) := by decide +kernel
theorem dX7_seen_30 : decode cX7_seen 30 = .ok (.getfield 98, 3) := by decide +kernel
theorem dX7_seen_33 : decode cX7_seen 33 = .ok (.bipush 7, 2) := by decide +kernel
theorem dX7_seen_35 : decode cX7_seen 35 = .ok (.if_icmp .ne 6, 3) := by decide +kernel
theorem dX7_seen_38 : decode cX7_seen 38 = .ok (.bipush (-3), 2) := by decide +kernel
theorem dX7_seen_40 : decode cX7_seen 40 = .ok (.ireturn, 1) := by decide +kernel
theorem dX7_seen_41 : decode cX7_seen 41 = .ok (.aload_n 0, 1) := by decide +kernel
theorem dX7_seen_42 : decode cX7_seen 42 = .ok (.getfield 47, 3) := by decide +kernel
theorem dX7_seen_45 : decode cX7_seen 45 = .ok (.aload_n 0, 1) := by decide +kernel
theorem dX7_seen_46 : decode cX7_seen 46 = .ok (.getfield 98, 3) := by decide +kernel
theorem dX7_seen_49 : decode cX7_seen 49 = .ok (.iload_n 1, 1) := by decide +kernel
theorem dX7_seen_50 : decode cX7_seen 50 = .ok (.iastore, 1) := by decide +kernel
theorem dX7_seen_51 : decode cX7_seen 51 = .ok (.aload_n 0, 1) := by decide +kernel
theorem dX7_seen_52 : decode cX7_seen 52 = .ok (.getfield 50, 3) := by decide +kernel
theorem dX7_seen_55 : decode cX7_seen 55 = .ok (.aload_n 0, 1) := by decide +kernel
theorem dX7_seen_56 : decode cX7_seen 56 = .ok (.getfield 98, 3) := by decide +kernel
theorem dX7_seen_59 : decode cX7_seen 59 = .ok (.iload_n 2, 1) := by decide +kernel
theorem dX7_seen_60 : decode cX7_seen 60 = .ok (.iastore, 1) := by decide +kernel
theorem dX7_seen_61 : decode cX7_seen 61 = .ok (.aload_n 0, 1) := by decide +kernel
theorem dX7_seen_62 : decode cX7_seen 62 = .ok (.getfield 53, 3) := by decide +kernel
theorem dX7_seen_65 : decode cX7_seen 65 = .ok (.aload_n 0, 1) := by decide +kernel
theorem dX7_seen_66 : decode cX7_seen 66 = .ok (.getfield 98, 3) := by decide +kernel
theorem dX7_seen_69 : decode cX7_seen 69 = .ok (.iload_n 3, 1) := by decide +kernel
theorem dX7_seen_70 : decode cX7_seen 70 = .ok (.iastore, 1) := by decide +kernel
theorem dX7_seen_71 : decode cX7_seen 71 = .ok (.aload_n 0, 1) := by decide +kernel
theorem dX7_seen_72 : decode cX7_seen 72 = .ok (.dup, 1) := by decide +kernel
theorem dX7_seen_73 : decode cX7_seen 73 = .ok (.getfield 98, 3) := by decide +kernel
theorem dX7_seen_76 : decode cX7_seen 76 = .ok (.iconst 1, 1) := by decide +kernel
theorem dX7_seen_77 : decode cX7_seen 77 = .ok (.iadd, 1) := by decide +kernel
theorem dX7_seen_78 : decode cX7_seen 78 = .ok (.putfield 98, 3) := by decide +kernel
theorem dX7_seen_81 : decode cX7_seen 81 = .ok (.aload_n 0, 1) := by decide +kernel
theorem dX7_seen_82 : decode cX7_seen 82 = .ok (.getfield 98, 3) := by decide +kernel
theorem dX7_seen_85 : decode cX7_seen 85 = .ok (.ireturn, 1) := by decide +kernel
theorem dX7_forget_0 : decode cX7_forget 0 = .ok (.aload_n 0, 1) := by decide +kernel
theorem dX7_forget_1 : decode cX7_forget 1 = .ok (.getfield 98, 3) := by decide +kernel
theorem dX7_forget_4 : decode cX7_forget 4 = .ok (.istore_n 1, 1) := by decide +kernel
theorem dX7_forget_5 : decode cX7_forget 5 = .ok (.aload_n 0, 1) := by decide +kernel
theorem dX7_forget_6 : decode cX7_forget 6 = .ok (.iconst 0, 1) := by decide +kernel
theorem dX7_forget_7 : decode cX7_forget 7 = .ok (.putfield 98, 3) := by decide +kernel
theorem dX7_forget_10 : decode cX7_forget 10 = .ok (.iload_n 1, 1) := by decide +kernel
theorem dX7_forget_11 : decode cX7_forget 11 = .ok (.ireturn, 1) := by decide +kernel
theorem dX7_lastOf_0 : decode cX7_lastOf 0 = .ok (.iconst 0, 1) := by decide +kernel
theorem dX7_lastOf_1 : decode cX7_lastOf 1 = .ok (.istore_n 2, 1) := by decide +kernel
theorem dX7_lastOf_2 : decode cX7_lastOf 2 = .ok (.iconst 0, 1) := by decide +kernel
theorem dX7_lastOf_3 : decode cX7_lastOf 3 = .ok (.istore_n 3, 1) := by decide +kernel
theorem dX7_lastOf_4 : decode cX7_lastOf 4 = .ok (.iload_n 3, 1) := by decide +kernel
theorem dX7_lastOf_5 : decode cX7_lastOf 5 = .ok (.aload_n 0, 1) := by decide +kernel
theorem dX7_lastOf_6 : decode cX7_lastOf 6 = .ok (.getfield 98, 3) := by decide +kernel
theorem dX7_lastOf_9 : decode cX7_lastOf 9 = .ok (.if_icmp .ge 40, 3) := by decide +kernel
theorem dX7_lastOf_12 : decode cX7_lastOf 12 = .ok (.aload_n 0, 1) := by decide +kernel
theorem dX7_lastOf_13 : decode cX7_lastOf 13 = .ok (.getfield 47, 3) := by decide +kernel
theorem dX7_lastOf_16 : decode cX7_lastOf 16 = .ok (.iload_n 3, 1) := by decide +kernel
theorem dX7_lastOf_17 : decode cX7_lastOf 17 = .ok (.iaload, 1) := by decide +kernel
theorem dX7_lastOf_18 : decode cX7_lastOf 18 = .ok (.iload_n 1, 1) := by decide +kernel
theorem dX7_lastOf_19 : decode cX7_lastOf 19 = .ok (.if_icmp .ne 22, 3) := by decide +kernel
theorem dX7_lastOf_22 : decode cX7_lastOf 22 = .ok (.aload_n 0, 1) := by decide +kernel
theorem dX7_lastOf_23 : decode cX7_lastOf 23 = .ok (.getfield 50, 3) := by decide +kernel
theorem dX7_lastOf_26 : decode cX7_lastOf 26 = .ok (.iload_n 3, 1) := by decide +kernel
theorem dX7_lastOf_27 : decode cX7_lastOf 27 = .ok (.iaload, 1) := by decide +kernel
theorem dX7_lastOf_28 : decode cX7_lastOf 28 = .ok (.iload_n 2, 1) := by decide +kernel
theorem dX7_lastOf_29 : decode cX7_lastOf 29 = .ok (.if_icmp .le 12, 3) := by decide +kernel
theorem dX7_lastOf_32 : decode cX7_lastOf 32 = .ok (.aload_n 0, 1) := by decide +kernel
theorem dX7_lastOf_33 : decode cX7_lastOf 33 = .ok (.getfield 50, 3) := by decide +kernel
theorem dX7_lastOf_36 : decode cX7_lastOf 36 = .ok (.iload_n 3, 1) := by decide +kernel
theorem dX7_lastOf_37 : decode cX7_lastOf 37 = .ok (.iaload, 1) := by decide +kernel
theorem dX7_lastOf_38 : decode cX7_lastOf 38 = .ok (.goto 4, 3) := by decide +kernel
theorem dX7_lastOf_41 : decode cX7_lastOf 41 = .ok (.iload_n 2, 1) := by decide +kernel
theorem dX7_lastOf_42 : decode cX7_lastOf 42 = .ok (.istore_n 2, 1) := by decide +kernel
theorem dX7_lastOf_43 : decode cX7_lastOf 43 = .ok (.iinc 3 1, 3) := by decide +kernel
theorem dX7_lastOf_46 : decode cX7_lastOf 46 = .ok (.goto (-42), 3) := by decide +kernel
theorem dX7_lastOf_49 : decode cX7_lastOf 49 = .ok (.iload_n 2, 1) := by decide +kernel
theorem dX7_lastOf_50 : decode cX7_lastOf 50 = .ok (.ireturn, 1) := by decide +kernel
theorem dX7_power_0 : decode cX7_power 0 = .ok (.iconst 1, 1) := by decide +kernel
theorem dX7_power_1 : decode cX7_power 1 = .ok (.istore_n 2, 1) := by decide +kernel
theorem dX7_power_2 : decode cX7_power 2 = .ok (.iconst 0, 1) := by decide +kernel
theorem dX7_power_3 : decode cX7_power 3 = .ok (.istore_n 3, 1) := by decide +kernel
theorem dX7_power_4 : decode cX7_power 4 = .ok (.iload_n 3, 1) := by decide +kernel
theorem dX7_power_5 : decode cX7_power 5 = .ok (.iload_n 1, 1) := by decide +kernel
theorem dX7_power_6 : decode cX7_power 6 = .ok (.if_icmp .ge 20, 3) := by decide +kernel
theorem dX7_power_9 : decode cX7_power 9 = .ok (.iload_n 2, 1) := by decide +kernel
theorem dX7_power_10 : decode cX7_power 10 = .ok (.aload_n 0, 1) := by decide +kernel
theorem dX7_power_11 : decode cX7_power 11 = .ok (.getfield 23, 3) := by decide +kernel
theorem dX7_power_14 : decode cX7_power 14 = .ok (.iconst 0, 1) := by decide +kernel
theorem dX7_power_15 : decode cX7_power 15 = .ok (.iaload, 1) := by decide +kernel
theorem dX7_power_16 : decode cX7_power 16 = .ok (.iconst 1, 1) := by decide +kernel
theorem dX7_power_17 : decode cX7_power 17 = .ok (.iadd, 1) := by decide +kernel
theorem dX7_power_18 : decode cX7_power 18 = .ok (.imul, 1) := by decide +kernel
theorem dX7_power_19 : decode cX7_power 19 = .ok (.istore_n 2, 1) := by decide +kernel
theorem dX7_power_20 : decode cX7_power 20 = .ok (.iinc 3 1, 3) := by decide +kernel
theorem dX7_power_23 : decode cX7_power 23 = .ok (.goto (-19), 3) := by decide +kernel
theorem dX7_power_26 : decode cX7_power 26 = .ok (.iload_n 2, 1) := by decide +kernel
theorem dX7_power_27 : decode cX7_power 27 = .ok (.ireturn, 1) := by decide +kernel
theorem dX7_isSpent_0 : decode cX7_isSpent 0 = .ok (.aload_n 0, 1) := by decide +kernel
theorem dX7_isSpent_1 : decode cX7_isSpent 1 = .ok (.iconst 0, 1) := by decide +kernel
theorem dX7_isSpent_2 : decode cX7_isSpent 2 = .ok (.sipush 341, 3) := by decide +kernel
theorem dX7_isSpent_5 : decode cX7_isSpent 5 = .ok (.invokevirtual 131, 3) := by decide +kernel
theorem dX7_isSpent_8 : decode cX7_isSpent 8 = .ok (.iconst 1, 1) := by decide +kernel
theorem dX7_isSpent_9 : decode cX7_isSpent 9 = .ok (.istore 4, 2) := by decide +kernel
theorem dX7_isSpent_11 : decode cX7_isSpent 11 = .ok (.iconst 1, 1) := by decide +kernel
theorem dX7_isSpent_12 : decode cX7_isSpent 12 = .ok (.istore 5, 2) := by decide +kernel
theorem dX7_isSpent_14 : decode cX7_isSpent 14 = .ok (.iload 5, 2) := by decide +kernel
theorem dX7_isSpent_16 : decode cX7_isSpent 16 = .ok (.iload_n 2, 1) := by decide +kernel
theorem dX7_isSpent_17 : decode cX7_isSpent 17 = .ok (.if_icmp .gt 148, 3) := by decide +kernel
theorem dX7_isSpent_20 : decode cX7_isSpent 20 = .ok (.iload 4, 2) := by decide +kernel
theorem dX7_isSpent_22 : decode cX7_isSpent 22 = .ok (.ifCond .eq 143, 3) := by decide +kernel
theorem dX7_isSpent_25 : decode cX7_isSpent 25 = .ok (.iload_n 3, 1) := by decide +kernel
theorem dX7_isSpent_26 : decode cX7_isSpent 26 = .ok (.aload_n 0, 1) := by decide +kernel
theorem dX7_isSpent_27 : decode cX7_isSpent 27 = .ok (.iload_n 2, 1) := by decide +kernel
theorem dX7_isSpent_28 : decode cX7_isSpent 28 = .ok (.iload 5, 2) := by decide +kernel
theorem dX7_isSpent_30 : decode cX7_isSpent 30 = .ok (.isub, 1) := by decide +kernel
theorem dX7_isSpent_31 : decode cX7_isSpent 31 = .ok (.invokevirtual 167, 3) := by decide +kernel
theorem dX7_isSpent_34 : decode cX7_isSpent 34 = .ok (.idiv, 1) := by decide +kernel
theorem dX7_isSpent_35 : decode cX7_isSpent 35 = .ok (.aload_n 0, 1) := by decide +kernel
theorem dX7_isSpent_36 : decode cX7_isSpent 36 = .ok (.getfield 23, 3) := by decide +kernel
theorem dX7_isSpent_39 : decode cX7_isSpent 39 = .ok (.iconst 0, 1) := by decide +kernel
theorem dX7_isSpent_40 : decode cX7_isSpent 40 = .ok (.iaload, 1) := by decide +kernel
theorem dX7_isSpent_41 : decode cX7_isSpent 41 = .ok (.iconst 1, 1) := by decide +kernel
theorem dX7_isSpent_42 : decode cX7_isSpent 42 = .ok (.iadd, 1) := by decide +kernel
theorem dX7_isSpent_43 : decode cX7_isSpent 43 = .ok (.irem, 1) := by decide +kernel
theorem dX7_isSpent_44 : decode cX7_isSpent 44 = .ok (.iconst 1, 1) := by decide +kernel
theorem dX7_isSpent_45 : decode cX7_isSpent 45 = .ok (.isub, 1) := by decide +kernel
theorem dX7_isSpent_46 : decode cX7_isSpent 46 = .ok (.istore 6, 2) := by decide +kernel
theorem dX7_isSpent_48 : decode cX7_isSpent 48 = .ok (.iload 6, 2) := by decide +kernel
theorem dX7_isSpent_50 : decode cX7_isSpent 50 = .ok (.ifCond .lt 16, 3) := by decide +kernel
theorem dX7_isSpent_53 : decode cX7_isSpent 53 = .ok (.aload_n 0, 1) := by decide +kernel
theorem dX7_isSpent_54 : decode cX7_isSpent 54 = .ok (.sipush 341, 3) := by decide +kernel
theorem dX7_isSpent_57 : decode cX7_isSpent 57 = .ok (.iload_n 1, 1) := by decide +kernel
theorem dX7_isSpent_58 : decode cX7_isSpent 58 = .ok (.iload 6, 2) := by decide +kernel
theorem dX7_isSpent_60 : decode cX7_isSpent 60 = .ok (.invokevirtual 125, 3) := by decide +kernel
theorem dX7_isSpent_63 : decode cX7_isSpent 63 = .ok (.ifCond .lt 7, 3) := by decide +kernel
theorem dX7_isSpent_66 : decode cX7_isSpent 66 = .ok (.iconst 1, 1) := by decide +kernel
theorem dX7_isSpent_67 : decode cX7_isSpent 67 = .ok (.goto 4, 3) := by decide +kernel
theorem dX7_isSpent_70 : decode cX7_isSpent 70 = .ok (.iconst 0, 1) := by decide +kernel
theorem dX7_isSpent_71 : decode cX7_isSpent 71 = .ok (.istore 4, 2) := by decide +kernel
theorem dX7_isSpent_73 : decode cX7_isSpent 73 = .ok (.aload_n 0, 1) := by decide +kernel
theorem dX7_isSpent_74 : decode cX7_isSpent 74 = .ok (.sipush 341, 3) := by decide +kernel
theorem dX7_isSpent_77 : decode cX7_isSpent 77 = .ok (.iload_n 1, 1) := by decide +kernel
theorem dX7_isSpent_78 : decode cX7_isSpent 78 = .ok (.invokevirtual 128, 3) := by decide +kernel
theorem dX7_isSpent_81 : decode cX7_isSpent 81 = .ok (.iconst 0, 1) := by decide +kernel
theorem dX7_isSpent_82 : decode cX7_isSpent 82 = .ok (.istore 7, 2) := by decide +kernel
theorem dX7_isSpent_84 : decode cX7_isSpent 84 = .ok (.iload 7, 2) := by decide +kernel
theorem dX7_isSpent_86 : decode cX7_isSpent 86 = .ok (.aload_n 0, 1) := by decide +kernel
theorem dX7_isSpent_87 : decode cX7_isSpent 87 = .ok (.getfield 98, 3) := by decide +kernel
theorem dX7_isSpent_90 : decode cX7_isSpent 90 = .ok (.if_icmp .ge 62, 3) := by decide +kernel
theorem dX7_isSpent_93 : decode cX7_isSpent 93 = .ok (.iload 4, 2) := by decide +kernel
theorem dX7_isSpent_95 : decode cX7_isSpent 95 = .ok (.ifCond .eq 48, 3) := by decide +kernel
theorem dX7_isSpent_98 : decode cX7_isSpent 98 = .ok (.aload_n 0, 1) := by decide +kernel
theorem dX7_isSpent_99 : decode cX7_isSpent 99 = .ok (.getfield 47, 3) := by decide +kernel
theorem dX7_isSpent_102 : decode cX7_isSpent 102 = .ok (.iload 7, 2) := by decide +kernel
theorem dX7_isSpent_104 : decode cX7_isSpent 104 = .ok (.iaload, 1) := by decide +kernel
theorem dX7_isSpent_105 : decode cX7_isSpent 105 = .ok (.iload_n 1, 1) := by decide +kernel
theorem dX7_isSpent_106 : decode cX7_isSpent 106 = .ok (.if_icmp .ne 33, 3) := by decide +kernel
theorem dX7_isSpent_109 : decode cX7_isSpent 109 = .ok (.aload_n 0, 1) := by decide +kernel
theorem dX7_isSpent_110 : decode cX7_isSpent 110 = .ok (.getfield 50, 3) := by decide +kernel
theorem dX7_isSpent_113 : decode cX7_isSpent 113 = .ok (.iload 7, 2) := by decide +kernel
theorem dX7_isSpent_115 : decode cX7_isSpent 115 = .ok (.iaload, 1) := by decide +kernel
theorem dX7_isSpent_116 : decode cX7_isSpent 116 = .ok (.iload 5, 2) := by decide +kernel
theorem dX7_isSpent_118 : decode cX7_isSpent 118 = .ok (.if_icmp .ne 21, 3) := by decide +kernel
theorem dX7_isSpent_121 : decode cX7_isSpent 121 = .ok (.aload_n 0, 1) := by decide +kernel
theorem dX7_isSpent_122 : decode cX7_isSpent 122 = .ok (.getfield 53, 3) := by decide +kernel
theorem dX7_isSpent_125 : decode cX7_isSpent 125 = .ok (.iload 7, 2) := by decide +kernel
theorem dX7_isSpent_127 : decode cX7_isSpent 127 = .ok (.iaload, 1) := by decide +kernel
theorem dX7_isSpent_128 : decode cX7_isSpent 128 = .ok (.aload_n 0, 1) := by decide +kernel
theorem dX7_isSpent_129 : decode cX7_isSpent 129 = .ok (.sipush 341, 3) := by decide +kernel
theorem dX7_isSpent_132 : decode cX7_isSpent 132 = .ok (.iload_n 1, 1) := by decide +kernel
theorem dX7_isSpent_133 : decode cX7_isSpent 133 = .ok (.invokevirtual 108, 3) := by decide +kernel
theorem dX7_isSpent_136 : decode cX7_isSpent 136 = .ok (.if_icmp .ne 7, 3) := by decide +kernel
theorem dX7_isSpent_139 : decode cX7_isSpent 139 = .ok (.iconst 1, 1) := by decide +kernel
theorem dX7_isSpent_140 : decode cX7_isSpent 140 = .ok (.goto 4, 3) := by decide +kernel
theorem dX7_isSpent_143 : decode cX7_isSpent 143 = .ok (.iconst 0, 1) := by decide +kernel
theorem dX7_isSpent_144 : decode cX7_isSpent 144 = .ok (.istore 4, 2) := by decide +kernel
theorem dX7_isSpent_146 : decode cX7_isSpent 146 = .ok (.iinc 7 1, 3) := by decide +kernel
theorem dX7_isSpent_149 : decode cX7_isSpent 149 = .ok (.goto (-65), 3) := by decide +kernel
theorem dX7_isSpent_152 : decode cX7_isSpent 152 = .ok (.aload_n 0, 1) := by decide +kernel
theorem dX7_isSpent_153 : decode cX7_isSpent 153 = .ok (.sipush 341, 3) := by decide +kernel
theorem dX7_isSpent_156 : decode cX7_isSpent 156 = .ok (.invokevirtual 144, 3) := by decide +kernel
theorem dX7_isSpent_159 : decode cX7_isSpent 159 = .ok (.iinc 5 1, 3) := by decide +kernel
theorem dX7_isSpent_162 : decode cX7_isSpent 162 = .ok (.goto (-148), 3) := by decide +kernel
theorem dX7_isSpent_165 : decode cX7_isSpent 165 = .ok (.iload 4, 2) := by decide +kernel
theorem dX7_isSpent_167 : decode cX7_isSpent 167 = .ok (.ireturn, 1) := by decide +kernel
theorem dX7_spent_0 : decode cX7_spent 0 = .ok (.aload_n 0, 1) := by decide +kernel
theorem dX7_spent_1 : decode cX7_spent 1 = .ok (.iload_n 1, 1) := by decide +kernel
theorem dX7_spent_2 : decode cX7_spent 2 = .ok (.invokevirtual 104, 3) := by decide +kernel
theorem dX7_spent_5 : decode cX7_spent 5 = .ok (.ifCond .eq 16, 3) := by decide +kernel
theorem dX7_spent_8 : decode cX7_spent 8 = .ok (.iload_n 2, 1) := by decide +kernel
theorem dX7_spent_9 : decode cX7_spent 9 = .ok (.iconst 0, 1) := by decide +kernel
theorem dX7_spent_10 : decode cX7_spent 10 = .ok (.aload_n 0, 1) := by decide +kernel
theorem dX7_spent_11 : decode cX7_spent 11 = .ok (.iload_n 1, 1) := by decide +kernel
theorem dX7_spent_12 : decode cX7_spent 12 = .ok (.invokevirtual 170, 3) := by decide +kernel
theorem dX7_spent_15 : decode cX7_spent 15 = .ok (.invokestatic 66, 3) := by decide +kernel
theorem dX7_spent_18 : decode cX7_spent 18 = .ok (.ifCond .ne 5, 3) := by decide +kernel
theorem dX7_spent_21 : decode cX7_spent 21 = .ok (.iconst (-1), 1) := by decide +kernel
theorem dX7_spent_22 : decode cX7_spent 22 = .ok (.ireturn, 1) := by decide +kernel
theorem dX7_spent_23 : decode cX7_spent 23 = .ok (.aload_n 0, 1) := by decide +kernel
theorem dX7_spent_24 : decode cX7_spent 24 = .ok (.iload_n 1, 1) := by decide +kernel
theorem dX7_spent_25 : decode cX7_spent 25 = .ok (.invokevirtual 170, 3) := by decide +kernel
theorem dX7_spent_28 : decode cX7_spent 28 = .ok (.istore_n 3, 1) := by decide +kernel
theorem dX7_spent_29 : decode cX7_spent 29 = .ok (.iconst 0, 1) := by decide +kernel
theorem dX7_spent_30 : decode cX7_spent 30 = .ok (.istore 4, 2) := by decide +kernel
theorem dX7_spent_32 : decode cX7_spent 32 = .ok (.bipush (-4), 2) := by decide +kernel
theorem dX7_spent_34 : decode cX7_spent 34 = .ok (.istore 5, 2) := by decide +kernel
theorem dX7_spent_36 : decode cX7_spent 36 = .ok (.iconst 0, 1) := by decide +kernel
theorem dX7_spent_37 : decode cX7_spent 37 = .ok (.istore 6, 2) := by decide +kernel
theorem dX7_spent_39 : decode cX7_spent 39 = .ok (.iload 6, 2) := by decide +kernel
theorem dX7_spent_41 : decode cX7_spent 41 = .ok (.aload_n 0, 1) := by decide +kernel
theorem dX7_spent_42 : decode cX7_spent 42 = .ok (.iload_n 3, 1) := by decide +kernel
theorem dX7_spent_43 : decode cX7_spent 43 = .ok (.invokevirtual 167, 3) := by decide +kernel
theorem dX7_spent_46 : decode cX7_spent 46 = .ok (.if_icmp .ge 37, 3) := by decide +kernel
theorem dX7_spent_49 : decode cX7_spent 49 = .ok (.aload_n 0, 1) := by decide +kernel
theorem dX7_spent_50 : decode cX7_spent 50 = .ok (.iload_n 1, 1) := by decide +kernel
theorem dX7_spent_51 : decode cX7_spent 51 = .ok (.iload_n 3, 1) := by decide +kernel
theorem dX7_spent_52 : decode cX7_spent 52 = .ok (.iload 6, 2) := by decide +kernel
theorem dX7_spent_54 : decode cX7_spent 54 = .ok (.invokevirtual 173, 3) := by decide +kernel
theorem dX7_spent_57 : decode cX7_spent 57 = .ok (.ifCond .eq 20, 3) := by decide +kernel
theorem dX7_spent_60 : decode cX7_spent 60 = .ok (.iload 4, 2) := by decide +kernel
theorem dX7_spent_62 : decode cX7_spent 62 = .ok (.ifCond .ne 8, 3) := by decide +kernel
theorem dX7_spent_65 : decode cX7_spent 65 = .ok (.iload 6, 2) := by decide +kernel
theorem dX7_spent_67 : decode cX7_spent 67 = .ok (.goto 5, 3) := by decide +kernel
theorem dX7_spent_70 : decode cX7_spent 70 = .ok (.iload 5, 2) := by decide +kernel
theorem dX7_spent_72 : decode cX7_spent 72 = .ok (.istore 5, 2) := by decide +kernel
theorem dX7_spent_74 : decode cX7_spent 74 = .ok (.iinc 4 1, 3) := by decide +kernel
theorem dX7_spent_77 : decode cX7_spent 77 = .ok (.iinc 6 1, 3) := by decide +kernel
theorem dX7_spent_80 : decode cX7_spent 80 = .ok (.goto (-41), 3) := by decide +kernel
theorem dX7_spent_83 : decode cX7_spent 83 = .ok (.iload_n 2, 1) := by decide +kernel
theorem dX7_spent_84 : decode cX7_spent 84 = .ok (.ifCond .eq 8, 3) := by decide +kernel
theorem dX7_spent_87 : decode cX7_spent 87 = .ok (.iload 4, 2) := by decide +kernel
theorem dX7_spent_89 : decode cX7_spent 89 = .ok (.ifCond .ne 15, 3) := by decide +kernel
theorem dX7_spent_92 : decode cX7_spent 92 = .ok (.iload_n 2, 1) := by decide +kernel
theorem dX7_spent_93 : decode cX7_spent 93 = .ok (.ifCond .ne 8, 3) := by decide +kernel
theorem dX7_spent_96 : decode cX7_spent 96 = .ok (.iload 4, 2) := by decide +kernel
theorem dX7_spent_98 : decode cX7_spent 98 = .ok (.goto 5, 3) := by decide +kernel
theorem dX7_spent_101 : decode cX7_spent 101 = .ok (.bipush (-4), 2) := by decide +kernel
theorem dX7_spent_103 : decode cX7_spent 103 = .ok (.ireturn, 1) := by decide +kernel
theorem dX7_spent_104 : decode cX7_spent 104 = .ok (.iload 5, 2) := by decide +kernel
theorem dX7_spent_106 : decode cX7_spent 106 = .ok (.aload_n 0, 1) := by decide +kernel
theorem dX7_spent_107 : decode cX7_spent 107 = .ok (.iload_n 3, 1) := by decide +kernel
theorem dX7_spent_108 : decode cX7_spent 108 = .ok (.iload_n 2, 1) := by decide +kernel
theorem dX7_spent_109 : decode cX7_spent 109 = .ok (.isub, 1) := by decide +kernel
theorem dX7_spent_110 : decode cX7_spent 110 = .ok (.invokevirtual 167, 3) := by decide +kernel
theorem dX7_spent_113 : decode cX7_spent 113 = .ok (.idiv, 1) := by decide +kernel
theorem dX7_spent_114 : decode cX7_spent 114 = .ok (.aload_n 0, 1) := by decide +kernel
theorem dX7_spent_115 : decode cX7_spent 115 = .ok (.getfield 23, 3) := by decide +kernel
theorem dX7_spent_118 : decode cX7_spent 118 = .ok (.iconst 0, 1) := by decide +kernel
theorem dX7_spent_119 : decode cX7_spent 119 = .ok (.iaload, 1) := by decide +kernel
theorem dX7_spent_120 : decode cX7_spent 120 = .ok (.iconst 1, 1) := by decide +kernel
theorem dX7_spent_121 : decode cX7_spent 121 = .ok (.iadd, 1) := by decide +kernel
theorem dX7_spent_122 : decode cX7_spent 122 = .ok (.irem, 1) := by decide +kernel
theorem dX7_spent_123 : decode cX7_spent 123 = .ok (.istore 6, 2) := by decide +kernel
theorem dX7_spent_125 : decode cX7_spent 125 = .ok (.iload 6, 2) := by decide +kernel
theorem dX7_spent_127 : decode cX7_spent 127 = .ok (.ifCond .ne 8, 3) := by decide +kernel
theorem dX7_spent_130 : decode cX7_spent 130 = .ok (.bipush (-4), 2) := by decide +kernel
theorem dX7_spent_132 : decode cX7_spent 132 = .ok (.goto 7, 3) := by decide +kernel
theorem dX7_spent_135 : decode cX7_spent 135 = .ok (.iload 6, 2) := by decide +kernel
theorem dX7_spent_137 : decode cX7_spent 137 = .ok (.iconst 1, 1) := by decide +kernel
theorem dX7_spent_138 : decode cX7_spent 138 = .ok (.isub, 1) := by decide +kernel
theorem dX7_spent_139 : decode cX7_spent 139 = .ok (.ireturn, 1) := by decide +kernel
theorem dX7_saved_0 : decode cX7_saved 0 = .ok (.aload_n 0, 1) := by decide +kernel
theorem dX7_saved_1 : decode cX7_saved 1 = .ok (.iload_n 1, 1) := by decide +kernel
theorem dX7_saved_2 : decode cX7_saved 2 = .ok (.invokevirtual 104, 3) := by decide +kernel
theorem dX7_saved_5 : decode cX7_saved 5 = .ok (.ifCond .eq 20, 3) := by decide +kernel
theorem dX7_saved_8 : decode cX7_saved 8 = .ok (.iload_n 2, 1) := by decide +kernel
theorem dX7_saved_9 : decode cX7_saved 9 = .ok (.invokestatic 147, 3) := by decide +kernel
theorem dX7_saved_12 : decode cX7_saved 12 = .ok (.ifCond .eq 13, 3) := by decide +kernel
theorem dX7_saved_15 : decode cX7_saved 15 = .ok (.iload_n 3, 1) := by decide +kernel
theorem dX7_saved_16 : decode cX7_saved 16 = .ok (.iconst 0, 1) := by decide +kernel
theorem dX7_saved_17 : decode cX7_saved 17 = .ok (.bipush 99, 2) := by decide +kernel
theorem dX7_saved_19 : decode cX7_saved 19 = .ok (.invokestatic 66, 3) := by decide +kernel
theorem dX7_saved_22 : decode cX7_saved 22 = .ok (.ifCond .ne 5, 3) := by decide +kernel
theorem dX7_saved_25 : decode cX7_saved 25 = .ok (.iconst (-1), 1) := by decide +kernel
theorem dX7_saved_26 : decode cX7_saved 26 = .ok (.ireturn, 1) := by decide +kernel
theorem dX7_saved_27 : decode cX7_saved 27 = .ok (.aload_n 0, 1) := by decide +kernel
theorem dX7_saved_28 : decode cX7_saved 28 = .ok (.iconst 0, 1) := by decide +kernel
theorem dX7_saved_29 : decode cX7_saved 29 = .ok (.sipush 341, 3) := by decide +kernel
theorem dX7_saved_32 : decode cX7_saved 32 = .ok (.invokevirtual 131, 3) := by decide +kernel
theorem dX7_saved_35 : decode cX7_saved 35 = .ok (.iconst 0, 1) := by decide +kernel
theorem dX7_saved_36 : decode cX7_saved 36 = .ok (.istore 4, 2) := by decide +kernel
theorem dX7_saved_38 : decode cX7_saved 38 = .ok (.iload 4, 2) := by decide +kernel
theorem dX7_saved_40 : decode cX7_saved 40 = .ok (.bipush 50, 2) := by decide +kernel
theorem dX7_saved_42 : decode cX7_saved 42 = .ok (.if_icmp .gt 76, 3) := by decide +kernel
theorem dX7_saved_45 : decode cX7_saved 45 = .ok (.aload_n 0, 1) := by decide +kernel
theorem dX7_saved_46 : decode cX7_saved 46 = .ok (.getfield 38, 3) := by decide +kernel
theorem dX7_saved_49 : decode cX7_saved 49 = .ok (.sipush 342, 3) := by decide +kernel
theorem dX7_saved_52 : decode cX7_saved 52 = .ok (.iconst 3, 1) := by decide +kernel
theorem dX7_saved_53 : decode cX7_saved 53 = .ok (.iload_n 1, 1) := by decide +kernel
theorem dX7_saved_54 : decode cX7_saved 54 = .ok (.imul, 1) := by decide +kernel
theorem dX7_saved_55 : decode cX7_saved 55 = .ok (.iadd, 1) := by decide +kernel
theorem dX7_saved_56 : decode cX7_saved 56 = .ok (.iload_n 2, 1) := by decide +kernel
theorem dX7_saved_57 : decode cX7_saved 57 = .ok (.iadd, 1) := by decide +kernel
theorem dX7_saved_58 : decode cX7_saved 58 = .ok (.iaload, 1) := by decide +kernel
theorem dX7_saved_59 : decode cX7_saved 59 = .ok (.iload_n 3, 1) := by decide +kernel
theorem dX7_saved_60 : decode cX7_saved 60 = .ok (.if_icmp .lt 6, 3) := by decide +kernel
theorem dX7_saved_63 : decode cX7_saved 63 = .ok (.iload 4, 2) := by decide +kernel
theorem dX7_saved_65 : decode cX7_saved 65 = .ok (.ireturn, 1) := by decide +kernel
theorem dX7_saved_66 : decode cX7_saved 66 = .ok (.iconst 1, 1) := by decide +kernel
theorem dX7_saved_67 : decode cX7_saved 67 = .ok (.istore 5, 2) := by decide +kernel
theorem dX7_saved_69 : decode cX7_saved 69 = .ok (.iload 5, 2) := by decide +kernel
theorem dX7_saved_71 : decode cX7_saved 71 = .ok (.ifCond .eq 41, 3) := by decide +kernel
theorem dX7_saved_74 : decode cX7_saved 74 = .ok (.aload_n 0, 1) := by decide +kernel
theorem dX7_saved_75 : decode cX7_saved 75 = .ok (.sipush 341, 3) := by decide +kernel
theorem dX7_saved_78 : decode cX7_saved 78 = .ok (.invokevirtual 141, 3) := by decide +kernel
theorem dX7_saved_81 : decode cX7_saved 81 = .ok (.aload_n 0, 1) := by decide +kernel
theorem dX7_saved_82 : decode cX7_saved 82 = .ok (.sipush 341, 3) := by decide +kernel
theorem dX7_saved_85 : decode cX7_saved 85 = .ok (.invokevirtual 144, 3) := by decide +kernel
theorem dX7_saved_88 : decode cX7_saved 88 = .ok (.aload_n 0, 1) := by decide +kernel
theorem dX7_saved_89 : decode cX7_saved 89 = .ok (.getfield 38, 3) := by decide +kernel
theorem dX7_saved_92 : decode cX7_saved 92 = .ok (.sipush 341, 3) := by decide +kernel
theorem dX7_saved_95 : decode cX7_saved 95 = .ok (.iaload, 1) := by decide +kernel
theorem dX7_saved_96 : decode cX7_saved 96 = .ok (.bipush 7, 2) := by decide +kernel
theorem dX7_saved_98 : decode cX7_saved 98 = .ok (.irem, 1) := by decide +kernel
theorem dX7_saved_99 : decode cX7_saved 99 = .ok (.ifCond .eq 7, 3) := by decide +kernel
theorem dX7_saved_102 : decode cX7_saved 102 = .ok (.iconst 1, 1) := by decide +kernel
theorem dX7_saved_103 : decode cX7_saved 103 = .ok (.goto 4, 3) := by decide +kernel
theorem dX7_saved_106 : decode cX7_saved 106 = .ok (.iconst 0, 1) := by decide +kernel
theorem dX7_saved_107 : decode cX7_saved 107 = .ok (.istore 5, 2) := by decide +kernel
theorem dX7_saved_109 : decode cX7_saved 109 = .ok (.goto (-40), 3) := by decide +kernel
theorem dX7_saved_112 : decode cX7_saved 112 = .ok (.iinc 4 1, 3) := by decide +kernel
theorem dX7_saved_115 : decode cX7_saved 115 = .ok (.goto (-77), 3) := by decide +kernel
theorem dX7_saved_118 : decode cX7_saved 118 = .ok (.bipush (-4), 2) := by decide +kernel
theorem dX7_saved_120 : decode cX7_saved 120 = .ok (.ireturn, 1) := by decide +kernel
theorem dX7_lasts_0 : decode cX7_lasts 0 = .ok (.aload_n 0, 1) := by decide +kernel
theorem dX7_lasts_1 : decode cX7_lasts 1 = .ok (.iload_n 1, 1) := by decide +kernel
theorem dX7_lasts_2 : decode cX7_lasts 2 = .ok (.invokevirtual 104, 3) := by decide +kernel
theorem dX7_lasts_5 : decode cX7_lasts 5 = .ok (.ifCond .eq 42, 3) := by decide +kernel
theorem dX7_lasts_8 : decode cX7_lasts 8 = .ok (.aload_n 0, 1) := by decide +kernel
theorem dX7_lasts_9 : decode cX7_lasts 9 = .ok (.iload_n 2, 1) := by decide +kernel
theorem dX7_lasts_10 : decode cX7_lasts 10 = .ok (.invokevirtual 112, 3) := by decide +kernel
theorem dX7_lasts_13 : decode cX7_lasts 13 = .ok (.ifCond .eq 34, 3) := by decide +kernel
theorem dX7_lasts_16 : decode cX7_lasts 16 = .ok (.iload_n 3, 1) := by decide +kernel
theorem dX7_lasts_17 : decode cX7_lasts 17 = .ok (.iconst 0, 1) := by decide +kernel
theorem dX7_lasts_18 : decode cX7_lasts 18 = .ok (.bipush 10, 2) := by decide +kernel
theorem dX7_lasts_20 : decode cX7_lasts 20 = .ok (.invokestatic 66, 3) := by decide +kernel
theorem dX7_lasts_23 : decode cX7_lasts 23 = .ok (.ifCond .eq 24, 3) := by decide +kernel
theorem dX7_lasts_26 : decode cX7_lasts 26 = .ok (.iload 4, 2) := by decide +kernel
theorem dX7_lasts_28 : decode cX7_lasts 28 = .ok (.iconst 0, 1) := by decide +kernel
theorem dX7_lasts_29 : decode cX7_lasts 29 = .ok (.bipush 7, 2) := by decide +kernel
theorem dX7_lasts_31 : decode cX7_lasts 31 = .ok (.invokestatic 66, 3) := by decide +kernel
theorem dX7_lasts_34 : decode cX7_lasts 34 = .ok (.ifCond .eq 13, 3) := by decide +kernel
theorem dX7_lasts_37 : decode cX7_lasts 37 = .ok (.iload 5, 2) := by decide +kernel
theorem dX7_lasts_39 : decode cX7_lasts 39 = .ok (.iconst 0, 1) := by decide +kernel
theorem dX7_lasts_40 : decode cX7_lasts 40 = .ok (.iconst 1, 1) := by decide +kernel
theorem dX7_lasts_41 : decode cX7_lasts 41 = .ok (.invokestatic 66, 3) := by decide +kernel
theorem dX7_lasts_44 : decode cX7_lasts 44 = .ok (.ifCond .ne 5, 3) := by decide +kernel
theorem dX7_lasts_47 : decode cX7_lasts 47 = .ok (.iconst (-1), 1) := by decide +kernel
theorem dX7_lasts_48 : decode cX7_lasts 48 = .ok (.ireturn, 1) := by decide +kernel
theorem dX7_lasts_49 : decode cX7_lasts 49 = .ok (.aload_n 0, 1) := by decide +kernel
theorem dX7_lasts_50 : decode cX7_lasts 50 = .ok (.iconst 0, 1) := by decide +kernel
theorem dX7_lasts_51 : decode cX7_lasts 51 = .ok (.sipush 341, 3) := by decide +kernel
theorem dX7_lasts_54 : decode cX7_lasts 54 = .ok (.invokevirtual 131, 3) := by decide +kernel
theorem dX7_lasts_57 : decode cX7_lasts 57 = .ok (.iconst 0, 1) := by decide +kernel
theorem dX7_lasts_58 : decode cX7_lasts 58 = .ok (.istore 6, 2) := by decide +kernel
theorem dX7_lasts_60 : decode cX7_lasts 60 = .ok (.iload 6, 2) := by decide +kernel
theorem dX7_lasts_62 : decode cX7_lasts 62 = .ok (.iload 4, 2) := by decide +kernel
theorem dX7_lasts_64 : decode cX7_lasts 64 = .ok (.if_icmp .ge 21, 3) := by decide +kernel
theorem dX7_lasts_67 : decode cX7_lasts 67 = .ok (.aload_n 0, 1) := by decide +kernel
theorem dX7_lasts_68 : decode cX7_lasts 68 = .ok (.sipush 341, 3) := by decide +kernel
theorem dX7_lasts_71 : decode cX7_lasts 71 = .ok (.iload_n 1, 1) := by decide +kernel
theorem dX7_lasts_72 : decode cX7_lasts 72 = .ok (.iload_n 2, 1) := by decide +kernel
theorem dX7_lasts_73 : decode cX7_lasts 73 = .ok (.invokevirtual 125, 3) := by decide +kernel
theorem dX7_lasts_76 : decode cX7_lasts 76 = .ok (.ifCond .lt 9, 3) := by decide +kernel
theorem dX7_lasts_79 : decode cX7_lasts 79 = .ok (.iinc 6 1, 3) := by decide +kernel
theorem dX7_lasts_82 : decode cX7_lasts 82 = .ok (.goto (-22), 3) := by decide +kernel
theorem dX7_lasts_85 : decode cX7_lasts 85 = .ok (.iconst 0, 1) := by decide +kernel
theorem dX7_lasts_86 : decode cX7_lasts 86 = .ok (.istore 7, 2) := by decide +kernel
theorem dX7_lasts_88 : decode cX7_lasts 88 = .ok (.iconst 1, 1) := by decide +kernel
theorem dX7_lasts_89 : decode cX7_lasts 89 = .ok (.istore 8, 2) := by decide +kernel
theorem dX7_lasts_91 : decode cX7_lasts 91 = .ok (.iconst 0, 1) := by decide +kernel
theorem dX7_lasts_92 : decode cX7_lasts 92 = .ok (.istore 9, 2) := by decide +kernel
theorem dX7_lasts_94 : decode cX7_lasts 94 = .ok (.iload 9, 2) := by decide +kernel
theorem dX7_lasts_96 : decode cX7_lasts 96 = .ok (.iconst 1, 1) := by decide +kernel
theorem dX7_lasts_97 : decode cX7_lasts 97 = .ok (.iload 4, 2) := by decide +kernel
theorem dX7_lasts_99 : decode cX7_lasts 99 = .ok (.ishl, 1) := by decide +kernel
theorem dX7_lasts_100 : decode cX7_lasts 100 = .ok (.if_icmp .ge 73, 3) := by decide +kernel
theorem dX7_lasts_103 : decode cX7_lasts 103 = .ok (.iload 9, 2) := by decide +kernel
theorem dX7_lasts_105 : decode cX7_lasts 105 = .ok (.invokestatic 163, 3) := by decide +kernel
theorem dX7_lasts_108 : decode cX7_lasts 108 = .ok (.iload 6, 2) := by decide +kernel
theorem dX7_lasts_110 : decode cX7_lasts 110 = .ok (.if_icmp .gt 7, 3) := by decide +kernel
theorem dX7_lasts_113 : decode cX7_lasts 113 = .ok (.iconst 1, 1) := by decide +kernel
theorem dX7_lasts_114 : decode cX7_lasts 114 = .ok (.goto 4, 3) := by decide +kernel
theorem dX7_lasts_117 : decode cX7_lasts 117 = .ok (.iconst 0, 1) := by decide +kernel
theorem dX7_lasts_118 : decode cX7_lasts 118 = .ok (.istore 10, 2) := by decide +kernel
theorem dX7_lasts_120 : decode cX7_lasts 120 = .ok (.iconst 0, 1) := by decide +kernel
theorem dX7_lasts_121 : decode cX7_lasts 121 = .ok (.istore 11, 2) := by decide +kernel
theorem dX7_lasts_123 : decode cX7_lasts 123 = .ok (.iload 11, 2) := by decide +kernel
theorem dX7_lasts_125 : decode cX7_lasts 125 = .ok (.iload 4, 2) := by decide +kernel
theorem dX7_lasts_127 : decode cX7_lasts 127 = .ok (.if_icmp .ge 33, 3) := by decide +kernel
theorem dX7_lasts_130 : decode cX7_lasts 130 = .ok (.iload 10, 2) := by decide +kernel
theorem dX7_lasts_132 : decode cX7_lasts 132 = .ok (.iload 9, 2) := by decide +kernel
theorem dX7_lasts_134 : decode cX7_lasts 134 = .ok (.iload 11, 2) := by decide +kernel
theorem dX7_lasts_136 : decode cX7_lasts 136 = .ok (.ishr, 1) := by decide +kernel
theorem dX7_lasts_137 : decode cX7_lasts 137 = .ok (.iconst 1, 1) := by decide +kernel
theorem dX7_lasts_138 : decode cX7_lasts 138 = .ok (.iand, 1) := by decide +kernel
theorem dX7_lasts_139 : decode cX7_lasts 139 = .ok (.iconst 1, 1) := by decide +kernel
theorem dX7_lasts_140 : decode cX7_lasts 140 = .ok (.if_icmp .ne 7, 3) := by decide +kernel
theorem dX7_lasts_143 : decode cX7_lasts 143 = .ok (.iload_n 3, 1) := by decide +kernel
theorem dX7_lasts_144 : decode cX7_lasts 144 = .ok (.goto 7, 3) := by decide +kernel
theorem dX7_lasts_147 : decode cX7_lasts 147 = .ok (.bipush 10, 2) := by decide +kernel
theorem dX7_lasts_149 : decode cX7_lasts 149 = .ok (.iload_n 3, 1) := by decide +kernel
theorem dX7_lasts_150 : decode cX7_lasts 150 = .ok (.isub, 1) := by decide +kernel
theorem dX7_lasts_151 : decode cX7_lasts 151 = .ok (.imul, 1) := by decide +kernel
theorem dX7_lasts_152 : decode cX7_lasts 152 = .ok (.istore 10, 2) := by decide +kernel
theorem dX7_lasts_154 : decode cX7_lasts 154 = .ok (.iinc 11 1, 3) := by decide +kernel
theorem dX7_lasts_157 : decode cX7_lasts 157 = .ok (.goto (-34), 3) := by decide +kernel
theorem dX7_lasts_160 : decode cX7_lasts 160 = .ok (.iload 7, 2) := by decide +kernel
theorem dX7_lasts_162 : decode cX7_lasts 162 = .ok (.iload 10, 2) := by decide +kernel
theorem dX7_lasts_164 : decode cX7_lasts 164 = .ok (.iadd, 1) := by decide +kernel
theorem dX7_lasts_165 : decode cX7_lasts 165 = .ok (.istore 7, 2) := by decide +kernel
theorem dX7_lasts_167 : decode cX7_lasts 167 = .ok (.iinc 9 1, 3) := by decide +kernel
theorem dX7_lasts_170 : decode cX7_lasts 170 = .ok (.goto (-76), 3) := by decide +kernel
theorem dX7_lasts_173 : decode cX7_lasts 173 = .ok (.iconst 0, 1) := by decide +kernel
theorem dX7_lasts_174 : decode cX7_lasts 174 = .ok (.istore 9, 2) := by decide +kernel
theorem dX7_lasts_176 : decode cX7_lasts 176 = .ok (.iload 9, 2) := by decide +kernel
theorem dX7_lasts_178 : decode cX7_lasts 178 = .ok (.iload 4, 2) := by decide +kernel
theorem dX7_lasts_180 : decode cX7_lasts 180 = .ok (.if_icmp .ge 16, 3) := by decide +kernel
theorem dX7_lasts_183 : decode cX7_lasts 183 = .ok (.iload 8, 2) := by decide +kernel
theorem dX7_lasts_185 : decode cX7_lasts 185 = .ok (.bipush 10, 2) := by decide +kernel
theorem dX7_lasts_187 : decode cX7_lasts 187 = .ok (.imul, 1) := by decide +kernel
theorem dX7_lasts_188 : decode cX7_lasts 188 = .ok (.istore 8, 2) := by decide +kernel
theorem dX7_lasts_190 : decode cX7_lasts 190 = .ok (.iinc 9 1, 3) := by decide +kernel
theorem dX7_lasts_193 : decode cX7_lasts 193 = .ok (.goto (-17), 3) := by decide +kernel
theorem dX7_lasts_196 : decode cX7_lasts 196 = .ok (.iload 7, 2) := by decide +kernel
theorem dX7_lasts_198 : decode cX7_lasts 198 = .ok (.istore 9, 2) := by decide +kernel
theorem dX7_lasts_200 : decode cX7_lasts 200 = .ok (.iload 8, 2) := by decide +kernel
theorem dX7_lasts_202 : decode cX7_lasts 202 = .ok (.istore 10, 2) := by decide +kernel
theorem dX7_lasts_204 : decode cX7_lasts 204 = .ok (.iload 10, 2) := by decide +kernel
theorem dX7_lasts_206 : decode cX7_lasts 206 = .ok (.ifCond .eq 21, 3) := by decide +kernel
theorem dX7_lasts_209 : decode cX7_lasts 209 = .ok (.iload 9, 2) := by decide +kernel
theorem dX7_lasts_211 : decode cX7_lasts 211 = .ok (.iload 10, 2) := by decide +kernel
theorem dX7_lasts_213 : decode cX7_lasts 213 = .ok (.irem, 1) := by decide +kernel
theorem dX7_lasts_214 : decode cX7_lasts 214 = .ok (.istore 11, 2) := by decide +kernel
theorem dX7_lasts_216 : decode cX7_lasts 216 = .ok (.iload 10, 2) := by decide +kernel
theorem dX7_lasts_218 : decode cX7_lasts 218 = .ok (.istore 9, 2) := by decide +kernel
theorem dX7_lasts_220 : decode cX7_lasts 220 = .ok (.iload 11, 2) := by decide +kernel
theorem dX7_lasts_222 : decode cX7_lasts 222 = .ok (.istore 10, 2) := by decide +kernel
theorem dX7_lasts_224 : decode cX7_lasts 224 = .ok (.goto (-20), 3) := by decide +kernel
theorem dX7_lasts_227 : decode cX7_lasts 227 = .ok (.iload 5, 2) := by decide +kernel
theorem dX7_lasts_229 : decode cX7_lasts 229 = .ok (.ifCond .ne 11, 3) := by decide +kernel
theorem dX7_lasts_232 : decode cX7_lasts 232 = .ok (.iload 7, 2) := by decide +kernel
theorem dX7_lasts_234 : decode cX7_lasts 234 = .ok (.iload 9, 2) := by decide +kernel
theorem dX7_lasts_236 : decode cX7_lasts 236 = .ok (.idiv, 1) := by decide +kernel
theorem dX7_lasts_237 : decode cX7_lasts 237 = .ok (.goto 8, 3) := by decide +kernel
theorem dX7_lasts_240 : decode cX7_lasts 240 = .ok (.iload 8, 2) := by decide +kernel
theorem dX7_lasts_242 : decode cX7_lasts 242 = .ok (.iload 9, 2) := by decide +kernel
theorem dX7_lasts_244 : decode cX7_lasts 244 = .ok (.idiv, 1) := by decide +kernel
theorem dX7_lasts_245 : decode cX7_lasts 245 = .ok (.ireturn, 1) := by decide +kernel
theorem dX7_year_0 : decode cX7_year 0 = .ok (.iload_n 1, 1) := by decide +kernel
theorem dX7_year_1 : decode cX7_year 1 = .ok (.iconst 0, 1) := by decide +kernel
theorem dX7_year_2 : decode cX7_year 2 = .ok (.sipush 9999, 3) := by decide +kernel
theorem dX7_year_5 : decode cX7_year 5 = .ok (.invokestatic 66, 3) := by decide +kernel
theorem dX7_year_8 : decode cX7_year 8 = .ok (.ifCond .eq 22, 3) := by decide +kernel
theorem dX7_year_11 : decode cX7_year 11 = .ok (.iload_n 2, 1) := by decide +kernel
theorem dX7_year_12 : decode cX7_year 12 = .ok (.iconst 1, 1) := by decide +kernel
theorem dX7_year_13 : decode cX7_year 13 = .ok (.bipush 60, 2) := by decide +kernel
theorem dX7_year_15 : decode cX7_year 15 = .ok (.invokestatic 66, 3) := by decide +kernel
theorem dX7_year_18 : decode cX7_year 18 = .ok (.ifCond .eq 12, 3) := by decide +kernel
theorem dX7_year_21 : decode cX7_year 21 = .ok (.iload_n 3, 1) := by decide +kernel
theorem dX7_year_22 : decode cX7_year 22 = .ok (.iconst 0, 1) := by decide +kernel
theorem dX7_year_23 : decode cX7_year 23 = .ok (.iconst 1, 1) := by decide +kernel
theorem dX7_year_24 : decode cX7_year 24 = .ok (.invokestatic 66, 3) := by decide +kernel
theorem dX7_year_27 : decode cX7_year 27 = .ok (.ifCond .ne 5, 3) := by decide +kernel
theorem dX7_year_30 : decode cX7_year 30 = .ok (.iconst (-1), 1) := by decide +kernel
theorem dX7_year_31 : decode cX7_year 31 = .ok (.ireturn, 1) := by decide +kernel
theorem dX7_year_32 : decode cX7_year 32 = .ok (.aload_n 0, 1) := by decide +kernel
theorem dX7_year_33 : decode cX7_year 33 = .ok (.iconst 0, 1) := by decide +kernel
theorem dX7_year_34 : decode cX7_year 34 = .ok (.sipush 341, 3) := by decide +kernel
theorem dX7_year_37 : decode cX7_year 37 = .ok (.invokevirtual 131, 3) := by decide +kernel
theorem dX7_year_40 : decode cX7_year 40 = .ok (.iconst 0, 1) := by decide +kernel
theorem dX7_year_41 : decode cX7_year 41 = .ok (.istore 4, 2) := by decide +kernel
theorem dX7_year_43 : decode cX7_year 43 = .ok (.iconst 0, 1) := by decide +kernel
theorem dX7_year_44 : decode cX7_year 44 = .ok (.istore 5, 2) := by decide +kernel
theorem dX7_year_46 : decode cX7_year 46 = .ok (.iload 5, 2) := by decide +kernel
theorem dX7_year_48 : decode cX7_year 48 = .ok (.iload_n 2, 1) := by decide +kernel
theorem dX7_year_49 : decode cX7_year 49 = .ok (.if_icmp .ge 158, 3) := by decide +kernel
theorem dX7_year_52 : decode cX7_year 52 = .ok (.iconst 0, 1) := by decide +kernel
theorem dX7_year_53 : decode cX7_year 53 = .ok (.istore 6, 2) := by decide +kernel
theorem dX7_year_55 : decode cX7_year 55 = .ok (.iload 6, 2) := by decide +kernel
theorem dX7_year_57 : decode cX7_year 57 = .ok (.aload_n 0, 1) := by decide +kernel
theorem dX7_year_58 : decode cX7_year 58 = .ok (.getfield 13, 3) := by decide +kernel
theorem dX7_year_61 : decode cX7_year 61 = .ok (.iconst 0, 1) := by decide +kernel
theorem dX7_year_62 : decode cX7_year 62 = .ok (.iaload, 1) := by decide +kernel
theorem dX7_year_63 : decode cX7_year 63 = .ok (.if_icmp .ge 82, 3) := by decide +kernel
theorem dX7_year_66 : decode cX7_year 66 = .ok (.ldc2_w 176, 3) := by decide +kernel
theorem dX7_year_69 : decode cX7_year 69 = .ok (.iload_n 1, 1) := by decide +kernel
theorem dX7_year_70 : decode cX7_year 70 = .ok (.i2l, 1) := by decide +kernel
theorem dX7_year_71 : decode cX7_year 71 = .ok (.lmul, 1) := by decide +kernel
theorem dX7_year_72 : decode cX7_year 72 = .ok (.ldc2_w 178, 3) := by decide +kernel
theorem dX7_year_75 : decode cX7_year 75 = .ok (.iload 5, 2) := by decide +kernel
theorem dX7_year_77 : decode cX7_year 77 = .ok (.i2l, 1) := by decide +kernel
theorem dX7_year_78 : decode cX7_year 78 = .ok (.lmul, 1) := by decide +kernel
theorem dX7_year_79 : decode cX7_year 79 = .ok (.ladd, 1) := by decide +kernel
theorem dX7_year_80 : decode cX7_year 80 = .ok (.ldc2_w 180, 3) := by decide +kernel
theorem dX7_year_83 : decode cX7_year 83 = .ok (.iload 6, 2) := by decide +kernel
theorem dX7_year_85 : decode cX7_year 85 = .ok (.i2l, 1) := by decide +kernel
theorem dX7_year_86 : decode cX7_year 86 = .ok (.lmul, 1) := by decide +kernel
theorem dX7_year_87 : decode cX7_year 87 = .ok (.ladd, 1) := by decide +kernel
theorem dX7_year_88 : decode cX7_year 88 = .ok (.lconst 1, 1) := by decide +kernel
theorem dX7_year_89 : decode cX7_year 89 = .ok (.ladd, 1) := by decide +kernel
theorem dX7_year_90 : decode cX7_year 90 = .ok (.lstore 7, 2) := by decide +kernel
theorem dX7_year_92 : decode cX7_year 92 = .ok (.lload 7, 2) := by decide +kernel
theorem dX7_year_94 : decode cX7_year 94 = .ok (.lload 7, 2) := by decide +kernel
theorem dX7_year_96 : decode cX7_year 96 = .ok (.lmul, 1) := by decide +kernel
theorem dX7_year_97 : decode cX7_year 97 = .ok (.ldc2_w 182, 3) := by decide +kernel
theorem dX7_year_100 : decode cX7_year 100 = .ok (.lrem, 1) := by decide +kernel
theorem dX7_year_101 : decode cX7_year 101 = .ok (.l2i, 1) := by decide +kernel
theorem dX7_year_102 : decode cX7_year 102 = .ok (.bipush 8, 2) := by decide +kernel
theorem dX7_year_104 : decode cX7_year 104 = .ok (.idiv, 1) := by decide +kernel
theorem dX7_year_105 : decode cX7_year 105 = .ok (.aload_n 0, 1) := by decide +kernel
theorem dX7_year_106 : decode cX7_year 106 = .ok (.getfield 23, 3) := by decide +kernel
theorem dX7_year_109 : decode cX7_year 109 = .ok (.iconst 0, 1) := by decide +kernel
theorem dX7_year_110 : decode cX7_year 110 = .ok (.iaload, 1) := by decide +kernel
theorem dX7_year_111 : decode cX7_year 111 = .ok (.iconst 1, 1) := by decide +kernel
theorem dX7_year_112 : decode cX7_year 112 = .ok (.iadd, 1) := by decide +kernel
theorem dX7_year_113 : decode cX7_year 113 = .ok (.irem, 1) := by decide +kernel
theorem dX7_year_114 : decode cX7_year 114 = .ok (.istore 9, 2) := by decide +kernel
theorem dX7_year_116 : decode cX7_year 116 = .ok (.iload 9, 2) := by decide +kernel
theorem dX7_year_118 : decode cX7_year 118 = .ok (.aload_n 0, 1) := by decide +kernel
theorem dX7_year_119 : decode cX7_year 119 = .ok (.getfield 23, 3) := by decide +kernel
theorem dX7_year_122 : decode cX7_year 122 = .ok (.iconst 0, 1) := by decide +kernel
theorem dX7_year_123 : decode cX7_year 123 = .ok (.iaload, 1) := by decide +kernel
theorem dX7_year_124 : decode cX7_year 124 = .ok (.if_icmp .ge 15, 3) := by decide +kernel
theorem dX7_year_127 : decode cX7_year 127 = .ok (.aload_n 0, 1) := by decide +kernel
theorem dX7_year_128 : decode cX7_year 128 = .ok (.sipush 341, 3) := by decide +kernel
theorem dX7_year_131 : decode cX7_year 131 = .ok (.iload 6, 2) := by decide +kernel
theorem dX7_year_133 : decode cX7_year 133 = .ok (.iload 9, 2) := by decide +kernel
theorem dX7_year_135 : decode cX7_year 135 = .ok (.invokevirtual 125, 3) := by decide +kernel
theorem dX7_year_138 : decode cX7_year 138 = .ok (.pop, 1) := by decide +kernel
theorem dX7_year_139 : decode cX7_year 139 = .ok (.iinc 6 1, 3) := by decide +kernel
theorem dX7_year_142 : decode cX7_year 142 = .ok (.goto (-87), 3) := by decide +kernel
theorem dX7_year_145 : decode cX7_year 145 = .ok (.aload_n 0, 1) := by decide +kernel
theorem dX7_year_146 : decode cX7_year 146 = .ok (.sipush 341, 3) := by decide +kernel
theorem dX7_year_149 : decode cX7_year 149 = .ok (.invokevirtual 141, 3) := by decide +kernel
theorem dX7_year_152 : decode cX7_year 152 = .ok (.iconst 0, 1) := by decide +kernel
theorem dX7_year_153 : decode cX7_year 153 = .ok (.istore 6, 2) := by decide +kernel
theorem dX7_year_155 : decode cX7_year 155 = .ok (.iload 6, 2) := by decide +kernel
theorem dX7_year_157 : decode cX7_year 157 = .ok (.aload_n 0, 1) := by decide +kernel
theorem dX7_year_158 : decode cX7_year 158 = .ok (.getfield 13, 3) := by decide +kernel
theorem dX7_year_161 : decode cX7_year 161 = .ok (.iconst 0, 1) := by decide +kernel
theorem dX7_year_162 : decode cX7_year 162 = .ok (.iaload, 1) := by decide +kernel
theorem dX7_year_163 : decode cX7_year 163 = .ok (.if_icmp .ge 31, 3) := by decide +kernel
theorem dX7_year_166 : decode cX7_year 166 = .ok (.iload 4, 2) := by decide +kernel
theorem dX7_year_168 : decode cX7_year 168 = .ok (.aload_n 0, 1) := by decide +kernel
theorem dX7_year_169 : decode cX7_year 169 = .ok (.sipush 341, 3) := by decide +kernel
theorem dX7_year_172 : decode cX7_year 172 = .ok (.iload 6, 2) := by decide +kernel
theorem dX7_year_174 : decode cX7_year 174 = .ok (.invokevirtual 108, 3) := by decide +kernel
theorem dX7_year_177 : decode cX7_year 177 = .ok (.ifCond .ne 7, 3) := by decide +kernel
theorem dX7_year_180 : decode cX7_year 180 = .ok (.iconst 1, 1) := by decide +kernel
theorem dX7_year_181 : decode cX7_year 181 = .ok (.goto 4, 3) := by decide +kernel
end
section
theorem dX7_year_184 : decode cX7_year 184 = .ok (.iconst 0, 1) := by decide +kernel
theorem dX7_year_185 : decode cX7_year 185 = .ok (.iadd, 1) := by decide +kernel
theorem dX7_year_186 : decode cX7_year 186 = .ok (.istore 4, 2) := by decide +kernel
theorem dX7_year_188 : decode cX7_year 188 = .ok (.iinc 6 1, 3) := by decide +kernel
theorem dX7_year_191 : decode cX7_year 191 = .ok (.goto (-36), 3) := by decide +kernel
theorem dX7_year_194 : decode cX7_year 194 = .ok (.aload_n 0, 1) := by decide +kernel
theorem dX7_year_195 : decode cX7_year 195 = .ok (.sipush 341, 3) := by decide +kernel
theorem dX7_year_198 : decode cX7_year 198 = .ok (.invokevirtual 144, 3) := by decide +kernel
theorem dX7_year_201 : decode cX7_year 201 = .ok (.iinc 5 1, 3) := by decide +kernel
theorem dX7_year_204 : decode cX7_year 204 = .ok (.goto (-158), 3) := by decide +kernel
theorem dX7_year_207 : decode cX7_year 207 = .ok (.iconst 0, 1) := by decide +kernel
theorem dX7_year_208 : decode cX7_year 208 = .ok (.istore 5, 2) := by decide +kernel
theorem dX7_year_210 : decode cX7_year 210 = .ok (.iconst 0, 1) := by decide +kernel
theorem dX7_year_211 : decode cX7_year 211 = .ok (.istore 6, 2) := by decide +kernel
theorem dX7_year_213 : decode cX7_year 213 = .ok (.iload 6, 2) := by decide +kernel
theorem dX7_year_215 : decode cX7_year 215 = .ok (.aload_n 0, 1) := by decide +kernel
theorem dX7_year_216 : decode cX7_year 216 = .ok (.getfield 13, 3) := by decide +kernel
theorem dX7_year_219 : decode cX7_year 219 = .ok (.iconst 0, 1) := by decide +kernel
theorem dX7_year_220 : decode cX7_year 220 = .ok (.iaload, 1) := by decide +kernel
theorem dX7_year_221 : decode cX7_year 221 = .ok (.if_icmp .ge 36, 3) := by decide +kernel
theorem dX7_year_224 : decode cX7_year 224 = .ok (.iload 5, 2) := by decide +kernel
theorem dX7_year_226 : decode cX7_year 226 = .ok (.aload_n 0, 1) := by decide +kernel
theorem dX7_year_227 : decode cX7_year 227 = .ok (.getfield 38, 3) := by decide +kernel
theorem dX7_year_230 : decode cX7_year 230 = .ok (.sipush 366, 3) := by decide +kernel
theorem dX7_year_233 : decode cX7_year 233 = .ok (.iload 6, 2) := by decide +kernel
theorem dX7_year_235 : decode cX7_year 235 = .ok (.iadd, 1) := by decide +kernel
theorem dX7_year_236 : decode cX7_year 236 = .ok (.iaload, 1) := by decide +kernel
theorem dX7_year_237 : decode cX7_year 237 = .ok (.aload_n 0, 1) := by decide +kernel
theorem dX7_year_238 : decode cX7_year 238 = .ok (.getfield 38, 3) := by decide +kernel
theorem dX7_year_241 : decode cX7_year 241 = .ok (.bipush 25, 2) := by decide +kernel
theorem dX7_year_243 : decode cX7_year 243 = .ok (.iload 6, 2) := by decide +kernel
theorem dX7_year_245 : decode cX7_year 245 = .ok (.iadd, 1) := by decide +kernel
theorem dX7_year_246 : decode cX7_year 246 = .ok (.iaload, 1) := by decide +kernel
theorem dX7_year_247 : decode cX7_year 247 = .ok (.isub, 1) := by decide +kernel
theorem dX7_year_248 : decode cX7_year 248 = .ok (.iadd, 1) := by decide +kernel
theorem dX7_year_249 : decode cX7_year 249 = .ok (.istore 5, 2) := by decide +kernel
theorem dX7_year_251 : decode cX7_year 251 = .ok (.iinc 6 1, 3) := by decide +kernel
theorem dX7_year_254 : decode cX7_year 254 = .ok (.goto (-41), 3) := by decide +kernel
theorem dX7_year_257 : decode cX7_year 257 = .ok (.iload_n 3, 1) := by decide +kernel
theorem dX7_year_258 : decode cX7_year 258 = .ok (.ifCond .ne 8, 3) := by decide +kernel
theorem dX7_year_261 : decode cX7_year 261 = .ok (.iload 4, 2) := by decide +kernel
theorem dX7_year_263 : decode cX7_year 263 = .ok (.goto 5, 3) := by decide +kernel
theorem dX7_year_266 : decode cX7_year 266 = .ok (.iload 5, 2) := by decide +kernel
theorem dX7_year_268 : decode cX7_year 268 = .ok (.ireturn, 1) := by decide +kernel
theorem dX7_keep_0 : decode cX7_keep 0 = .ok (.aload_n 0, 1) := by decide +kernel
theorem dX7_keep_1 : decode cX7_keep 1 = .ok (.getfield 95, 3) := by decide +kernel
theorem dX7_keep_4 : decode cX7_keep 4 = .ok (.iconst 2, 1) := by decide +kernel
theorem dX7_keep_5 : decode cX7_keep 5 = .ok (.if_icmp .ne 6, 3) := by decide +kernel
theorem dX7_keep_8 : decode cX7_keep 8 = .ok (.bipush (-3), 2) := by decide +kernel
theorem dX7_keep_10 : decode cX7_keep 10 = .ok (.ireturn, 1) := by decide +kernel
theorem dX7_keep_11 : decode cX7_keep 11 = .ok (.aload_n 0, 1) := by decide +kernel
theorem dX7_keep_12 : decode cX7_keep 12 = .ok (.iconst 0, 1) := by decide +kernel
theorem dX7_keep_13 : decode cX7_keep 13 = .ok (.sipush 279, 3) := by decide +kernel
theorem dX7_keep_16 : decode cX7_keep 16 = .ok (.bipush 31, 2) := by decide +kernel
theorem dX7_keep_18 : decode cX7_keep 18 = .ok (.aload_n 0, 1) := by decide +kernel
theorem dX7_keep_19 : decode cX7_keep 19 = .ok (.getfield 95, 3) := by decide +kernel
theorem dX7_keep_22 : decode cX7_keep 22 = .ok (.imul, 1) := by decide +kernel
theorem dX7_keep_23 : decode cX7_keep 23 = .ok (.iadd, 1) := by decide +kernel
theorem dX7_keep_24 : decode cX7_keep 24 = .ok (.invokevirtual 131, 3) := by decide +kernel
theorem dX7_keep_27 : decode cX7_keep 27 = .ok (.aload_n 0, 1) := by decide +kernel
theorem dX7_keep_28 : decode cX7_keep 28 = .ok (.dup, 1) := by decide +kernel
theorem dX7_keep_29 : decode cX7_keep 29 = .ok (.getfield 95, 3) := by decide +kernel
theorem dX7_keep_32 : decode cX7_keep 32 = .ok (.iconst 1, 1) := by decide +kernel
theorem dX7_keep_33 : decode cX7_keep 33 = .ok (.iadd, 1) := by decide +kernel
theorem dX7_keep_34 : decode cX7_keep 34 = .ok (.putfield 95, 3) := by decide +kernel
theorem dX7_keep_37 : decode cX7_keep 37 = .ok (.aload_n 0, 1) := by decide +kernel
theorem dX7_keep_38 : decode cX7_keep 38 = .ok (.getfield 95, 3) := by decide +kernel
theorem dX7_keep_41 : decode cX7_keep 41 = .ok (.ireturn, 1) := by decide +kernel
theorem dX7_back_0 : decode cX7_back 0 = .ok (.aload_n 0, 1) := by decide +kernel
theorem dX7_back_1 : decode cX7_back 1 = .ok (.getfield 95, 3) := by decide +kernel
theorem dX7_back_4 : decode cX7_back 4 = .ok (.ifCond .ne 6, 3) := by decide +kernel
theorem dX7_back_7 : decode cX7_back 7 = .ok (.bipush (-2), 2) := by decide +kernel
theorem dX7_back_9 : decode cX7_back 9 = .ok (.ireturn, 1) := by decide +kernel
theorem dX7_back_10 : decode cX7_back 10 = .ok (.aload_n 0, 1) := by decide +kernel
theorem dX7_back_11 : decode cX7_back 11 = .ok (.dup, 1) := by decide +kernel
theorem dX7_back_12 : decode cX7_back 12 = .ok (.getfield 95, 3) := by decide +kernel
theorem dX7_back_15 : decode cX7_back 15 = .ok (.iconst 1, 1) := by decide +kernel
theorem dX7_back_16 : decode cX7_back 16 = .ok (.isub, 1) := by decide +kernel
theorem dX7_back_17 : decode cX7_back 17 = .ok (.putfield 95, 3) := by decide +kernel
theorem dX7_back_20 : decode cX7_back 20 = .ok (.aload_n 0, 1) := by decide +kernel
theorem dX7_back_21 : decode cX7_back 21 = .ok (.sipush 279, 3) := by decide +kernel
theorem dX7_back_24 : decode cX7_back 24 = .ok (.bipush 31, 2) := by decide +kernel
theorem dX7_back_26 : decode cX7_back 26 = .ok (.aload_n 0, 1) := by decide +kernel
theorem dX7_back_27 : decode cX7_back 27 = .ok (.getfield 95, 3) := by decide +kernel
theorem dX7_back_30 : decode cX7_back 30 = .ok (.imul, 1) := by decide +kernel
theorem dX7_back_31 : decode cX7_back 31 = .ok (.iadd, 1) := by decide +kernel
theorem dX7_back_32 : decode cX7_back 32 = .ok (.iconst 0, 1) := by decide +kernel
theorem dX7_back_33 : decode cX7_back 33 = .ok (.invokevirtual 131, 3) := by decide +kernel
theorem dX7_back_36 : decode cX7_back 36 = .ok (.aload_n 0, 1) := by decide +kernel
theorem dX7_back_37 : decode cX7_back 37 = .ok (.iconst 0, 1) := by decide +kernel
theorem dX7_back_38 : decode cX7_back 38 = .ok (.putfield 92, 3) := by decide +kernel
theorem dX7_back_41 : decode cX7_back 41 = .ok (.aload_n 0, 1) := by decide +kernel
theorem dX7_back_42 : decode cX7_back 42 = .ok (.getfield 95, 3) := by decide +kernel
theorem dX7_back_45 : decode cX7_back 45 = .ok (.ireturn, 1) := by decide +kernel
theorem dX7_count_0 : decode cX7_count 0 = .ok (.iconst 0, 1) := by decide +kernel
theorem dX7_count_1 : decode cX7_count 1 = .ok (.istore_n 2, 1) := by decide +kernel
theorem dX7_count_2 : decode cX7_count 2 = .ok (.iconst 0, 1) := by decide +kernel
theorem dX7_count_3 : decode cX7_count 3 = .ok (.istore_n 3, 1) := by decide +kernel
theorem dX7_count_4 : decode cX7_count 4 = .ok (.iconst 0, 1) := by decide +kernel
theorem dX7_count_5 : decode cX7_count 5 = .ok (.istore 4, 2) := by decide +kernel
theorem dX7_count_7 : decode cX7_count 7 = .ok (.iload 4, 2) := by decide +kernel
theorem dX7_count_9 : decode cX7_count 9 = .ok (.aload_n 0, 1) := by decide +kernel
theorem dX7_count_10 : decode cX7_count 10 = .ok (.getfield 13, 3) := by decide +kernel
theorem dX7_count_13 : decode cX7_count 13 = .ok (.iconst 0, 1) := by decide +kernel
theorem dX7_count_14 : decode cX7_count 14 = .ok (.iaload, 1) := by decide +kernel
theorem dX7_count_15 : decode cX7_count 15 = .ok (.if_icmp .ge 59, 3) := by decide +kernel
theorem dX7_count_18 : decode cX7_count 18 = .ok (.iload_n 3, 1) := by decide +kernel
theorem dX7_count_19 : decode cX7_count 19 = .ok (.aload_n 0, 1) := by decide +kernel
theorem dX7_count_20 : decode cX7_count 20 = .ok (.iconst 0, 1) := by decide +kernel
theorem dX7_count_21 : decode cX7_count 21 = .ok (.iload 4, 2) := by decide +kernel
theorem dX7_count_23 : decode cX7_count 23 = .ok (.invokevirtual 108, 3) := by decide +kernel
theorem dX7_count_26 : decode cX7_count 26 = .ok (.ifCond .ne 7, 3) := by decide +kernel
theorem dX7_count_29 : decode cX7_count 29 = .ok (.iconst 1, 1) := by decide +kernel
theorem dX7_count_30 : decode cX7_count 30 = .ok (.goto 4, 3) := by decide +kernel
theorem dX7_count_33 : decode cX7_count 33 = .ok (.iconst 0, 1) := by decide +kernel
theorem dX7_count_34 : decode cX7_count 34 = .ok (.iadd, 1) := by decide +kernel
theorem dX7_count_35 : decode cX7_count 35 = .ok (.istore_n 3, 1) := by decide +kernel
theorem dX7_count_36 : decode cX7_count 36 = .ok (.iconst 0, 1) := by decide +kernel
theorem dX7_count_37 : decode cX7_count 37 = .ok (.istore 5, 2) := by decide +kernel
theorem dX7_count_39 : decode cX7_count 39 = .ok (.iload 5, 2) := by decide +kernel
theorem dX7_count_41 : decode cX7_count 41 = .ok (.iconst 3, 1) := by decide +kernel
theorem dX7_count_42 : decode cX7_count 42 = .ok (.if_icmp .ge 26, 3) := by decide +kernel
theorem dX7_count_45 : decode cX7_count 45 = .ok (.iload_n 2, 1) := by decide +kernel
theorem dX7_count_46 : decode cX7_count 46 = .ok (.aload_n 0, 1) := by decide +kernel
theorem dX7_count_47 : decode cX7_count 47 = .ok (.getfield 38, 3) := by decide +kernel
theorem dX7_count_50 : decode cX7_count 50 = .ok (.iconst 1, 1) := by decide +kernel
theorem dX7_count_51 : decode cX7_count 51 = .ok (.iconst 3, 1) := by decide +kernel
theorem dX7_count_52 : decode cX7_count 52 = .ok (.iload 4, 2) := by decide +kernel
theorem dX7_count_54 : decode cX7_count 54 = .ok (.imul, 1) := by decide +kernel
theorem dX7_count_55 : decode cX7_count 55 = .ok (.iadd, 1) := by decide +kernel
theorem dX7_count_56 : decode cX7_count 56 = .ok (.iload 5, 2) := by decide +kernel
theorem dX7_count_58 : decode cX7_count 58 = .ok (.iadd, 1) := by decide +kernel
theorem dX7_count_59 : decode cX7_count 59 = .ok (.iaload, 1) := by decide +kernel
theorem dX7_count_60 : decode cX7_count 60 = .ok (.iadd, 1) := by decide +kernel
theorem dX7_count_61 : decode cX7_count 61 = .ok (.istore_n 2, 1) := by decide +kernel
theorem dX7_count_62 : decode cX7_count 62 = .ok (.iinc 5 1, 3) := by decide +kernel
theorem dX7_count_65 : decode cX7_count 65 = .ok (.goto (-26), 3) := by decide +kernel
theorem dX7_count_68 : decode cX7_count 68 = .ok (.iinc 4 1, 3) := by decide +kernel
theorem dX7_count_71 : decode cX7_count 71 = .ok (.goto (-64), 3) := by decide +kernel
theorem dX7_count_74 : decode cX7_count 74 = .ok (.iload_n 1, 1) := by decide +kernel
theorem dX7_count_75 : decode cX7_count 75 = .ok (.tableswitch 108 0 9 #[53, 60, 67, 77, 84, 86, 88, 93, 98, 103], 53) := by decide +kernel
theorem dX7_count_128 : decode cX7_count 128 = .ok (.aload_n 0, 1) := by decide +kernel
theorem dX7_count_129 : decode cX7_count 129 = .ok (.getfield 13, 3) := by decide +kernel
theorem dX7_count_132 : decode cX7_count 132 = .ok (.iconst 0, 1) := by decide +kernel
theorem dX7_count_133 : decode cX7_count 133 = .ok (.iaload, 1) := by decide +kernel
theorem dX7_count_134 : decode cX7_count 134 = .ok (.ireturn, 1) := by decide +kernel
theorem dX7_count_135 : decode cX7_count 135 = .ok (.aload_n 0, 1) := by decide +kernel
theorem dX7_count_136 : decode cX7_count 136 = .ok (.getfield 23, 3) := by decide +kernel
theorem dX7_count_139 : decode cX7_count 139 = .ok (.iconst 0, 1) := by decide +kernel
theorem dX7_count_140 : decode cX7_count 140 = .ok (.iaload, 1) := by decide +kernel
theorem dX7_count_141 : decode cX7_count 141 = .ok (.ireturn, 1) := by decide +kernel
theorem dX7_count_142 : decode cX7_count 142 = .ok (.aload_n 0, 1) := by decide +kernel
theorem dX7_count_143 : decode cX7_count 143 = .ok (.getfield 38, 3) := by decide +kernel
theorem dX7_count_146 : decode cX7_count 146 = .ok (.iconst 0, 1) := by decide +kernel
theorem dX7_count_147 : decode cX7_count 147 = .ok (.iaload, 1) := by decide +kernel
theorem dX7_count_148 : decode cX7_count 148 = .ok (.bipush 7, 2) := by decide +kernel
theorem dX7_count_150 : decode cX7_count 150 = .ok (.irem, 1) := by decide +kernel
theorem dX7_count_151 : decode cX7_count 151 = .ok (.ireturn, 1) := by decide +kernel
theorem dX7_count_152 : decode cX7_count 152 = .ok (.aload_n 0, 1) := by decide +kernel
theorem dX7_count_153 : decode cX7_count 153 = .ok (.getfield 38, 3) := by decide +kernel
theorem dX7_count_156 : decode cX7_count 156 = .ok (.iconst 0, 1) := by decide +kernel
theorem dX7_count_157 : decode cX7_count 157 = .ok (.iaload, 1) := by decide +kernel
theorem dX7_count_158 : decode cX7_count 158 = .ok (.ireturn, 1) := by decide +kernel
theorem dX7_count_159 : decode cX7_count 159 = .ok (.iload_n 2, 1) := by decide +kernel
theorem dX7_count_160 : decode cX7_count 160 = .ok (.ireturn, 1) := by decide +kernel
theorem dX7_count_161 : decode cX7_count 161 = .ok (.iload_n 3, 1) := by decide +kernel
theorem dX7_count_162 : decode cX7_count 162 = .ok (.ireturn, 1) := by decide +kernel
theorem dX7_count_163 : decode cX7_count 163 = .ok (.aload_n 0, 1) := by decide +kernel
theorem dX7_count_164 : decode cX7_count 164 = .ok (.getfield 98, 3) := by decide +kernel
theorem dX7_count_167 : decode cX7_count 167 = .ok (.ireturn, 1) := by decide +kernel
theorem dX7_count_168 : decode cX7_count 168 = .ok (.aload_n 0, 1) := by decide +kernel
theorem dX7_count_169 : decode cX7_count 169 = .ok (.getfield 92, 3) := by decide +kernel
theorem dX7_count_172 : decode cX7_count 172 = .ok (.ireturn, 1) := by decide +kernel
theorem dX7_count_173 : decode cX7_count 173 = .ok (.aload_n 0, 1) := by decide +kernel
theorem dX7_count_174 : decode cX7_count 174 = .ok (.getfield 95, 3) := by decide +kernel
theorem dX7_count_177 : decode cX7_count 177 = .ok (.ireturn, 1) := by decide +kernel
theorem dX7_count_178 : decode cX7_count 178 = .ok (.aload_n 0, 1) := by decide +kernel
theorem dX7_count_179 : decode cX7_count 179 = .ok (.getfield 70, 3) := by decide +kernel
theorem dX7_count_182 : decode cX7_count 182 = .ok (.ireturn, 1) := by decide +kernel
theorem dX7_count_183 : decode cX7_count 183 = .ok (.iconst (-1), 1) := by decide +kernel
theorem dX7_count_184 : decode cX7_count 184 = .ok (.ireturn, 1) := by decide +kernel
end
section
/-! tables by number: classes, methods, links (written by a program of mine out of the tables_1) -/
def gown : Nat → String := fun o => match o with
  | 0 => RX0
  | 1 => RX1
  | 2 => RX2
  | 3 => RX3
  | 4 => RX4
  | 5 => RX5
  | 6 => RX6
  | 7 => RX7
  | 8 => RL
  | 9 => RJ6
  | _ => RJ9
def gmt : List (MethodName × ByteArray × Nat × Option FieldType × Nat) := [
  (yX6_init, cX6_init, 2, none, 6),
  (yX1_init, cX1_init, 1, none, 1),
  (yX4_init, cX4_init, 1, none, 4),
  (yX3_init, cX3_init, 1, none, 3),
  (yX2_init, cX2_init, 3, none, 2),
  (yJ9_max_7cf53, cJ9_max_7cf53, 2, (some .int), 10),
  (yX0_init, cX0_init, 1, none, 0),
  (yX5_init, cX5_init, 1, none, 5),
  (yX1_add, cX1_add, 2, (some .boolean), 1),
  (yX1_firstFault, cX1_firstFault, 4, (some .int), 1),
  (yX4_empty, cX4_empty, 2, none, 4),
  (yX1_readItem, cX1_readItem, 6, (some .boolean), 1),
  (yX1_readLetter, cX1_readLetter, 1, (some .int), 1),
  (yX1_numbersBehind, cX1_numbersBehind, 1, (some .int), 1),
  (yX1_readNumber, cX1_readNumber, 4, (some .int), 1),
  (yX6_within, cX6_within, 3, (some .boolean), 6),
  (yX4_take, cX4_take, 3, (some .boolean), 4),
  (yX4_takePerson, cX4_takePerson, 2, (some .boolean), 4),
  (yX4_eachUpTo, cX4_eachUpTo, 4, (some .boolean), 4),
  (yX4_takeDeed, cX4_takeDeed, 2, (some .boolean), 4),
  (yX4_takeHabit, cX4_takeHabit, 2, (some .boolean), 4),
  (yX4_takePrice, cX4_takePrice, 2, (some .boolean), 4),
  (yX3_begin, cX3_begin, 3, none, 3),
  (yX6_write, cX6_write, 2, (some .int), 6),
  (yX6_wipe, cX6_wipe, 2, (some .int), 6),
  (yX6_fault, cX6_fault, 1, (some .int), 6),
  (yX6_lay, cX6_lay, 2, (some .int), 6),
  (yX6_person, cX6_person, 3, (some .int), 6),
  (yX6_isPerson, cX6_isPerson, 2, (some .boolean), 6),
  (yX3_hue, cX3_hue, 2, (some .int), 3),
  (yX6_hueOf, cX6_hueOf, 4, (some .int), 6),
  (yX6_deed, cX6_deed, 3, (some .int), 6),
  (yX6_isDeed, cX6_isDeed, 2, (some .boolean), 6),
  (yX6_told, cX6_told, 3, (some .int), 6),
  (yX6_can, cX6_can, 3, (some .int), 6),
  (yX4_affords, cX4_affords, 9, (some .boolean), 4),
  (yX4_writeBill, cX4_writeBill, 4, none, 4),
  (yX4_billSum, cX4_billSum, 1, (some .int), 4),
  (yX4_mix, cX4_mix, 6, (some .boolean), 4),
  (yX6_pass, cX6_pass, 2, (some .int), 6),
  (yX2_put, cX2_put, 2, none, 2),
  (yX3_copyFrom, cX3_copyFrom, 2, none, 3),
  (yJ9_min_7cf53, cJ9_min_7cf53, 2, (some .int), 10),
  (yX3_passDays, cX3_passDays, 4, none, 3),
  (yX3_doTold, cX3_doTold, 4, none, 3),
  (yX3_weekday, cX3_weekday, 1, (some .int), 3),
  (yX3_perform, cX3_perform, 4, (some .int), 3),
  (yX4_pay, cX4_pay, 4, none, 4),
  (yX3_fade, cX3_fade, 3, none, 3),
  (yX4_fade, cX4_fade, 4, none, 4),
  (yX3_endDay, cX3_endDay, 3, none, 3),
  (yX4_renew, cX4_renew, 6, none, 4),
  (yX6_act, cX6_act, 3, (some .int), 6),
  (yX6_lend, cX6_lend, 7, (some .int), 6),
  (yX6_isSort, cX6_isSort, 1, (some .boolean), 6),
  (yX6_sell, cX6_sell, 5, (some .int), 6),
  (yX6_levy, cX6_levy, 4, (some .int), 6),
  (yX3_takeFromRichest, cX3_takeFromRichest, 5, (some .boolean), 3),
  (yX6_undo, cX6_undo, 1, (some .int), 6),
  (yX2_takeLast, cX2_takeLast, 2, (some .boolean), 2),
  (yX6_behind, cX6_behind, 4, (some .int), 6),
  (yX6_grey, cX6_grey, 4, (some .int), 6),
  (yX3_firstGrey, cX3_firstGrey, 3, (some .int), 3),
  (yX6_best, cX6_best, 3, (some .int), 6),
  (yX0_choose, cX0_choose, 5, none, 0),
  (yX0_search, cX0_search, 8, none, 0),
  (yX0_isBetter, cX0_isBetter, 3, (some .boolean), 0),
  (yX0_repeat, cX0_repeat, 7, (some .int), 0),
  (yX6_lending, cX6_lending, 6, (some .int), 6),
  (yX6_needToday, cX6_needToday, 4, (some .int), 6),
  (yX6_heap, cX6_heap, 8, (some .int), 6),
  (yJ6_bitCount_0f7a4, cJ6_bitCount_0f7a4, 1, (some .int), 9),
  (yX6_sumOf, cX6_sumOf, 5, (some .int), 6),
  (yX6_seen, cX6_seen, 4, (some .int), 6),
  (yX5_add, cX5_add, 4, (some .boolean), 5),
  (yX6_forget, cX6_forget, 2, (some .int), 6),
  (yX6_spent, cX6_spent, 3, (some .int), 6),
  (yX5_lastDay, cX5_lastDay, 4, (some .int), 5),
  (yX5_recall, cX5_recall, 4, none, 5),
  (yX5_search, cX5_search, 7, none, 5),
  (yX5_spendDay, cX5_spendDay, 7, (some .boolean), 5),
  (yX5_agrees, cX5_agrees, 5, (some .boolean), 5),
  (yX6_saved, cX6_saved, 5, (some .int), 6),
  (yX6_lasts, cX6_lasts, 11, (some .int), 6),
  (yX6_timesInARow, cX6_timesInARow, 5, (some .int), 6),
  (yX6_choose, cX6_choose, 5, (some .long), 6),
  (yX6_power, cX6_power, 5, (some .long), 6),
  (yX6_commonDivisor, cX6_commonDivisor, 11, (some .long), 6),
  (yJ9_max_f86c9, cJ9_max_f86c9, 4, (some .long), 10),
  (yX6_year, cX6_year, 6, (some .int), 6),
  (yX3_doDrawn, cX3_doDrawn, 6, none, 3),
  (yX3_draw, cX3_draw, 5, (some .int), 3),
  (yX3_countGrey, cX3_countGrey, 4, (some .int), 3),
  (yX3_worthOfAll, cX3_worthOfAll, 4, (some .int), 3),
  (yX6_keep, cX6_keep, 1, (some .int), 6),
  (yX6_back, cX6_back, 1, (some .int), 6),
  (yX6_count, cX6_count, 2, (some .int), 6),
  (yX3_thimblesOfAll, cX3_thimblesOfAll, 4, (some .int), 3),
  (yX7_init, cX7_init, 1, none, 7),
  (yX7_firstPerson, cX7_firstPerson, 7, none, 7),
  (yX7_firstDeed, cX7_firstDeed, 6, none, 7),
  (yX7_takeDraft, cX7_takeDraft, 2, none, 7),
  (yX7_write, cX7_write, 2, (some .int), 7),
  (yX7_in, cX7_in, 3, (some .boolean), 7),
  (yX7_wipe, cX7_wipe, 2, (some .int), 7),
  (yX7_fault, cX7_fault, 2, (some .int), 7),
  (yX7_readItem, cX7_readItem, 6, none, 7),
  (yX7_here, cX7_here, 1, (some .int), 7),
  (yX7_number, cX7_number, 6, (some .int), 7),
  (yX7_lay, cX7_lay, 1, (some .int), 7),
  (yX7_person, cX7_person, 3, (some .int), 7),
  (yX7_isPerson, cX7_isPerson, 2, (some .boolean), 7),
  (yX7_hue, cX7_hue, 5, (some .int), 7),
  (yX7_deed, cX7_deed, 3, (some .int), 7),
  (yX7_isDeed, cX7_isDeed, 2, (some .boolean), 7),
  (yX7_told, cX7_told, 3, (some .int), 7),
  (yX7_can, cX7_can, 3, (some .int), 7),
  (yX7_canDo, cX7_canDo, 8, (some .boolean), 7),
  (yX7_plainCost, cX7_plainCost, 6, none, 7),
  (yX7_lacks, cX7_lacks, 6, (some .int), 7),
  (yX7_pass, cX7_pass, 3, (some .int), 7),
  (yX7_know, cX7_know, 2, none, 7),
  (yX7_copy, cX7_copy, 4, none, 7),
  (yX7_toldDeeds, cX7_toldDeeds, 4, none, 7),
  (yX7_doIt, cX7_doIt, 6, (some .int), 7),
  (yX7_seaAll, cX7_seaAll, 3, none, 7),
  (yX7_sea, cX7_sea, 4, none, 7),
  (yX7_over, cX7_over, 5, none, 7),
  (yX7_act, cX7_act, 3, (some .int), 7),
  (yX7_lend, cX7_lend, 7, (some .int), 7),
  (yX7_isSort, cX7_isSort, 1, (some .boolean), 7),
  (yX7_sell, cX7_sell, 4, (some .int), 7),
  (yX7_levy, cX7_levy, 6, (some .int), 7),
  (yX7_undo, cX7_undo, 1, (some .int), 7),
  (yX7_behind, cX7_behind, 5, (some .int), 7),
  (yX7_grey, cX7_grey, 4, (some .int), 7),
  (yX7_best, cX7_best, 8, (some .int), 7),
  (yX7_tryRow, cX7_tryRow, 7, (some .boolean), 7),
  (yX7_lending, cX7_lending, 9, (some .int), 7),
  (yX7_heap, cX7_heap, 7, (some .int), 7),
  (yX7_together, cX7_together, 5, (some .int), 7),
  (yX7_manyOf, cX7_manyOf, 3, (some .int), 7),
  (yX7_seen, cX7_seen, 4, (some .int), 7),
  (yX7_forget, cX7_forget, 2, (some .int), 7),
  (yX7_spent, cX7_spent, 7, (some .int), 7),
  (yX7_lastOf, cX7_lastOf, 4, (some .int), 7),
  (yX7_power, cX7_power, 4, (some .int), 7),
  (yX7_isSpent, cX7_isSpent, 8, (some .boolean), 7),
  (yX7_saved, cX7_saved, 6, (some .int), 7),
  (yX7_lasts, cX7_lasts, 12, (some .int), 7),
  (yX7_year, cX7_year, 10, (some .int), 7),
  (yX7_keep, cX7_keep, 1, (some .int), 7),
  (yX7_back, cX7_back, 1, (some .int), 7),
  (yX7_count, cX7_count, 6, (some .int), 7)]
abbrev mX6_init : Nat := 0
abbrev mX1_init : Nat := 1
abbrev mX4_init : Nat := 2
abbrev mX3_init : Nat := 3
abbrev mX2_init : Nat := 4
abbrev mJ9_max_7cf53 : Nat := 5
abbrev mX0_init : Nat := 6
abbrev mX5_init : Nat := 7
abbrev mX1_add : Nat := 8
abbrev mX1_firstFault : Nat := 9
abbrev mX4_empty : Nat := 10
abbrev mX1_readItem : Nat := 11
abbrev mX1_readLetter : Nat := 12
abbrev mX1_numbersBehind : Nat := 13
abbrev mX1_readNumber : Nat := 14
abbrev mX6_within : Nat := 15
abbrev mX4_take : Nat := 16
abbrev mX4_takePerson : Nat := 17
abbrev mX4_eachUpTo : Nat := 18
abbrev mX4_takeDeed : Nat := 19
abbrev mX4_takeHabit : Nat := 20
abbrev mX4_takePrice : Nat := 21
abbrev mX3_begin : Nat := 22
abbrev mX6_write : Nat := 23
abbrev mX6_wipe : Nat := 24
abbrev mX6_fault : Nat := 25
abbrev mX6_lay : Nat := 26
abbrev mX6_person : Nat := 27
abbrev mX6_isPerson : Nat := 28
abbrev mX3_hue : Nat := 29
abbrev mX6_hueOf : Nat := 30
abbrev mX6_deed : Nat := 31
abbrev mX6_isDeed : Nat := 32
abbrev mX6_told : Nat := 33
abbrev mX6_can : Nat := 34
abbrev mX4_affords : Nat := 35
abbrev mX4_writeBill : Nat := 36
abbrev mX4_billSum : Nat := 37
abbrev mX4_mix : Nat := 38
abbrev mX6_pass : Nat := 39
abbrev mX2_put : Nat := 40
abbrev mX3_copyFrom : Nat := 41
abbrev mJ9_min_7cf53 : Nat := 42
abbrev mX3_passDays : Nat := 43
abbrev mX3_doTold : Nat := 44
abbrev mX3_weekday : Nat := 45
abbrev mX3_perform : Nat := 46
abbrev mX4_pay : Nat := 47
abbrev mX3_fade : Nat := 48
abbrev mX4_fade : Nat := 49
abbrev mX3_endDay : Nat := 50
abbrev mX4_renew : Nat := 51
abbrev mX6_act : Nat := 52
abbrev mX6_lend : Nat := 53
abbrev mX6_isSort : Nat := 54
abbrev mX6_sell : Nat := 55
abbrev mX6_levy : Nat := 56
abbrev mX3_takeFromRichest : Nat := 57
abbrev mX6_undo : Nat := 58
abbrev mX2_takeLast : Nat := 59
abbrev mX6_behind : Nat := 60
abbrev mX6_grey : Nat := 61
abbrev mX3_firstGrey : Nat := 62
abbrev mX6_best : Nat := 63
abbrev mX0_choose : Nat := 64
abbrev mX0_search : Nat := 65
abbrev mX0_isBetter : Nat := 66
abbrev mX0_repeat : Nat := 67
abbrev mX6_lending : Nat := 68
abbrev mX6_needToday : Nat := 69
abbrev mX6_heap : Nat := 70
abbrev mJ6_bitCount_0f7a4 : Nat := 71
abbrev mX6_sumOf : Nat := 72
abbrev mX6_seen : Nat := 73
abbrev mX5_add : Nat := 74
abbrev mX6_forget : Nat := 75
abbrev mX6_spent : Nat := 76
abbrev mX5_lastDay : Nat := 77
abbrev mX5_recall : Nat := 78
abbrev mX5_search : Nat := 79
abbrev mX5_spendDay : Nat := 80
abbrev mX5_agrees : Nat := 81
abbrev mX6_saved : Nat := 82
abbrev mX6_lasts : Nat := 83
abbrev mX6_timesInARow : Nat := 84
abbrev mX6_choose : Nat := 85
abbrev mX6_power : Nat := 86
abbrev mX6_commonDivisor : Nat := 87
abbrev mJ9_max_f86c9 : Nat := 88
abbrev mX6_year : Nat := 89
abbrev mX3_doDrawn : Nat := 90
abbrev mX3_draw : Nat := 91
abbrev mX3_countGrey : Nat := 92
abbrev mX3_worthOfAll : Nat := 93
abbrev mX6_keep : Nat := 94
abbrev mX6_back : Nat := 95
abbrev mX6_count : Nat := 96
abbrev mX3_thimblesOfAll : Nat := 97
abbrev mX7_init : Nat := 98
abbrev mX7_firstPerson : Nat := 99
abbrev mX7_firstDeed : Nat := 100
abbrev mX7_takeDraft : Nat := 101
abbrev mX7_write : Nat := 102
abbrev mX7_in : Nat := 103
abbrev mX7_wipe : Nat := 104
abbrev mX7_fault : Nat := 105
abbrev mX7_readItem : Nat := 106
abbrev mX7_here : Nat := 107
abbrev mX7_number : Nat := 108
abbrev mX7_lay : Nat := 109
abbrev mX7_person : Nat := 110
abbrev mX7_isPerson : Nat := 111
abbrev mX7_hue : Nat := 112
abbrev mX7_deed : Nat := 113
abbrev mX7_isDeed : Nat := 114
abbrev mX7_told : Nat := 115
abbrev mX7_can : Nat := 116
abbrev mX7_canDo : Nat := 117
abbrev mX7_plainCost : Nat := 118
abbrev mX7_lacks : Nat := 119
abbrev mX7_pass : Nat := 120
abbrev mX7_know : Nat := 121
abbrev mX7_copy : Nat := 122
abbrev mX7_toldDeeds : Nat := 123
abbrev mX7_doIt : Nat := 124
abbrev mX7_seaAll : Nat := 125
abbrev mX7_sea : Nat := 126
abbrev mX7_over : Nat := 127
abbrev mX7_act : Nat := 128
abbrev mX7_lend : Nat := 129
abbrev mX7_isSort : Nat := 130
abbrev mX7_sell : Nat := 131
abbrev mX7_levy : Nat := 132
abbrev mX7_undo : Nat := 133
abbrev mX7_behind : Nat := 134
abbrev mX7_grey : Nat := 135
abbrev mX7_best : Nat := 136
abbrev mX7_tryRow : Nat := 137
abbrev mX7_lending : Nat := 138
abbrev mX7_heap : Nat := 139
abbrev mX7_together : Nat := 140
abbrev mX7_manyOf : Nat := 141
abbrev mX7_seen : Nat := 142
abbrev mX7_forget : Nat := 143
abbrev mX7_spent : Nat := 144
abbrev mX7_lastOf : Nat := 145
abbrev mX7_power : Nat := 146
abbrev mX7_isSpent : Nat := 147
abbrev mX7_saved : Nat := 148
abbrev mX7_lasts : Nat := 149
abbrev mX7_year : Nat := 150
abbrev mX7_keep : Nat := 151
abbrev mX7_back : Nat := 152
abbrev mX7_count : Nat := 153
def gflT : List ((Nat × Nat) × (Nat × Nat × Nat)) := [((0, 11), (0, 0, 3)), ((0, 15), (0, 1, 3)), ((0, 18), (0, 2, 3)), ((0, 21), (0, 3, 3)), ((0, 24), (0, 4, 0)), ((0, 28), (0, 5, 0)), ((0, 31), (4, 7, 0)), ((0, 36), (4, 3, 3)), ((0, 39), (3, 0, 3)), ((1, 11), (1, 0, 3)), ((1, 15), (1, 1, 3)), ((1, 18), (1, 2, 0)), ((1, 27), (1, 3, 0)), ((2, 15), (2, 0, 3)), ((2, 22), (2, 1, 0)), ((2, 30), (2, 2, 0)), ((3, 9), (3, 0, 3)), ((3, 15), (3, 1, 3)), ((3, 18), (3, 2, 3)), ((3, 21), (3, 3, 0)), ((3, 25), (4, 1, 3)), ((3, 48), (4, 3, 3)), ((3, 65), (4, 6, 0)), ((3, 68), (4, 4, 3)), ((3, 82), (4, 7, 0)), ((4, 9), (4, 0, 3)), ((4, 15), (4, 1, 3)), ((4, 18), (4, 2, 3)), ((4, 21), (4, 3, 3)), ((4, 24), (4, 4, 3)), ((4, 27), (4, 5, 3)), ((4, 30), (4, 6, 0)), ((4, 34), (4, 7, 0)), ((4, 37), (4, 8, 0)), ((5, 11), (5, 0, 3)), ((5, 15), (5, 1, 3)), ((5, 18), (5, 2, 3)), ((5, 21), (5, 3, 3)), ((5, 24), (5, 4, 3)), ((5, 27), (5, 5, 3)), ((5, 30), (5, 6, 0)), ((5, 40), (5, 7, 0)), ((5, 43), (3, 0, 3)), ((5, 66), (4, 7, 0)), ((6, 10), (6, 0, 3)), ((6, 19), (6, 1, 2)), ((6, 23), (6, 2, 2)), ((6, 29), (6, 3, 3)), ((6, 33), (6, 4, 3)), ((6, 41), (6, 5, 3)), ((6, 45), (6, 6, 3)), ((6, 51), (6, 7, 3)), ((6, 58), (6, 8, 3)), ((6, 62), (6, 9, 3)), ((6, 86), (1, 2, 0)), ((6, 97), (4, 6, 0)), ((6, 100), (2, 2, 0)), ((6, 103), (5, 6, 0)), ((6, 107), (4, 0, 3)), ((6, 114), (3, 1, 3)), ((6, 117), (3, 2, 3)), ((6, 120), (3, 0, 3)), ((6, 126), (4, 3, 3)), ((6, 129), (4, 2, 3)), ((6, 132), (4, 4, 3)), ((6, 157), (4, 8, 0)), ((6, 183), (4, 7, 0)), ((6, 190), (0, 4, 0)), ((6, 193), (0, 2, 3)), ((6, 216), (5, 7, 0)), ((6, 219), (5, 5, 3)), ((6, 256), (3, 3, 0)), ((6, 266), (4, 5, 3)), ((7, 7), (7, 0, 3)), ((7, 13), (7, 2, 3)), ((7, 17), (7, 3, 3)), ((7, 20), (7, 4, 3)), ((7, 23), (7, 5, 3)), ((7, 26), (7, 6, 3)), ((7, 29), (7, 7, 3)), ((7, 32), (7, 8, 3)), ((7, 35), (7, 9, 3)), ((7, 38), (7, 12, 3)), ((7, 41), (7, 15, 3)), ((7, 44), (7, 16, 3)), ((7, 47), (7, 19, 3)), ((7, 50), (7, 20, 3)), ((7, 53), (7, 21, 3)), ((7, 70), (7, 1, 0)), ((7, 74), (7, 10, 0)), ((7, 81), (7, 11, 1)), ((7, 92), (7, 13, 0)), ((7, 95), (7, 14, 0)), ((7, 98), (7, 22, 0)), ((7, 150), (7, 17, 0)), ((7, 153), (7, 18, 0))]
def glkT : List ((Nat × Nat) × (Nat × Nat × Nat × Nat × Nat)) := [((0, 5), (5, 0, 0, 0, 0)), ((0, 44), (6, 0, 5, 0, 0)), ((0, 50), (0, 65, 6, 0, 0)), ((0, 54), (0, 66, 2, 1, 0)), ((0, 58), (0, 67, 4, 1, 0)), ((0, 62), (0, 35, 4, 1, 4)), ((0, 66), (0, 47, 2, 0, 4)), ((1, 3), (5, 0, 0, 0, 0)), ((1, 22), (0, 10, 0, 0, 4)), ((1, 30), (0, 11, 1, 1, 1)), ((1, 34), (0, 12, 0, 1, 1)), ((1, 38), (1, 13, 1, 1, 1)), ((1, 42), (0, 14, 0, 1, 1)), ((1, 45), (0, 16, 2, 1, 4)), ((1, 49), (3, 15, 3, 1, 6)), ((2, 1), (5, 0, 0, 0, 0)), ((2, 7), (1, 5, 2, 1, 10)), ((2, 21), (4, 3, 0, 0, 3)), ((2, 26), (0, 41, 1, 0, 3)), ((2, 33), (1, 42, 2, 1, 10)), ((3, 3), (5, 0, 0, 0, 0)), ((3, 30), (6, 0, 5, 0, 0)), ((3, 36), (3, 30, 2, 1, 6)), ((3, 40), (0, 35, 4, 1, 4)), ((3, 44), (0, 47, 2, 0, 4)), ((3, 51), (0, 37, 0, 1, 4)), ((3, 55), (0, 44, 1, 0, 3)), ((3, 59), (0, 48, 1, 0, 3)), ((3, 62), (0, 50, 1, 0, 3)), ((3, 71), (0, 45, 0, 1, 3)), ((3, 74), (0, 46, 3, 1, 3)), ((3, 78), (1, 91, 3, 1, 3)), ((3, 95), (0, 49, 3, 0, 4)), ((3, 98), (0, 51, 3, 0, 4)), ((3, 101), (0, 29, 1, 1, 3)), ((4, 3), (5, 0, 0, 0, 0)), ((4, 40), (0, 17, 1, 1, 4)), ((4, 44), (0, 19, 1, 1, 4)), ((4, 47), (0, 20, 1, 1, 4)), ((4, 50), (0, 21, 1, 1, 4)), ((4, 53), (1, 18, 3, 1, 4)), ((4, 57), (6, 0, 5, 0, 0)), ((4, 63), (0, 37, 0, 1, 4)), ((4, 67), (0, 36, 2, 0, 4)), ((4, 71), (0, 38, 3, 1, 4)), ((4, 75), (1, 42, 2, 1, 10)), ((5, 3), (5, 0, 0, 0, 0)), ((5, 34), (1, 5, 2, 1, 10)), ((5, 48), (6, 0, 5, 0, 0)), ((5, 54), (0, 45, 0, 1, 3)), ((5, 58), (0, 77, 1, 1, 5)), ((5, 62), (0, 79, 5, 0, 5)), ((5, 71), (0, 80, 5, 1, 5)), ((5, 75), (0, 35, 4, 1, 4)), ((5, 79), (0, 47, 2, 0, 4)), ((5, 83), (0, 49, 3, 0, 4)), ((5, 87), (3, 30, 2, 1, 6)), ((5, 91), (0, 81, 3, 1, 5)), ((5, 95), (0, 51, 3, 0, 4)), ((6, 1), (5, 0, 0, 0, 0)), ((6, 9), (4, 1, 0, 0, 1)), ((6, 18), (4, 2, 0, 0, 4)), ((6, 28), (4, 3, 0, 0, 3)), ((6, 38), (2, 4, 1, 0, 2)), ((6, 50), (4, 6, 0, 0, 0)), ((6, 57), (4, 7, 0, 0, 5)), ((6, 78), (0, 8, 1, 1, 1)), ((6, 82), (0, 9, 1, 1, 1)), ((6, 89), (0, 22, 1, 0, 3)), ((6, 93), (1, 15, 3, 1, 6)), ((6, 104), (0, 28, 1, 1, 6)), ((6, 110), (0, 29, 1, 1, 3)), ((6, 123), (0, 32, 1, 1, 6)), ((6, 135), (0, 35, 4, 1, 4)), ((6, 139), (0, 40, 1, 0, 2)), ((6, 143), (0, 43, 2, 0, 3)), ((6, 147), (0, 45, 0, 1, 3)), ((6, 150), (0, 46, 3, 1, 3)), ((6, 154), (1, 54, 1, 1, 6)), ((6, 160), (0, 57, 2, 1, 3)), ((6, 164), (0, 59, 1, 1, 2)), ((6, 168), (0, 41, 1, 0, 3)), ((6, 171), (0, 44, 1, 0, 3)), ((6, 174), (0, 48, 1, 0, 3)), ((6, 177), (0, 62, 1, 1, 3)), ((6, 180), (0, 50, 1, 0, 3)), ((6, 186), (0, 64, 3, 0, 0)), ((6, 196), (0, 69, 2, 1, 6)), ((6, 200), (1, 71, 1, 1, 9)), ((6, 205), (0, 72, 2, 1, 6)), ((6, 208), (0, 74, 3, 1, 5)), ((6, 210), (0, 77, 1, 1, 5)), ((6, 213), (0, 78, 3, 0, 5)), ((6, 222), (6, 0, 5, 0, 0)), ((6, 228), (0, 51, 3, 0, 4)), ((6, 232), (0, 84, 3, 1, 6)), ((6, 236), (1, 85, 2, 2, 6)), ((6, 239), (1, 86, 2, 2, 6)), ((6, 242), (1, 87, 2, 2, 6)), ((6, 246), (0, 90, 3, 0, 3)), ((6, 250), (0, 92, 1, 1, 3)), ((6, 253), (0, 93, 1, 1, 3)), ((6, 259), (0, 97, 1, 1, 3)), ((6, 262), (0, 36, 2, 0, 4)), ((6, 269), (0, 47, 2, 0, 4)), ((6, 273), (1, 88, 2, 2, 10)), ((7, 1), (5, 0, 0, 0, 0)), ((7, 56), (0, 99, 4, 0, 7)), ((7, 60), (0, 100, 4, 0, 7)), ((7, 63), (0, 101, 0, 0, 7)), ((7, 66), (1, 103, 3, 1, 7)), ((7, 77), (0, 107, 0, 1, 7)), ((7, 85), (0, 108, 3, 1, 7)), ((7, 89), (0, 106, 0, 0, 7)), ((7, 101), (0, 105, 0, 1, 7)), ((7, 104), (0, 111, 1, 1, 7)), ((7, 108), (0, 112, 2, 1, 7)), ((7, 112), (0, 114, 1, 1, 7)), ((7, 115), (0, 118, 2, 0, 7)), ((7, 119), (0, 119, 2, 1, 7)), ((7, 122), (0, 117, 3, 1, 7)), ((7, 125), (0, 124, 3, 1, 7)), ((7, 128), (0, 126, 2, 0, 7)), ((7, 131), (0, 122, 2, 0, 7)), ((7, 134), (0, 121, 0, 0, 7)), ((7, 137), (0, 123, 1, 0, 7)), ((7, 141), (0, 125, 1, 0, 7)), ((7, 144), (0, 127, 1, 0, 7)), ((7, 147), (1, 130, 1, 1, 7)), ((7, 156), (0, 137, 2, 1, 7)), ((7, 160), (0, 140, 2, 1, 7)), ((7, 163), (1, 141, 1, 1, 7)), ((7, 167), (0, 146, 1, 1, 7)), ((7, 170), (0, 145, 1, 1, 7)), ((7, 173), (0, 147, 3, 1, 7)), ((8, 9), (2, 0, 0, 0, 6)), ((8, 12), (2, 98, 0, 0, 7)), ((8, 13), (0, 23, 1, 1, 6)), ((8, 17), (0, 102, 1, 1, 7)), ((8, 18), (0, 24, 0, 1, 6)), ((8, 22), (0, 104, 0, 1, 7)), ((8, 23), (0, 25, 0, 1, 6)), ((8, 26), (0, 105, 0, 1, 7)), ((8, 27), (0, 26, 0, 1, 6)), ((8, 30), (0, 109, 0, 1, 7)), ((8, 31), (0, 27, 2, 1, 6)), ((8, 35), (0, 110, 2, 1, 7)), ((8, 36), (0, 31, 2, 1, 6)), ((8, 39), (0, 113, 2, 1, 7)), ((8, 40), (0, 33, 2, 1, 6)), ((8, 43), (0, 115, 2, 1, 7)), ((8, 44), (0, 34, 2, 1, 6)), ((8, 47), (0, 116, 2, 1, 7)), ((8, 48), (0, 39, 1, 1, 6)), ((8, 51), (0, 120, 1, 1, 7)), ((8, 52), (0, 52, 2, 1, 6)), ((8, 55), (0, 128, 2, 1, 7)), ((8, 56), (0, 53, 4, 1, 6)), ((8, 60), (0, 129, 4, 1, 7)), ((8, 61), (0, 55, 3, 1, 6)), ((8, 65), (0, 131, 3, 1, 7)), ((8, 66), (0, 56, 2, 1, 6)), ((8, 69), (0, 132, 2, 1, 7)), ((8, 70), (0, 58, 0, 1, 6)), ((8, 73), (0, 133, 0, 1, 7)), ((8, 74), (0, 60, 3, 1, 6)), ((8, 77), (0, 134, 3, 1, 7)), ((8, 78), (0, 61, 1, 1, 6)), ((8, 81), (0, 135, 1, 1, 7)), ((8, 82), (0, 63, 2, 1, 6)), ((8, 85), (0, 136, 2, 1, 7)), ((8, 86), (0, 68, 0, 1, 6)), ((8, 89), (0, 138, 0, 1, 7)), ((8, 90), (0, 70, 3, 1, 6)), ((8, 93), (0, 139, 3, 1, 7)), ((8, 94), (0, 73, 3, 1, 6)), ((8, 97), (0, 142, 3, 1, 7)), ((8, 98), (0, 75, 0, 1, 6)), ((8, 101), (0, 143, 0, 1, 7)), ((8, 102), (0, 76, 2, 1, 6)), ((8, 105), (0, 144, 2, 1, 7)), ((8, 106), (0, 82, 3, 1, 6)), ((8, 109), (0, 148, 3, 1, 7)), ((8, 110), (0, 83, 5, 1, 6)), ((8, 114), (0, 149, 5, 1, 7)), ((8, 115), (0, 89, 3, 1, 6)), ((8, 118), (0, 150, 3, 1, 7)), ((8, 119), (0, 94, 0, 1, 6)), ((8, 122), (0, 151, 0, 1, 7)), ((8, 123), (0, 95, 0, 1, 6)), ((8, 126), (0, 152, 0, 1, 7)), ((8, 127), (0, 96, 1, 1, 6)), ((8, 130), (0, 153, 1, 1, 7))]
def gnest : List (Nat × Nat × MethodName) := [(6, 9, yX1_init), (6, 18, yX4_init), (6, 28, yX3_init), (2, 21, yX3_init), (6, 50, yX0_init), (6, 57, yX5_init), (1, 49, yX6_within), (3, 36, yX6_hueOf), (5, 87, yX6_hueOf)]
def gnwT : List ((Nat × Nat) × Nat) := [((2, 13), 3), ((6, 7), 1), ((6, 16), 4), ((6, 26), 3), ((6, 36), 2), ((6, 48), 0), ((6, 55), 5), ((8, 7), 6), ((8, 10), 7)]
def gclT : List ((Nat × Nat) × Int64) := [((3, 85), 7919), ((3, 87), 6151), ((3, 89), 331), ((3, 91), 65521), ((3, 93), 8), ((7, 176), 7919), ((7, 178), 6151), ((7, 180), 331), ((7, 182), 65521)]
def gciT : List ((Nat × Nat) × Int32) := [((9, 265), 1431655765), ((9, 266), 858993459), ((9, 267), 252645135)]
def gdef : Nat → List (Option Value) := fun c => match c with
  | 0 => [some .null, some .null, some .null, some .null, none, none]
  | 1 => [some .null, some .null, none, none]
  | 2 => [some .null, none, none]
  | 3 => [some .null, some .null, some .null, none]
  | 4 => [some .null, some .null, some .null, some .null, some .null, some .null, none, none, none]
  | 5 => [some .null, some .null, some .null, some .null, some .null, some .null, none, none]
  | 6 => [some .null, some .null, some .null, some .null, some .null, some .null, some .null, some .null, some .null, some .null]
  | _ => [some .null, none, some .null, some .null, some .null, some .null, some .null, some .null, some .null, some .null, none, none, some .null, none, none, some .null, some .null, none, none, some .null, some .null, some .null, none]
def gfl (o i : Nat) : Option (Nat × Nat × Nat) := gflT.lookup (o, i)
def glk (o i : Nat) : Option (Nat × Nat × Nat × Nat × Nat) := glkT.lookup (o, i)
def gnw (o i : Nat) : Option Nat := gnwT.lookup (o, i)
def gcl (o i : Nat) : Option Int64 := gclT.lookup (o, i)
def gci (o i : Nat) : Option Int32 := gciT.lookup (o, i)
theorem gfl_0_11 : gfl 0 11 = some (0, 0, 3) := by decide +kernel
theorem gfl_0_15 : gfl 0 15 = some (0, 1, 3) := by decide +kernel
theorem gfl_0_18 : gfl 0 18 = some (0, 2, 3) := by decide +kernel
theorem gfl_0_21 : gfl 0 21 = some (0, 3, 3) := by decide +kernel
theorem gfl_0_24 : gfl 0 24 = some (0, 4, 0) := by decide +kernel
theorem gfl_0_28 : gfl 0 28 = some (0, 5, 0) := by decide +kernel
theorem gfl_0_31 : gfl 0 31 = some (4, 7, 0) := by decide +kernel
theorem gfl_0_36 : gfl 0 36 = some (4, 3, 3) := by decide +kernel
theorem gfl_0_39 : gfl 0 39 = some (3, 0, 3) := by decide +kernel
theorem gfl_1_11 : gfl 1 11 = some (1, 0, 3) := by decide +kernel
theorem gfl_1_15 : gfl 1 15 = some (1, 1, 3) := by decide +kernel
theorem gfl_1_18 : gfl 1 18 = some (1, 2, 0) := by decide +kernel
theorem gfl_1_27 : gfl 1 27 = some (1, 3, 0) := by decide +kernel
theorem gfl_2_15 : gfl 2 15 = some (2, 0, 3) := by decide +kernel
theorem gfl_2_22 : gfl 2 22 = some (2, 1, 0) := by decide +kernel
theorem gfl_2_30 : gfl 2 30 = some (2, 2, 0) := by decide +kernel
theorem gfl_3_9 : gfl 3 9 = some (3, 0, 3) := by decide +kernel
theorem gfl_3_15 : gfl 3 15 = some (3, 1, 3) := by decide +kernel
theorem gfl_3_18 : gfl 3 18 = some (3, 2, 3) := by decide +kernel
theorem gfl_3_21 : gfl 3 21 = some (3, 3, 0) := by decide +kernel
theorem gfl_3_25 : gfl 3 25 = some (4, 1, 3) := by decide +kernel
theorem gfl_3_48 : gfl 3 48 = some (4, 3, 3) := by decide +kernel
theorem gfl_3_65 : gfl 3 65 = some (4, 6, 0) := by decide +kernel
theorem gfl_3_68 : gfl 3 68 = some (4, 4, 3) := by decide +kernel
theorem gfl_3_82 : gfl 3 82 = some (4, 7, 0) := by decide +kernel
theorem gfl_4_9 : gfl 4 9 = some (4, 0, 3) := by decide +kernel
theorem gfl_4_15 : gfl 4 15 = some (4, 1, 3) := by decide +kernel
theorem gfl_4_18 : gfl 4 18 = some (4, 2, 3) := by decide +kernel
theorem gfl_4_21 : gfl 4 21 = some (4, 3, 3) := by decide +kernel
theorem gfl_4_24 : gfl 4 24 = some (4, 4, 3) := by decide +kernel
theorem gfl_4_27 : gfl 4 27 = some (4, 5, 3) := by decide +kernel
theorem gfl_4_30 : gfl 4 30 = some (4, 6, 0) := by decide +kernel
theorem gfl_4_34 : gfl 4 34 = some (4, 7, 0) := by decide +kernel
theorem gfl_4_37 : gfl 4 37 = some (4, 8, 0) := by decide +kernel
theorem gfl_5_11 : gfl 5 11 = some (5, 0, 3) := by decide +kernel
theorem gfl_5_15 : gfl 5 15 = some (5, 1, 3) := by decide +kernel
theorem gfl_5_18 : gfl 5 18 = some (5, 2, 3) := by decide +kernel
theorem gfl_5_21 : gfl 5 21 = some (5, 3, 3) := by decide +kernel
theorem gfl_5_24 : gfl 5 24 = some (5, 4, 3) := by decide +kernel
theorem gfl_5_27 : gfl 5 27 = some (5, 5, 3) := by decide +kernel
theorem gfl_5_30 : gfl 5 30 = some (5, 6, 0) := by decide +kernel
theorem gfl_5_40 : gfl 5 40 = some (5, 7, 0) := by decide +kernel
theorem gfl_5_43 : gfl 5 43 = some (3, 0, 3) := by decide +kernel
theorem gfl_5_66 : gfl 5 66 = some (4, 7, 0) := by decide +kernel
theorem gfl_6_10 : gfl 6 10 = some (6, 0, 3) := by decide +kernel
theorem gfl_6_19 : gfl 6 19 = some (6, 1, 2) := by decide +kernel
theorem gfl_6_23 : gfl 6 23 = some (6, 2, 2) := by decide +kernel
theorem gfl_6_29 : gfl 6 29 = some (6, 3, 3) := by decide +kernel
theorem gfl_6_33 : gfl 6 33 = some (6, 4, 3) := by decide +kernel
theorem gfl_6_41 : gfl 6 41 = some (6, 5, 3) := by decide +kernel
theorem gfl_6_45 : gfl 6 45 = some (6, 6, 3) := by decide +kernel
theorem gfl_6_51 : gfl 6 51 = some (6, 7, 3) := by decide +kernel
theorem gfl_6_58 : gfl 6 58 = some (6, 8, 3) := by decide +kernel
theorem gfl_6_62 : gfl 6 62 = some (6, 9, 3) := by decide +kernel
theorem gfl_6_86 : gfl 6 86 = some (1, 2, 0) := by decide +kernel
theorem gfl_6_97 : gfl 6 97 = some (4, 6, 0) := by decide +kernel
theorem gfl_6_100 : gfl 6 100 = some (2, 2, 0) := by decide +kernel
theorem gfl_6_103 : gfl 6 103 = some (5, 6, 0) := by decide +kernel
theorem gfl_6_107 : gfl 6 107 = some (4, 0, 3) := by decide +kernel
theorem gfl_6_114 : gfl 6 114 = some (3, 1, 3) := by decide +kernel
theorem gfl_6_117 : gfl 6 117 = some (3, 2, 3) := by decide +kernel
theorem gfl_6_120 : gfl 6 120 = some (3, 0, 3) := by decide +kernel
theorem gfl_6_126 : gfl 6 126 = some (4, 3, 3) := by decide +kernel
theorem gfl_6_129 : gfl 6 129 = some (4, 2, 3) := by decide +kernel
theorem gfl_6_132 : gfl 6 132 = some (4, 4, 3) := by decide +kernel
theorem gfl_6_157 : gfl 6 157 = some (4, 8, 0) := by decide +kernel
theorem gfl_6_183 : gfl 6 183 = some (4, 7, 0) := by decide +kernel
theorem gfl_6_190 : gfl 6 190 = some (0, 4, 0) := by decide +kernel
theorem gfl_6_193 : gfl 6 193 = some (0, 2, 3) := by decide +kernel
theorem gfl_6_216 : gfl 6 216 = some (5, 7, 0) := by decide +kernel
theorem gfl_6_219 : gfl 6 219 = some (5, 5, 3) := by decide +kernel
theorem gfl_6_256 : gfl 6 256 = some (3, 3, 0) := by decide +kernel
theorem gfl_6_266 : gfl 6 266 = some (4, 5, 3) := by decide +kernel
theorem gfl_7_7 : gfl 7 7 = some (7, 0, 3) := by decide +kernel
theorem gfl_7_13 : gfl 7 13 = some (7, 2, 3) := by decide +kernel
theorem gfl_7_17 : gfl 7 17 = some (7, 3, 3) := by decide +kernel
theorem gfl_7_20 : gfl 7 20 = some (7, 4, 3) := by decide +kernel
theorem gfl_7_23 : gfl 7 23 = some (7, 5, 3) := by decide +kernel
theorem gfl_7_26 : gfl 7 26 = some (7, 6, 3) := by decide +kernel
theorem gfl_7_29 : gfl 7 29 = some (7, 7, 3) := by decide +kernel
theorem gfl_7_32 : gfl 7 32 = some (7, 8, 3) := by decide +kernel
theorem gfl_7_35 : gfl 7 35 = some (7, 9, 3) := by decide +kernel
theorem gfl_7_38 : gfl 7 38 = some (7, 12, 3) := by decide +kernel
theorem gfl_7_41 : gfl 7 41 = some (7, 15, 3) := by decide +kernel
theorem gfl_7_44 : gfl 7 44 = some (7, 16, 3) := by decide +kernel
theorem gfl_7_47 : gfl 7 47 = some (7, 19, 3) := by decide +kernel
theorem gfl_7_50 : gfl 7 50 = some (7, 20, 3) := by decide +kernel
theorem gfl_7_53 : gfl 7 53 = some (7, 21, 3) := by decide +kernel
theorem gfl_7_70 : gfl 7 70 = some (7, 1, 0) := by decide +kernel
theorem gfl_7_74 : gfl 7 74 = some (7, 10, 0) := by decide +kernel
theorem gfl_7_81 : gfl 7 81 = some (7, 11, 1) := by decide +kernel
theorem gfl_7_92 : gfl 7 92 = some (7, 13, 0) := by decide +kernel
theorem gfl_7_95 : gfl 7 95 = some (7, 14, 0) := by decide +kernel
theorem gfl_7_98 : gfl 7 98 = some (7, 22, 0) := by decide +kernel
theorem gfl_7_150 : gfl 7 150 = some (7, 17, 0) := by decide +kernel
theorem gfl_7_153 : gfl 7 153 = some (7, 18, 0) := by decide +kernel
theorem glk_0_5 : glk 0 5 = some (5, 0, 0, 0, 0) := by decide +kernel
theorem glk_0_44 : glk 0 44 = some (6, 0, 5, 0, 0) := by decide +kernel
theorem glk_0_50 : glk 0 50 = some (0, 65, 6, 0, 0) := by decide +kernel
theorem glk_0_54 : glk 0 54 = some (0, 66, 2, 1, 0) := by decide +kernel
theorem glk_0_58 : glk 0 58 = some (0, 67, 4, 1, 0) := by decide +kernel
theorem glk_0_62 : glk 0 62 = some (0, 35, 4, 1, 4) := by decide +kernel
theorem glk_0_66 : glk 0 66 = some (0, 47, 2, 0, 4) := by decide +kernel
theorem glk_1_3 : glk 1 3 = some (5, 0, 0, 0, 0) := by decide +kernel
theorem glk_1_22 : glk 1 22 = some (0, 10, 0, 0, 4) := by decide +kernel
theorem glk_1_30 : glk 1 30 = some (0, 11, 1, 1, 1) := by decide +kernel
theorem glk_1_34 : glk 1 34 = some (0, 12, 0, 1, 1) := by decide +kernel
theorem glk_1_38 : glk 1 38 = some (1, 13, 1, 1, 1) := by decide +kernel
theorem glk_1_42 : glk 1 42 = some (0, 14, 0, 1, 1) := by decide +kernel
theorem glk_1_45 : glk 1 45 = some (0, 16, 2, 1, 4) := by decide +kernel
theorem glk_1_49 : glk 1 49 = some (3, 15, 3, 1, 6) := by decide +kernel
theorem glk_2_1 : glk 2 1 = some (5, 0, 0, 0, 0) := by decide +kernel
theorem glk_2_7 : glk 2 7 = some (1, 5, 2, 1, 10) := by decide +kernel
theorem glk_2_21 : glk 2 21 = some (4, 3, 0, 0, 3) := by decide +kernel
theorem glk_2_26 : glk 2 26 = some (0, 41, 1, 0, 3) := by decide +kernel
theorem glk_2_33 : glk 2 33 = some (1, 42, 2, 1, 10) := by decide +kernel
theorem glk_3_3 : glk 3 3 = some (5, 0, 0, 0, 0) := by decide +kernel
theorem glk_3_30 : glk 3 30 = some (6, 0, 5, 0, 0) := by decide +kernel
theorem glk_3_36 : glk 3 36 = some (3, 30, 2, 1, 6) := by decide +kernel
theorem glk_3_40 : glk 3 40 = some (0, 35, 4, 1, 4) := by decide +kernel
theorem glk_3_44 : glk 3 44 = some (0, 47, 2, 0, 4) := by decide +kernel
theorem glk_3_51 : glk 3 51 = some (0, 37, 0, 1, 4) := by decide +kernel
theorem glk_3_55 : glk 3 55 = some (0, 44, 1, 0, 3) := by decide +kernel
theorem glk_3_59 : glk 3 59 = some (0, 48, 1, 0, 3) := by decide +kernel
theorem glk_3_62 : glk 3 62 = some (0, 50, 1, 0, 3) := by decide +kernel
theorem glk_3_71 : glk 3 71 = some (0, 45, 0, 1, 3) := by decide +kernel
theorem glk_3_74 : glk 3 74 = some (0, 46, 3, 1, 3) := by decide +kernel
theorem glk_3_78 : glk 3 78 = some (1, 91, 3, 1, 3) := by decide +kernel
theorem glk_3_95 : glk 3 95 = some (0, 49, 3, 0, 4) := by decide +kernel
theorem glk_3_98 : glk 3 98 = some (0, 51, 3, 0, 4) := by decide +kernel
theorem glk_3_101 : glk 3 101 = some (0, 29, 1, 1, 3) := by decide +kernel
theorem glk_4_3 : glk 4 3 = some (5, 0, 0, 0, 0) := by decide +kernel
theorem glk_4_40 : glk 4 40 = some (0, 17, 1, 1, 4) := by decide +kernel
theorem glk_4_44 : glk 4 44 = some (0, 19, 1, 1, 4) := by decide +kernel
theorem glk_4_47 : glk 4 47 = some (0, 20, 1, 1, 4) := by decide +kernel
theorem glk_4_50 : glk 4 50 = some (0, 21, 1, 1, 4) := by decide +kernel
theorem glk_4_53 : glk 4 53 = some (1, 18, 3, 1, 4) := by decide +kernel
theorem glk_4_57 : glk 4 57 = some (6, 0, 5, 0, 0) := by decide +kernel
theorem glk_4_63 : glk 4 63 = some (0, 37, 0, 1, 4) := by decide +kernel
theorem glk_4_67 : glk 4 67 = some (0, 36, 2, 0, 4) := by decide +kernel
theorem glk_4_71 : glk 4 71 = some (0, 38, 3, 1, 4) := by decide +kernel
theorem glk_4_75 : glk 4 75 = some (1, 42, 2, 1, 10) := by decide +kernel
theorem glk_5_3 : glk 5 3 = some (5, 0, 0, 0, 0) := by decide +kernel
theorem glk_5_34 : glk 5 34 = some (1, 5, 2, 1, 10) := by decide +kernel
theorem glk_5_48 : glk 5 48 = some (6, 0, 5, 0, 0) := by decide +kernel
theorem glk_5_54 : glk 5 54 = some (0, 45, 0, 1, 3) := by decide +kernel
theorem glk_5_58 : glk 5 58 = some (0, 77, 1, 1, 5) := by decide +kernel
theorem glk_5_62 : glk 5 62 = some (0, 79, 5, 0, 5) := by decide +kernel
theorem glk_5_71 : glk 5 71 = some (0, 80, 5, 1, 5) := by decide +kernel
theorem glk_5_75 : glk 5 75 = some (0, 35, 4, 1, 4) := by decide +kernel
theorem glk_5_79 : glk 5 79 = some (0, 47, 2, 0, 4) := by decide +kernel
theorem glk_5_83 : glk 5 83 = some (0, 49, 3, 0, 4) := by decide +kernel
theorem glk_5_87 : glk 5 87 = some (3, 30, 2, 1, 6) := by decide +kernel
theorem glk_5_91 : glk 5 91 = some (0, 81, 3, 1, 5) := by decide +kernel
theorem glk_5_95 : glk 5 95 = some (0, 51, 3, 0, 4) := by decide +kernel
theorem glk_6_1 : glk 6 1 = some (5, 0, 0, 0, 0) := by decide +kernel
theorem glk_6_9 : glk 6 9 = some (4, 1, 0, 0, 1) := by decide +kernel
theorem glk_6_18 : glk 6 18 = some (4, 2, 0, 0, 4) := by decide +kernel
theorem glk_6_28 : glk 6 28 = some (4, 3, 0, 0, 3) := by decide +kernel
theorem glk_6_38 : glk 6 38 = some (2, 4, 1, 0, 2) := by decide +kernel
theorem glk_6_50 : glk 6 50 = some (4, 6, 0, 0, 0) := by decide +kernel
theorem glk_6_57 : glk 6 57 = some (4, 7, 0, 0, 5) := by decide +kernel
theorem glk_6_78 : glk 6 78 = some (0, 8, 1, 1, 1) := by decide +kernel
theorem glk_6_82 : glk 6 82 = some (0, 9, 1, 1, 1) := by decide +kernel
theorem glk_6_89 : glk 6 89 = some (0, 22, 1, 0, 3) := by decide +kernel
theorem glk_6_93 : glk 6 93 = some (1, 15, 3, 1, 6) := by decide +kernel
theorem glk_6_104 : glk 6 104 = some (0, 28, 1, 1, 6) := by decide +kernel
theorem glk_6_110 : glk 6 110 = some (0, 29, 1, 1, 3) := by decide +kernel
theorem glk_6_123 : glk 6 123 = some (0, 32, 1, 1, 6) := by decide +kernel
theorem glk_6_135 : glk 6 135 = some (0, 35, 4, 1, 4) := by decide +kernel
theorem glk_6_139 : glk 6 139 = some (0, 40, 1, 0, 2) := by decide +kernel
theorem glk_6_143 : glk 6 143 = some (0, 43, 2, 0, 3) := by decide +kernel
theorem glk_6_147 : glk 6 147 = some (0, 45, 0, 1, 3) := by decide +kernel
theorem glk_6_150 : glk 6 150 = some (0, 46, 3, 1, 3) := by decide +kernel
theorem glk_6_154 : glk 6 154 = some (1, 54, 1, 1, 6) := by decide +kernel
theorem glk_6_160 : glk 6 160 = some (0, 57, 2, 1, 3) := by decide +kernel
theorem glk_6_164 : glk 6 164 = some (0, 59, 1, 1, 2) := by decide +kernel
theorem glk_6_168 : glk 6 168 = some (0, 41, 1, 0, 3) := by decide +kernel
theorem glk_6_171 : glk 6 171 = some (0, 44, 1, 0, 3) := by decide +kernel
theorem glk_6_174 : glk 6 174 = some (0, 48, 1, 0, 3) := by decide +kernel
theorem glk_6_177 : glk 6 177 = some (0, 62, 1, 1, 3) := by decide +kernel
theorem glk_6_180 : glk 6 180 = some (0, 50, 1, 0, 3) := by decide +kernel
theorem glk_6_186 : glk 6 186 = some (0, 64, 3, 0, 0) := by decide +kernel
theorem glk_6_196 : glk 6 196 = some (0, 69, 2, 1, 6) := by decide +kernel
theorem glk_6_200 : glk 6 200 = some (1, 71, 1, 1, 9) := by decide +kernel
theorem glk_6_205 : glk 6 205 = some (0, 72, 2, 1, 6) := by decide +kernel
theorem glk_6_208 : glk 6 208 = some (0, 74, 3, 1, 5) := by decide +kernel
theorem glk_6_210 : glk 6 210 = some (0, 77, 1, 1, 5) := by decide +kernel
theorem glk_6_213 : glk 6 213 = some (0, 78, 3, 0, 5) := by decide +kernel
theorem glk_6_222 : glk 6 222 = some (6, 0, 5, 0, 0) := by decide +kernel
theorem glk_6_228 : glk 6 228 = some (0, 51, 3, 0, 4) := by decide +kernel
theorem glk_6_232 : glk 6 232 = some (0, 84, 3, 1, 6) := by decide +kernel
theorem glk_6_236 : glk 6 236 = some (1, 85, 2, 2, 6) := by decide +kernel
theorem glk_6_239 : glk 6 239 = some (1, 86, 2, 2, 6) := by decide +kernel
theorem glk_6_242 : glk 6 242 = some (1, 87, 2, 2, 6) := by decide +kernel
theorem glk_6_246 : glk 6 246 = some (0, 90, 3, 0, 3) := by decide +kernel
theorem glk_6_250 : glk 6 250 = some (0, 92, 1, 1, 3) := by decide +kernel
theorem glk_6_253 : glk 6 253 = some (0, 93, 1, 1, 3) := by decide +kernel
theorem glk_6_259 : glk 6 259 = some (0, 97, 1, 1, 3) := by decide +kernel
theorem glk_6_262 : glk 6 262 = some (0, 36, 2, 0, 4) := by decide +kernel
theorem glk_6_269 : glk 6 269 = some (0, 47, 2, 0, 4) := by decide +kernel
theorem glk_6_273 : glk 6 273 = some (1, 88, 2, 2, 10) := by decide +kernel
theorem glk_7_1 : glk 7 1 = some (5, 0, 0, 0, 0) := by decide +kernel
theorem glk_7_56 : glk 7 56 = some (0, 99, 4, 0, 7) := by decide +kernel
theorem glk_7_60 : glk 7 60 = some (0, 100, 4, 0, 7) := by decide +kernel
theorem glk_7_63 : glk 7 63 = some (0, 101, 0, 0, 7) := by decide +kernel
theorem glk_7_66 : glk 7 66 = some (1, 103, 3, 1, 7) := by decide +kernel
theorem glk_7_77 : glk 7 77 = some (0, 107, 0, 1, 7) := by decide +kernel
theorem glk_7_85 : glk 7 85 = some (0, 108, 3, 1, 7) := by decide +kernel
theorem glk_7_89 : glk 7 89 = some (0, 106, 0, 0, 7) := by decide +kernel
theorem glk_7_101 : glk 7 101 = some (0, 105, 0, 1, 7) := by decide +kernel
theorem glk_7_104 : glk 7 104 = some (0, 111, 1, 1, 7) := by decide +kernel
theorem glk_7_108 : glk 7 108 = some (0, 112, 2, 1, 7) := by decide +kernel
theorem glk_7_112 : glk 7 112 = some (0, 114, 1, 1, 7) := by decide +kernel
theorem glk_7_115 : glk 7 115 = some (0, 118, 2, 0, 7) := by decide +kernel
theorem glk_7_119 : glk 7 119 = some (0, 119, 2, 1, 7) := by decide +kernel
theorem glk_7_122 : glk 7 122 = some (0, 117, 3, 1, 7) := by decide +kernel
theorem glk_7_125 : glk 7 125 = some (0, 124, 3, 1, 7) := by decide +kernel
theorem glk_7_128 : glk 7 128 = some (0, 126, 2, 0, 7) := by decide +kernel
theorem glk_7_131 : glk 7 131 = some (0, 122, 2, 0, 7) := by decide +kernel
theorem glk_7_134 : glk 7 134 = some (0, 121, 0, 0, 7) := by decide +kernel
theorem glk_7_137 : glk 7 137 = some (0, 123, 1, 0, 7) := by decide +kernel
theorem glk_7_141 : glk 7 141 = some (0, 125, 1, 0, 7) := by decide +kernel
theorem glk_7_144 : glk 7 144 = some (0, 127, 1, 0, 7) := by decide +kernel
theorem glk_7_147 : glk 7 147 = some (1, 130, 1, 1, 7) := by decide +kernel
theorem glk_7_156 : glk 7 156 = some (0, 137, 2, 1, 7) := by decide +kernel
theorem glk_7_160 : glk 7 160 = some (0, 140, 2, 1, 7) := by decide +kernel
theorem glk_7_163 : glk 7 163 = some (1, 141, 1, 1, 7) := by decide +kernel
theorem glk_7_167 : glk 7 167 = some (0, 146, 1, 1, 7) := by decide +kernel
theorem glk_7_170 : glk 7 170 = some (0, 145, 1, 1, 7) := by decide +kernel
theorem glk_7_173 : glk 7 173 = some (0, 147, 3, 1, 7) := by decide +kernel
theorem glk_8_9 : glk 8 9 = some (2, 0, 0, 0, 6) := by decide +kernel
theorem glk_8_12 : glk 8 12 = some (2, 98, 0, 0, 7) := by decide +kernel
theorem glk_8_13 : glk 8 13 = some (0, 23, 1, 1, 6) := by decide +kernel
theorem glk_8_17 : glk 8 17 = some (0, 102, 1, 1, 7) := by decide +kernel
theorem glk_8_18 : glk 8 18 = some (0, 24, 0, 1, 6) := by decide +kernel
theorem glk_8_22 : glk 8 22 = some (0, 104, 0, 1, 7) := by decide +kernel
theorem glk_8_23 : glk 8 23 = some (0, 25, 0, 1, 6) := by decide +kernel
theorem glk_8_26 : glk 8 26 = some (0, 105, 0, 1, 7) := by decide +kernel
theorem glk_8_27 : glk 8 27 = some (0, 26, 0, 1, 6) := by decide +kernel
theorem glk_8_30 : glk 8 30 = some (0, 109, 0, 1, 7) := by decide +kernel
theorem glk_8_31 : glk 8 31 = some (0, 27, 2, 1, 6) := by decide +kernel
theorem glk_8_35 : glk 8 35 = some (0, 110, 2, 1, 7) := by decide +kernel
theorem glk_8_36 : glk 8 36 = some (0, 31, 2, 1, 6) := by decide +kernel
theorem glk_8_39 : glk 8 39 = some (0, 113, 2, 1, 7) := by decide +kernel
theorem glk_8_40 : glk 8 40 = some (0, 33, 2, 1, 6) := by decide +kernel
theorem glk_8_43 : glk 8 43 = some (0, 115, 2, 1, 7) := by decide +kernel
theorem glk_8_44 : glk 8 44 = some (0, 34, 2, 1, 6) := by decide +kernel
theorem glk_8_47 : glk 8 47 = some (0, 116, 2, 1, 7) := by decide +kernel
theorem glk_8_48 : glk 8 48 = some (0, 39, 1, 1, 6) := by decide +kernel
theorem glk_8_51 : glk 8 51 = some (0, 120, 1, 1, 7) := by decide +kernel
theorem glk_8_52 : glk 8 52 = some (0, 52, 2, 1, 6) := by decide +kernel
theorem glk_8_55 : glk 8 55 = some (0, 128, 2, 1, 7) := by decide +kernel
theorem glk_8_56 : glk 8 56 = some (0, 53, 4, 1, 6) := by decide +kernel
theorem glk_8_60 : glk 8 60 = some (0, 129, 4, 1, 7) := by decide +kernel
theorem glk_8_61 : glk 8 61 = some (0, 55, 3, 1, 6) := by decide +kernel
theorem glk_8_65 : glk 8 65 = some (0, 131, 3, 1, 7) := by decide +kernel
theorem glk_8_66 : glk 8 66 = some (0, 56, 2, 1, 6) := by decide +kernel
theorem glk_8_69 : glk 8 69 = some (0, 132, 2, 1, 7) := by decide +kernel
theorem glk_8_70 : glk 8 70 = some (0, 58, 0, 1, 6) := by decide +kernel
theorem glk_8_73 : glk 8 73 = some (0, 133, 0, 1, 7) := by decide +kernel
theorem glk_8_74 : glk 8 74 = some (0, 60, 3, 1, 6) := by decide +kernel
theorem glk_8_77 : glk 8 77 = some (0, 134, 3, 1, 7) := by decide +kernel
theorem glk_8_78 : glk 8 78 = some (0, 61, 1, 1, 6) := by decide +kernel
theorem glk_8_81 : glk 8 81 = some (0, 135, 1, 1, 7) := by decide +kernel
theorem glk_8_82 : glk 8 82 = some (0, 63, 2, 1, 6) := by decide +kernel
theorem glk_8_85 : glk 8 85 = some (0, 136, 2, 1, 7) := by decide +kernel
theorem glk_8_86 : glk 8 86 = some (0, 68, 0, 1, 6) := by decide +kernel
theorem glk_8_89 : glk 8 89 = some (0, 138, 0, 1, 7) := by decide +kernel
theorem glk_8_90 : glk 8 90 = some (0, 70, 3, 1, 6) := by decide +kernel
theorem glk_8_93 : glk 8 93 = some (0, 139, 3, 1, 7) := by decide +kernel
theorem glk_8_94 : glk 8 94 = some (0, 73, 3, 1, 6) := by decide +kernel
theorem glk_8_97 : glk 8 97 = some (0, 142, 3, 1, 7) := by decide +kernel
theorem glk_8_98 : glk 8 98 = some (0, 75, 0, 1, 6) := by decide +kernel
theorem glk_8_101 : glk 8 101 = some (0, 143, 0, 1, 7) := by decide +kernel
theorem glk_8_102 : glk 8 102 = some (0, 76, 2, 1, 6) := by decide +kernel
theorem glk_8_105 : glk 8 105 = some (0, 144, 2, 1, 7) := by decide +kernel
theorem glk_8_106 : glk 8 106 = some (0, 82, 3, 1, 6) := by decide +kernel
theorem glk_8_109 : glk 8 109 = some (0, 148, 3, 1, 7) := by decide +kernel
theorem glk_8_110 : glk 8 110 = some (0, 83, 5, 1, 6) := by decide +kernel
theorem glk_8_114 : glk 8 114 = some (0, 149, 5, 1, 7) := by decide +kernel
theorem glk_8_115 : glk 8 115 = some (0, 89, 3, 1, 6) := by decide +kernel
theorem glk_8_118 : glk 8 118 = some (0, 150, 3, 1, 7) := by decide +kernel
theorem glk_8_119 : glk 8 119 = some (0, 94, 0, 1, 6) := by decide +kernel
theorem glk_8_122 : glk 8 122 = some (0, 151, 0, 1, 7) := by decide +kernel
theorem glk_8_123 : glk 8 123 = some (0, 95, 0, 1, 6) := by decide +kernel
theorem glk_8_126 : glk 8 126 = some (0, 152, 0, 1, 7) := by decide +kernel
theorem glk_8_127 : glk 8 127 = some (0, 96, 1, 1, 6) := by decide +kernel
theorem glk_8_130 : glk 8 130 = some (0, 153, 1, 1, 7) := by decide +kernel
theorem gnw_2_13 : gnw 2 13 = some 3 := by decide +kernel
theorem gnw_6_7 : gnw 6 7 = some 1 := by decide +kernel
theorem gnw_6_16 : gnw 6 16 = some 4 := by decide +kernel
theorem gnw_6_26 : gnw 6 26 = some 3 := by decide +kernel
theorem gnw_6_36 : gnw 6 36 = some 2 := by decide +kernel
theorem gnw_6_48 : gnw 6 48 = some 0 := by decide +kernel
theorem gnw_6_55 : gnw 6 55 = some 5 := by decide +kernel
theorem gnw_8_7 : gnw 8 7 = some 6 := by decide +kernel
theorem gnw_8_10 : gnw 8 10 = some 7 := by decide +kernel
theorem gcl_3_85 : gcl 3 85 = some 7919 := by decide +kernel
theorem gcl_3_87 : gcl 3 87 = some 6151 := by decide +kernel
theorem gcl_3_89 : gcl 3 89 = some 331 := by decide +kernel
theorem gcl_3_91 : gcl 3 91 = some 65521 := by decide +kernel
theorem gcl_3_93 : gcl 3 93 = some 8 := by decide +kernel
theorem gcl_7_176 : gcl 7 176 = some 7919 := by decide +kernel
theorem gcl_7_178 : gcl 7 178 = some 6151 := by decide +kernel
theorem gcl_7_180 : gcl 7 180 = some 331 := by decide +kernel
theorem gcl_7_182 : gcl 7 182 = some 65521 := by decide +kernel
theorem gci_9_265 : gci 9 265 = some 1431655765 := by decide +kernel
theorem gci_9_266 : gci 9 266 = some 858993459 := by decide +kernel
theorem gci_9_267 : gci 9 267 = some 252645135 := by decide +kernel
def gwl : List Jvm.Cond := lw_tbl.filter goodWord
theorem gwl_good : ∀ w ∈ gwl, goodWord w = true := fun w h => (List.mem_filter.mp h).2
theorem gwl_in : ∀ w ∈ gwl, w ∈ lw_tbl := fun w h => (List.mem_filter.mp h).1
theorem gwl_of {ws : List Jvm.Cond} (ps : List Nat) (hp : ws = ps.filterMap (fun i => lw_tbl[i]?)) (h : ws.all goodWord = true) : ∀ w ∈ ws, w ∈ gwl := by
  intro w hw
  refine List.mem_filter.mpr ⟨?_, List.all_eq_true.mp h w hw⟩
  rw [hp] at hw
  obtain ⟨i, -, hi⟩ := List.mem_filterMap.mp hw
  exact List.mem_of_getElem? hi
/-- the words of a field link -/
def gflW (e : (Nat × Nat) × (Nat × Nat × Nat)) : List Jvm.Cond := match vwCl[e.2.1]? with
  | some q => [.fieldLink (gown e.1.1) e.1.2 (q.2.1 e.2.2.1).1 (q.2.1 e.2.2.1).2.1 (q.2.1 e.2.2.1).2.2.1]
  | none => []
def gtyB (t : Nat) (x : Option FieldType) : Bool := match x with
  | some .int => t == 0
  | some .boolean => t == 1
  | some (.object _) => t == 2 || t == 3
  | some (.array _) => t == 2 || t == 3
  | _ => false
def gflB (e : (Nat × Nat) × (Nat × Nat × Nat)) : Bool := match vwCl[e.2.1]? with
  | some q => decide (e.2.2.1 < q.2.2) && ((q.2.1 e.2.2.1).2.2.2 == (e.2.2.2 == 3)) && gtyB e.2.2.2 (parseFieldDescriptor (q.2.1 e.2.2.1).2.2.1) && decide ((q.2.1 e.2.2.1).1 = q.1)
  | none => false
theorem gflT_ok : gflT.all gflB = true := by decide +kernel
set_option maxRecDepth 100000 in
theorem gflT_in : ∀ w ∈ gflT.flatMap gflW, w ∈ gwl := gwl_of [192, 193, 194, 196, 197, 199, 113, 101, 145, 73, 74, 76, 77, 175, 176, 177, 144, 148, 150, 152, 97, 102, 111, 105, 115, 94, 96, 98, 100, 104, 107, 109, 112, 117, 219, 220, 221, 222, 223, 224, 226, 228, 146, 114, 357, 358, 359, 360, 361, 362, 363, 364, 365, 366, 75, 110, 178, 227, 95, 149, 151, 147, 103, 99, 106, 118, 116, 198, 195, 229, 225, 153, 108, 733, 735, 736, 737, 738, 739, 740, 741, 742, 745, 748, 749, 752, 753, 754, 734, 743, 744, 746, 747, 755, 750, 751] (by rfl) (by decide +kernel)
def gmtW (e : MethodName × ByteArray × Nat × Option FieldType × Nat) : List Jvm.Cond := [.code e.1 e.2.1 e.2.2.1 e.2.2.2.1]
def gmtB (e : MethodName × ByteArray × Nat × Option FieldType × Nat) : Bool := decide (e.1.cls = gown e.2.2.2.2) && decide (e.1.cls ≠ "java/lang/invoke/MethodHandle") && decide (e.1.cls ≠ "java/lang/invoke/VarHandle") && plainFor e.1 && decide (e.2.2.1 ≤ 21)
theorem gmt_ok : gmt.all gmtB = true := by decide +kernel
set_option maxRecDepth 100000 in
theorem gmt_in : ∀ w ∈ gmt.flatMap gmtW, w ∈ gwl := gwl_of [63, 71, 92, 142, 167, 171, 190, 217, 299, 303, 307, 311, 315, 318, 322, 325, 329, 333, 336, 343, 347, 351, 355, 392, 397, 401, 405, 409, 413, 417, 420, 424, 428, 432, 436, 440, 444, 448, 452, 456, 460, 464, 467, 471, 475, 479, 483, 488, 493, 497, 501, 505, 511, 516, 519, 523, 527, 531, 535, 539, 543, 548, 554, 560, 564, 569, 573, 577, 583, 587, 592, 595, 602, 606, 610, 614, 618, 622, 627, 634, 638, 646, 651, 657, 661, 665, 668, 671, 674, 678, 682, 685, 694, 698, 702, 706, 710, 714, 719, 724, 728, 732, 806, 809, 813, 817, 821, 825, 829, 833, 838, 842, 846, 850, 854, 858, 862, 866, 870, 874, 878, 882, 886, 890, 894, 898, 902, 906, 910, 914, 917, 921, 925, 929, 933, 937, 941, 945, 949, 953, 957, 960, 964, 968, 972, 976, 980, 984, 988, 992, 996, 1004, 1008, 1012] (by rfl) (by decide +kernel)
def gretB (r : Nat) (x : Option FieldType) : Bool := match x with
  | none => r == 0
  | some .int => r == 1
  | some .boolean => r == 1
  | some .long => r == 2
  | _ => false
def glkB (e : (Nat × Nat) × (Nat × Nat × Nat × Nat × Nat)) : Bool :=
  if e.2.1 = 5 then true
  else if e.2.1 = 6 then true
  else match gmt[e.2.2.1]? with
  | some q => decide ((parseMethodDescriptor q.1.desc).map (fun d => d.parameters.length) = some e.2.2.2.1) && gretB e.2.2.2.2.1 q.2.2.2.1 && decide (q.2.2.2.2 = e.2.2.2.2.2) && (
      if e.2.1 = 0 then decide ((vwCl[q.2.2.2.2]?).map (fun z => z.1) = some q.1.cls)
      else if e.2.1 = 1 then true
      else if e.2.1 = 2 then decide (q.1.name = "<init>") && decide (q.2.2.2.1 = none)
      else if e.2.1 = 3 then gnest.any (fun z => decide (z.1 = e.1.1 ∧ z.2.1 = e.1.2 ∧ z.2.2 = q.1))
      else if e.2.1 = 4 then gnest.any (fun z => decide (z.1 = e.1.1 ∧ z.2.1 = e.1.2 ∧ z.2.2 = q.1)) && decide (q.1.name = "<init>") && decide (q.2.2.2.1 = none)
      else false)
  | none => false
def glkW (e : (Nat × Nat) × (Nat × Nat × Nat × Nat × Nat)) : List Jvm.Cond :=
  if e.2.1 = 5 then [.methodLink (gown e.1.1) e.1.2 objectInit, .instanceMethod objectInit, .code objectInit ⟨#[0xb1]⟩ 1 none]
  else if e.2.1 = 6 then [.methodLink (gown e.1.1) e.1.2 arraycopyName, .native arraycopyName, .static arraycopyName, .initialized "java/lang/System"]
  else match gmt[e.2.2.1]? with
  | some q => if e.2.1 = 0 then [.initialized q.1.cls, .methodLink (gown e.1.1) e.1.2 q.1, .instanceMethod q.1, .selects q.1.cls q.1 q.1]
      else if e.2.1 = 1 then [.initialized q.1.cls, .methodLink (gown e.1.1) e.1.2 q.1, .static q.1]
      else if e.2.1 = 2 then [.initialized q.1.cls, .methodLink (gown e.1.1) e.1.2 q.1, .instanceMethod q.1]
      else if e.2.1 = 3 then [.initialized q.1.cls, .static q.1]
      else [.initialized q.1.cls, .instanceMethod q.1]
  | none => []
set_option maxRecDepth 100000 in
theorem glkT_ok : glkT.all glkB = true := by decide +kernel
set_option maxRecDepth 100000 in
theorem glkT_in : ∀ w ∈ glkT.flatMap glkW, w ∈ gwl := gwl_of [191, 65, 66, 565, 339, 338, 56, 50, 566, 568, 10, 50, 570, 572, 11, 50, 574, 576, 12, 46, 578, 438, 439, 46, 579, 486, 487, 72, 65, 66, 46, 304, 305, 306, 45, 308, 310, 0, 45, 312, 314, 1, 45, 316, 317, 45, 319, 321, 2, 46, 326, 327, 328, 44, 324, 168, 65, 66, 49, 169, 170, 47, 141, 47, 461, 462, 463, 49, 465, 466, 143, 65, 66, 356, 339, 338, 56, 44, 419, 46, 484, 438, 439, 46, 485, 486, 487, 46, 489, 446, 447, 47, 472, 473, 474, 47, 490, 491, 492, 47, 498, 499, 500, 47, 476, 477, 478, 47, 480, 481, 482, 47, 683, 684, 46, 494, 495, 496, 46, 502, 503, 504, 47, 555, 415, 416, 93, 65, 66, 46, 330, 332, 3, 46, 340, 342, 4, 46, 344, 346, 5, 46, 348, 350, 6, 46, 334, 335, 337, 339, 338, 56, 46, 445, 446, 447, 46, 441, 442, 443, 46, 449, 451, 9, 49, 506, 466, 218, 65, 66, 49, 623, 170, 628, 339, 338, 56, 47, 629, 477, 478, 51, 630, 620, 621, 51, 631, 633, 15, 51, 635, 637, 16, 46, 639, 438, 439, 46, 640, 486, 487, 46, 641, 495, 496, 44, 419, 51, 643, 645, 17, 46, 647, 503, 504, 64, 65, 66, 45, 70, 46, 91, 47, 141, 48, 165, 166, 50, 189, 51, 216, 45, 296, 297, 298, 45, 300, 301, 302, 47, 352, 353, 354, 44, 393, 324, 44, 410, 412, 7, 47, 414, 415, 416, 44, 425, 427, 8, 46, 437, 438, 439, 48, 457, 458, 459, 47, 468, 469, 470, 47, 507, 477, 478, 47, 512, 481, 482, 44, 517, 518, 47, 528, 529, 530, 48, 536, 537, 538, 47, 544, 462, 463, 47, 549, 473, 474, 47, 550, 491, 492, 47, 551, 552, 553, 47, 556, 499, 500, 50, 561, 562, 563, 44, 584, 586, 13, 58, 593, 594, 44, 599, 601, 14, 51, 607, 608, 609, 51, 619, 620, 621, 51, 624, 625, 626, 652, 339, 338, 56, 46, 653, 503, 504, 44, 658, 660, 18, 44, 663, 664, 44, 666, 667, 44, 669, 670, 47, 679, 680, 681, 47, 691, 692, 693, 47, 695, 696, 697, 47, 711, 712, 713, 46, 588, 442, 443, 46, 662, 486, 487, 49, 672, 673, 720, 65, 66, 57, 721, 723, 19, 57, 725, 727, 20, 57, 729, 731, 21, 57, 807, 808, 57, 822, 824, 23, 57, 826, 828, 24, 57, 818, 820, 22, 57, 834, 815, 816, 57, 839, 841, 25, 57, 843, 845, 26, 57, 851, 853, 27, 57, 867, 869, 29, 57, 871, 873, 30, 57, 863, 865, 28, 57, 891, 893, 34, 57, 899, 901, 36, 57, 883, 885, 32, 57, 879, 881, 31, 57, 887, 889, 33, 57, 895, 897, 35, 57, 903, 905, 37, 57, 915, 916, 57, 942, 944, 38, 57, 954, 956, 39, 57, 958, 959, 57, 977, 979, 41, 57, 973, 975, 40, 57, 981, 983, 42, 44, 61, 62, 57, 717, 718, 44, 389, 390, 391, 57, 803, 804, 805, 44, 394, 395, 396, 57, 810, 811, 812, 44, 398, 399, 400, 57, 814, 815, 816, 44, 402, 403, 404, 57, 830, 831, 832, 44, 406, 407, 408, 57, 835, 836, 837, 44, 421, 422, 423, 57, 847, 848, 849, 44, 429, 430, 431, 57, 855, 856, 857, 44, 433, 434, 435, 57, 859, 860, 861, 44, 453, 454, 455, 57, 875, 876, 877, 44, 508, 509, 510, 57, 907, 908, 909, 44, 513, 514, 515, 57, 911, 912, 913, 44, 520, 521, 522, 57, 918, 919, 920, 44, 524, 525, 526, 57, 922, 923, 924, 44, 532, 533, 534, 57, 926, 927, 928, 44, 540, 541, 542, 57, 930, 931, 932, 44, 545, 546, 547, 57, 934, 935, 936, 44, 557, 558, 559, 57, 938, 939, 940, 44, 580, 581, 582, 57, 946, 947, 948, 44, 589, 590, 591, 57, 950, 951, 952, 44, 603, 604, 605, 57, 961, 962, 963, 44, 611, 612, 613, 57, 965, 966, 967, 44, 615, 616, 617, 57, 969, 970, 971, 44, 648, 649, 650, 57, 985, 986, 987, 44, 654, 655, 656, 57, 989, 990, 991, 44, 675, 676, 677, 57, 993, 994, 995, 44, 699, 700, 701, 57, 1001, 1002, 1003, 44, 703, 704, 705, 57, 1005, 1006, 1007, 44, 707, 708, 709, 57, 1009, 1010, 1011] (by rfl) (by decide +kernel)
def gnwW (e : (Nat × Nat) × Nat) : List Jvm.Cond := match vwCl[e.2]? with
  | some q => [.classLink (gown e.1.1) e.1.2 q.1, .instantiable q.1 q.2.2, .initialized q.1]
  | none => []
theorem gnwT_ok : gnwT.all (fun e => decide (e.2 < 8)) = true := by decide +kernel
set_option maxRecDepth 100000 in
theorem gnwT_in : ∀ w ∈ gnwT.flatMap gnwW, w ∈ gwl := gwl_of [172, 139, 47, 67, 68, 45, 88, 89, 46, 138, 139, 47, 163, 164, 48, 186, 187, 50, 213, 214, 51, 59, 60, 44, 715, 716, 57] (by rfl) (by decide +kernel)
set_option maxRecDepth 100000 in
theorem gclT_in : ∀ w ∈ gclT.map (fun e => Jvm.Cond.constantLong (gown e.1.1) e.1.2 e.2), w ∈ gwl := gwl_of [686, 687, 688, 689, 690, 997, 998, 999, 1000] (by rfl) (by decide +kernel)
set_option maxRecDepth 100000 in
theorem gciT_in : ∀ w ∈ gciT.map (fun e => Jvm.Cond.constant (gown e.1.1) e.1.2 e.2), w ∈ gwl := gwl_of [596, 597, 598] (by rfl) (by decide +kernel)
set_option maxRecDepth 100000 in
theorem garr_in : ∀ w ∈ [Jvm.Cond.arrayClass .int, Jvm.Cond.arrayClass .byte], w ∈ gwl := gwl_of [87, 388] (by rfl) (by decide +kernel)
set_option maxRecDepth 100000 in
theorem gws_in : ∀ w ∈ vwCl.flatMap (fun q => u_ws q.1 q.2.1 q.2.2), w ∈ gwl := gwl_of [200, 202, 204, 206, 208, 210, 78, 80, 82, 84, 179, 181, 183, 154, 156, 158, 160, 119, 121, 123, 125, 127, 129, 131, 133, 135, 230, 232, 234, 236, 238, 240, 242, 244, 367, 369, 371, 373, 375, 377, 379, 381, 383, 385, 756, 758, 760, 762, 764, 766, 768, 770, 772, 774, 776, 778, 780, 782, 784, 786, 788, 790, 792, 794, 796, 798, 800] (by rfl) (by decide +kernel)
set_option maxRecDepth 100000 in
theorem gnest_in : ∀ w ∈ gnest.map (fun q => Jvm.Cond.methodLinkNest (gown q.1) q.2.1 q.2.2 "GreyByFriday"), w ∈ lw_tbl := by
  have h : gnest.map (fun q => Jvm.Cond.methodLinkNest (gown q.1) q.2.1 q.2.2 "GreyByFriday") = ([69, 90, 140, 174, 188, 215, 323, 418, 642] : List Nat).filterMap (fun i => lw_tbl[i]?) := by rfl
  intro w hw
  rw [h] at hw
  obtain ⟨i, -, hi⟩ := List.mem_filterMap.mp hw
  exact List.mem_of_getElem? hi
set_option maxRecDepth 100000 in
theorem gover_in : Jvm.Cond.arrayOver (.object "GreyByFriday$Street") ∈ lw_tbl := List.mem_of_getElem? (i := 173) (by rfl)
end
section
/-! THE PICTURE OF THE HEAP BY NUMBERS. A cell has a number; a reference in the picture is .ref of a number; 'ad' says at which address each lies. sh: the shapes (an object: its class' number, its fields: none is an int, some v a reference; an array of ints (0) or bytes (1) and its length; an array of Streets); M: the ints, M a k is field or element k of cell a. -/
abbrev gS : Type := (Nat × List (Option Value)) ⊕ ((Nat × Nat) ⊕ List (Option Nat))
abbrev gM : Type := Nat → Nat → Int32
def gv (ad : Nat → Nat) (v : Value) : Value := match v with
  | .ref k => .ref (ad k)
  | w => w
def gfo (ad : Nat → Nat) (row : Nat → Int32) (k : Nat) (o : Option Value) : Value := match o with
  | none => .int (row k)
  | some v => gv ad v
def gfv (ad : Nat → Nat) (row : Nat → Int32) (fs : List (Option Value)) : List Value := fs.mapIdx (fun k o => gfo ad row k o)
def gcell (cy : Nat → ClassId) (ad : Nat → Nat) (row : Nat → Int32) (e : gS) : va_E := match e with
  | .inl q => .inr (q.1, gfv ad row q.2)
  | .inr (.inl q) => .inl (cy q.1, q.2, .inl row)
  | .inr (.inr l) => .inl (cy 2, l.length, .inr (.inr (.inr (.inr (fun j => (l.getD j none).map ad)))))
def gW (cy : Nat → ClassId) (ad : Nat → Nat) (sh : List gS) (M : gM) : va_W := sh.mapIdx (fun a e => (ad a, gcell cy ad (M a) e))
def gtys (cy : Nat → ClassId) : List (ClassId × FieldType) := [(cy 0, .int), (cy 1, .byte), (cy 2, .object "GreyByFriday$Street")]
/-- a row set -/
def gsr (M : gM) (a : Nat) (f : Nat → Int32) : gM := fun c => if c = a then f else M c
theorem gsr_s (M : gM) (a : Nat) (f : Nat → Int32) : gsr M a f a = f := by simp [gsr]
theorem gsr_n (M : gM) {a b : Nat} (f : Nat → Int32) (h : b ≠ a) : gsr M a f b = M b := by simp [gsr, h]
theorem gv_cat (ad : Nat → Nat) (v : Value) : (gv ad v).category = v.category := by cases v <;> rfl
theorem gW_get {cy : Nat → ClassId} {ad : Nat → Nat} {sh : List gS} {M : gM} {a : Nat} {e : gS} (h : sh[a]? = some e) : (gW cy ad sh M)[a]? = some (ad a, gcell cy ad (M a) e) := by
  simp [gW, List.getElem?_mapIdx, h]
theorem gW_row {cy : Nat → ClassId} {ad : Nat → Nat} {sh : List gS} {M : gM} {a : Nat} {e : gS} (f : Nat → Int32) (h : sh[a]? = some e) : (gW cy ad sh M).set a (ad a, gcell cy ad f e) = gW cy ad sh (gsr M a f) := by
  have hl : a < (gW cy ad sh M).length := by
    rw [gW, List.length_mapIdx]; exact (List.getElem?_eq_some_iff.mp h).1
  refine List.ext_getElem? fun j => ?_
  by_cases hj : a = j
  · subst hj
    rw [List.getElem?_set_self hl, gW_get h, gsr_s]
  · rw [List.getElem?_set_ne hj]
    simp only [gW, List.getElem?_mapIdx]
    rw [gsr_n M f (fun z => hj z.symm)]
theorem gW_shape {cy : Nat → ClassId} {ad : Nat → Nat} {sh : List gS} {M : gM} {a : Nat} (e : gS) (h : a < sh.length) : (gW cy ad sh M).set a (ad a, gcell cy ad (M a) e) = gW cy ad (sh.set a e) M := by
  have hl : a < (gW cy ad sh M).length := by
    rw [gW, List.length_mapIdx]; exact h
  refine List.ext_getElem? fun j => ?_
  by_cases hj : a = j
  · subst hj
    rw [List.getElem?_set_self hl]
    exact (gW_get (List.getElem?_set_self h)).symm
  · rw [List.getElem?_set_ne hj]
    simp only [gW, List.getElem?_mapIdx, List.getElem?_set_ne hj]
theorem gfv_put {ad : Nat → Nat} {row : Nat → Int32} {fs : List (Option Value)} {k : Nat} (x : Int32) (h : fs[k]? = some none) : (gfv ad row fs).set k (.int x) = gfv ad (upd row k x) fs := by
  have hl : k < (gfv ad row fs).length := by
    rw [gfv, List.length_mapIdx]; exact (List.getElem?_eq_some_iff.mp h).1
  refine List.ext_getElem? fun j => ?_
  by_cases hj : k = j
  · subst hj
    rw [List.getElem?_set_self hl]
    simp [gfv, List.getElem?_mapIdx, h, gfo, upd]
  · rw [List.getElem?_set_ne hj]
    simp only [gfv, List.getElem?_mapIdx]
    cases hq : fs[j]? with
    | none => rfl
    | some o => cases o with
      | none =>
        show some (Value.int (row j)) = some (Value.int (upd row k x j))
        rw [show upd row k x j = row j from if_neg (fun z => hj z.symm)]
      | some v => rfl
theorem gfv_ref {ad : Nat → Nat} {row : Nat → Int32} {fs : List (Option Value)} {k : Nat} (v : Value) (h : k < fs.length) : (gfv ad row fs).set k (gv ad v) = gfv ad row (fs.set k (some v)) := by
  have hl : k < (gfv ad row fs).length := by
    rw [gfv, List.length_mapIdx]; exact h
  refine List.ext_getElem? fun j => ?_
  by_cases hj : k = j
  · subst hj
    rw [List.getElem?_set_self hl, gfv, List.getElem?_mapIdx, List.getElem?_set_self h]
    rfl
  · rw [List.getElem?_set_ne hj]
    simp only [gfv, List.getElem?_mapIdx, List.getElem?_set_ne hj]
theorem gfv_get {ad : Nat → Nat} {row : Nat → Int32} {fs : List (Option Value)} {k : Nat} {o : Option Value} (h : fs[k]? = some o) : (gfv ad row fs)[k]? = some (gfo ad row k o) := by
  simp [gfv, List.getElem?_mapIdx, h]
/-! locals -/
def gl (ad : Nat → Nat) (q : Nat × Value) : Nat × Value := (q.1, gv ad q.2)
def lget : List (Nat × Value) → Nat → Option Value
  | [], _ => none
  | q :: l, i => if q.1 = i then some q.2 else lget l i
def isL (v : Value) : Bool := match v with
  | .long _ => true
  | .double _ => true
  | _ => false
theorem isL_cat (v : Value) : isL v = true ↔ v.category = 2 := by cases v <;> simp [isL, Value.category]
def ldel : List (Nat × Value) → Nat → List (Nat × Value)
  | [], _ => []
  | q :: l, i => if q.1 = i then ldel l i else if q.1 + 1 = i ∧ isL q.2 = true then ldel l i else q :: ldel l i
def lput : List (Nat × Value) → Nat → Value → List (Nat × Value)
  | [], i, v => [(i, v)]
  | q :: l, i, v => if q.1 = i then (i, v) :: ldel l i else if q.1 + 1 = i ∧ isL q.2 = true then lput l i v else if i < q.1 then (i, v) :: q :: ldel l i else q :: lput l i v
/-- a long takes two -/
def lputL (l : List (Nat × Value)) (i : Nat) (v : Value) : List (Nat × Value) := (lput (l.filter (fun q => !(q.1 == i + 1))) i v)
theorem lget_mem : ∀ {l : List (Nat × Value)} {i : Nat} {v : Value}, lget l i = some v → (i, v) ∈ l
  | [], i, v, h => by cases h
  | q :: l, i, v, h => by
    unfold lget at h
    by_cases hq : q.1 = i
    · rw [if_pos hq] at h
      cases h
      subst hq
      exact List.mem_cons_self
    · rw [if_neg hq] at h
      exact List.mem_cons_of_mem _ (lget_mem h)
theorem ldel_mem : ∀ {l : List (Nat × Value)} {i : Nat} {q : Nat × Value}, q ∈ ldel l i → q ∈ l ∧ q.1 ≠ i ∧ ¬ (q.1 + 1 = i ∧ isL q.2 = true)
  | [], i, q, h => by cases h
  | r :: l, i, q, h => by
    unfold ldel at h
    by_cases h1 : r.1 = i
    · rw [if_pos h1] at h
      obtain ⟨a, b⟩ := ldel_mem h
      exact ⟨List.mem_cons_of_mem _ a, b⟩
    · rw [if_neg h1] at h
      by_cases h2 : r.1 + 1 = i ∧ isL r.2 = true
      · rw [if_pos h2] at h
        obtain ⟨a, b⟩ := ldel_mem h
        exact ⟨List.mem_cons_of_mem _ a, b⟩
      · rw [if_neg h2] at h
        rcases List.mem_cons.mp h with rfl | h
        · exact ⟨List.mem_cons_self, h1, h2⟩
        · obtain ⟨a, b⟩ := ldel_mem h
          exact ⟨List.mem_cons_of_mem _ a, b⟩
theorem lput_mem : ∀ {l : List (Nat × Value)} {i : Nat} {v : Value} {q : Nat × Value}, q ∈ lput l i v → q = (i, v) ∨ (q ∈ l ∧ q.1 ≠ i ∧ ¬ (q.1 + 1 = i ∧ isL q.2 = true))
  | [], i, v, q, h => by
    rcases List.mem_cons.mp h with h | h
    · exact Or.inl h
    · cases h
  | r :: l, i, v, q, h => by
    unfold lput at h
    by_cases h1 : r.1 = i
    · rw [if_pos h1] at h
      rcases List.mem_cons.mp h with h | h
      · exact Or.inl h
      · obtain ⟨a, b⟩ := ldel_mem h
        exact Or.inr ⟨List.mem_cons_of_mem _ a, b⟩
    · rw [if_neg h1] at h
      by_cases h2 : r.1 + 1 = i ∧ isL r.2 = true
      · rw [if_pos h2] at h
        rcases lput_mem h with h | ⟨a, b⟩
        · exact Or.inl h
        · exact Or.inr ⟨List.mem_cons_of_mem _ a, b⟩
      · rw [if_neg h2] at h
        by_cases h3 : i < r.1
        · rw [if_pos h3] at h
          rcases List.mem_cons.mp h with h | h
          · exact Or.inl h
          · rcases List.mem_cons.mp h with rfl | h
            · exact Or.inr ⟨List.mem_cons_self, h1, h2⟩
            · obtain ⟨a, b⟩ := ldel_mem h
              exact Or.inr ⟨List.mem_cons_of_mem _ a, b⟩
        · rw [if_neg h3] at h
          rcases List.mem_cons.mp h with rfl | h
          · exact Or.inr ⟨List.mem_cons_self, h1, h2⟩
          · rcases lput_mem h with h | ⟨a, b⟩
            · exact Or.inl h
            · exact Or.inr ⟨List.mem_cons_of_mem _ a, b⟩
theorem lget_has {ls : Array Slot} {nL : Nat} {lv : List (Nat × Value)} {ad : Nat → Nat} {i : Nat} {v : Value} (h : lv_has ls nL (lv.map (gl ad))) (hg : lget lv i = some v) : ls[i]? = some (.val (gv ad v)) :=
  h.2.2 (gl ad (i, v)) (List.mem_map_of_mem (lget_mem hg))
theorem lv_mono {ls : Array Slot} {nL : Nat} {l l' : List (Nat × Value)} (h : lv_has ls nL l) (hs : ∀ q ∈ l', q ∈ l) : lv_has ls nL l' := ⟨h.1, h.2.1, fun q hq => h.2.2 q (hs q hq)⟩
theorem lput_has {ls : Array Slot} {nL : Nat} {lv : List (Nat × Value)} {ad : Nat → Nat} {i : Nat} {v : Value} (h : lv_has ls nL ((i, gv ad v) :: (lv.map (gl ad)).filter (fun q => !(q.1 == i) && !(q.1 + 1 == i && q.2.category == 2)))) : lv_has ls nL ((lput lv i v).map (gl ad)) := by
  refine lv_mono h fun q0 hq0 => ?_
  obtain ⟨q, hq, rfl⟩ := List.mem_map.mp hq0
  rcases lput_mem hq with rfl | ⟨a, b, c⟩
  · exact List.mem_cons_self
  · refine List.mem_cons_of_mem _ (List.mem_filter.mpr ⟨List.mem_map_of_mem a, ?_⟩)
    have c' : ¬ (q.1 + 1 = i ∧ q.2.category = 2) := fun z => c ⟨z.1, (isL_cat _).mpr z.2⟩
    simp only [gl, gv_cat, Bool.and_eq_true, Bool.not_eq_true', beq_eq_false_iff_ne, ne_eq, Bool.and_eq_false_iff]
    refine ⟨b, ?_⟩
    by_cases z : q.1 + 1 = i
    · exact Or.inr (fun w => c' ⟨z, w⟩)
    · exact Or.inl z
theorem lputL_has {ls : Array Slot} {nL : Nat} {lv : List (Nat × Value)} {ad : Nat → Nat} {i : Nat} {v : Value} (h : lv_has ls nL ((i, gv ad v) :: (lv.map (gl ad)).filter (fun q => !(q.1 == i) && (!(q.1 == i + 1) && !(q.1 + 1 == i && q.2.category == 2))))) : lv_has ls nL ((lputL lv i v).map (gl ad)) := by
  refine lv_mono h fun q0 hq0 => ?_
  obtain ⟨q, hq, rfl⟩ := List.mem_map.mp hq0
  rcases lput_mem hq with rfl | ⟨a, b, c⟩
  · exact List.mem_cons_self
  · obtain ⟨a1, a2⟩ := List.mem_filter.mp a
    refine List.mem_cons_of_mem _ (List.mem_filter.mpr ⟨List.mem_map_of_mem a1, ?_⟩)
    have c' : ¬ (q.1 + 1 = i ∧ q.2.category = 2) := fun z => c ⟨z.1, (isL_cat _).mpr z.2⟩
    simp only [Bool.not_eq_true', beq_eq_false_iff_ne, ne_eq] at a2
    simp only [gl, gv_cat, Bool.and_eq_true, Bool.not_eq_true', beq_eq_false_iff_ne, ne_eq, Bool.and_eq_false_iff]
    refine ⟨b, a2, ?_⟩
    by_cases z : q.1 + 1 = i
    · exact Or.inr (fun w => c' ⟨z, w⟩)
    · exact Or.inl z
end
section
/-! WHAT STANDS AT A METHOD'S ENTRY, AND THE JUDGEMENT OVER PICTURES -/
def gXt (U : State) : Prop := (∀ q ∈ gnest, va_Nw (.methodLinkNest (gown q.1) q.2.1 q.2.2 "GreyByFriday") U) ∧ va_AO "GreyByFriday$Street" U
theorem gXt_warm {s U : State} (hW : s.WarmedH U.vm) (h : gXt s) : gXt U := ⟨fun q hq => va_Nw.warmM hW (h.1 q hq), h.2.moved hW.alike⟩
def gSt (p : Program) (R : Room) (s : State) (m : MethodId) (args : Array Value) (meth : Method) (c : Code) (A : Nat → Prop) (D : va_G) (cy : Nat → ClassId) (o nL d MC MS : Nat) (cc : ByteArray) (ret : Option FieldType) (ini : Bool) : Prop :=
  p.tables.exec = Jvm.exec ∧ c.code = cc ∧ meth.sig.returnType = ret ∧ c.maxLocals = nL ∧ s.vm.findClass (gown o) = some m.cls ∧ (∀ w ∈ gwl, w.before args s = true) ∧ meth.locks = false ∧ va_K D vwCl (gtys cy) s ∧ (∀ q, s.heap.size ≤ q → A q) ∧ (d ≤ R.frames ∧ 40 * d ≤ R.locals ∧ R.cells = MC ∧ R.slots = MS) ∧ (ini = true → meth.name = "<init>") ∧ gXt s
abbrev gX : Type := Nat → List (Nat × Value) → List Value → List gS → gM → Nat → Nat → Prop
def gG (p : Program) (l : Launch) (e : Env) (R : Room) (s : State) (m : MethodId) (args : Array Value) (below : List Frame) (meth : Method) (c : Code) (A : Nat → Prop) (D : va_G) (cy : Nat → ClassId) (nL MC : Nat) (Z : State → Prop) (n0 : Nat) (ad0 : Nat → Nat) : gX := fun pc lv st sh M kc ks =>
  ∀ (ad : Nat → Nat) (H : Heap) (locs : List Loc) (ls : Array Slot), (∀ k, k < n0 ∨ 1000000 ≤ k → ad k = ad0 k) → (MC = 0 → ad = ad0) → n0 ≤ sh.length → va_P D vwCl (gW cy ad sh M) H → va_D A (gW cy ad sh M) → va_S A s.heap H locs → lv_has ls nL (lv.map (gl ad)) →
    W p l e R s m args below meth c H locs kc ks Z (F0 m pc ls (st.map (gv ad)))
theorem gbi {n : Int} (h1 : -128 ≤ n) (h2 : n ≤ 127) : (Int8.ofInt n).toInt32 = Int32.ofInt n := by
  apply Int32.toInt_inj.mp
  rw [Int8.toInt_toInt32, Int8.toInt_ofInt, Int32.toInt_ofInt]
  simp only [Int8.size, Int32.size]
  rw [Int.bmod_eq_of_le (by omega) (by omega), Int.bmod_eq_of_le (by omega) (by omega)]
theorem gsi {n : Int} (h1 : -32768 ≤ n) (h2 : n ≤ 32767) : (Int16.ofInt n).toInt32 = Int32.ofInt n := by
  apply Int32.toInt_inj.mp
  rw [Int16.toInt_toInt32, Int16.toInt_ofInt, Int32.toInt_ofInt]
  simp only [Int16.size, Int32.size]
  rw [Int.bmod_eq_of_le (by omega) (by omega), Int.bmod_eq_of_le (by omega) (by omega)]
/-- a branch's aim -/
def gto (X : gX) (pc : Nat) (off : Int) (lv : List (Nat × Value)) (st : List Value) (sh : List gS) (M : gM) (kc ks : Nat) : Prop := 0 ≤ (pc : Int) + off ∧ X ((pc : Int) + off).toNat lv st sh M kc ks
def gcmp (c : Jvm.ClassFile.Cond) (x y : Int32) : Prop := match c with
  | .eq => x = y
  | .ne => ¬ x = y
  | .lt => x < y
  | .ge => y ≤ x
  | .gt => y < x
  | .le => x ≤ y
def gswT (F : Int → Prop) (x : Int32) : Int → List Int → Prop
  | _, [] => True
  | lo, off :: r => (x.toInt = lo → F off) ∧ gswT F x (lo + 1) r
def gswL (F : Int → Prop) (x : Int32) (d : Int) : List (Int × Int) → Prop
  | [] => F d
  | q :: r => (x.toInt = q.1 → F q.2) ∧ (¬ x.toInt = q.1 → gswL F x d r)
theorem gswT_at {F : Int → Prop} {x : Int32} : ∀ {l : List Int} {lo : Int} {i : Nat} {off : Int}, gswT F x lo l → l[i]? = some off → x.toInt = lo + i → F off
  | [], lo, i, off, _, h, _ => by simp at h
  | a :: r, lo, 0, off, h, hi, hx => by
    simp at hi
    subst hi
    exact h.1 (by simpa using hx)
  | a :: r, lo, i + 1, off, h, hi, hx => by
    rw [List.getElem?_cons_succ] at hi
    exact gswT_at h.2 hi (by rw [hx]; push_cast; omega)
theorem gswL_at {F : Int → Prop} {x : Int32} {d : Int} : ∀ {l : List (Int × Int)}, gswL F x d l → F (Op.lookupswitch.offset l d x.toInt)
  | [], h => h
  | (a, b) :: r, h => by
    rw [Op.lookupswitch.offset_cons]
    by_cases hx : x.toInt = a
    · rw [if_pos hx.symm]
      exact h.1 hx
    · rw [if_neg (fun z => hx z.symm)]
      exact gswL_at (h.2 hx)
/-! stacks -/
def gp1 (st : List Value) (F : Int32 → List Value → Prop) : Prop := match st with
  | .int x :: r => F x r
  | _ => False
def gp2 (st : List Value) (F : Int32 → Int32 → List Value → Prop) : Prop := match st with
  | .int y :: .int x :: r => F x y r
  | _ => False
def gq1 (st : List Value) (F : Int64 → List Value → Prop) : Prop := match st with
  | .long x :: r => F x r
  | _ => False
def gq2 (st : List Value) (F : Int64 → Int64 → List Value → Prop) : Prop := match st with
  | .long y :: .long x :: r => F x y r
  | _ => False
def gpr (st : List Value) (F : Nat → List Value → Prop) : Prop := match st with
  | .ref a :: r => F a r
  | _ => False
def gpir (st : List Value) (F : Nat → Int32 → List Value → Prop) : Prop := match st with
  | .int i :: .ref a :: r => F a i r
  | _ => False
def gpiir (st : List Value) (F : Nat → Int32 → Int32 → List Value → Prop) : Prop := match st with
  | .int x :: .int i :: .ref a :: r => F a i x r
  | _ => False
def gprir (st : List Value) (F : Nat → Int32 → Nat → List Value → Prop) : Prop := match st with
  | .ref v :: .int i :: .ref a :: r => F a i v r
  | _ => False
def gprr (st : List Value) (F : Nat → Nat → List Value → Prop) : Prop := match st with
  | .ref b :: .ref a :: r => F a b r
  | _ => False
def glI (lv : List (Nat × Value)) (i : Nat) (F : Int32 → Prop) : Prop := match lget lv i with
  | some (.int x) => F x
  | _ => False
def glL (lv : List (Nat × Value)) (i : Nat) (F : Int64 → Prop) : Prop := match lget lv i with
  | some (.long x) => F x
  | _ => False
def glR (lv : List (Nat × Value)) (i : Nat) (F : Nat → Prop) : Prop := match lget lv i with
  | some (.ref x) => F x
  | _ => False
theorem gp1_e {st : List Value} {F : Int32 → List Value → Prop} (h : gp1 st F) : ∃ x r, st = .int x :: r ∧ F x r := by
  unfold gp1 at h; split at h
  · exact ⟨_, _, rfl, h⟩
  · exact h.elim
theorem gp2_e {st : List Value} {F : Int32 → Int32 → List Value → Prop} (h : gp2 st F) : ∃ x y r, st = .int y :: .int x :: r ∧ F x y r := by
  unfold gp2 at h; split at h
  · exact ⟨_, _, _, rfl, h⟩
  · exact h.elim
theorem gq1_e {st : List Value} {F : Int64 → List Value → Prop} (h : gq1 st F) : ∃ x r, st = .long x :: r ∧ F x r := by
  unfold gq1 at h; split at h
  · exact ⟨_, _, rfl, h⟩
  · exact h.elim
theorem gq2_e {st : List Value} {F : Int64 → Int64 → List Value → Prop} (h : gq2 st F) : ∃ x y r, st = .long y :: .long x :: r ∧ F x y r := by
  unfold gq2 at h; split at h
  · exact ⟨_, _, _, rfl, h⟩
  · exact h.elim
theorem gpr_e {st : List Value} {F : Nat → List Value → Prop} (h : gpr st F) : ∃ a r, st = .ref a :: r ∧ F a r := by
  unfold gpr at h; split at h
  · exact ⟨_, _, rfl, h⟩
  · exact h.elim
theorem gpir_e {st : List Value} {F : Nat → Int32 → List Value → Prop} (h : gpir st F) : ∃ a i r, st = .int i :: .ref a :: r ∧ F a i r := by
  unfold gpir at h; split at h
  · exact ⟨_, _, _, rfl, h⟩
  · exact h.elim
theorem gpiir_e {st : List Value} {F : Nat → Int32 → Int32 → List Value → Prop} (h : gpiir st F) : ∃ a i x r, st = .int x :: .int i :: .ref a :: r ∧ F a i x r := by
  unfold gpiir at h; split at h
  · exact ⟨_, _, _, _, rfl, h⟩
  · exact h.elim
theorem gprir_e {st : List Value} {F : Nat → Int32 → Nat → List Value → Prop} (h : gprir st F) : ∃ a i v r, st = .ref v :: .int i :: .ref a :: r ∧ F a i v r := by
  unfold gprir at h; split at h
  · exact ⟨_, _, _, _, rfl, h⟩
  · exact h.elim
theorem gprr_e {st : List Value} {F : Nat → Nat → List Value → Prop} (h : gprr st F) : ∃ a b r, st = .ref b :: .ref a :: r ∧ F a b r := by
  unfold gprr at h; split at h
  · exact ⟨_, _, _, rfl, h⟩
  · exact h.elim
theorem glI_e {lv : List (Nat × Value)} {i : Nat} {F : Int32 → Prop} (h : glI lv i F) : ∃ x, lget lv i = some (.int x) ∧ F x := by
  unfold glI at h; split at h
  · next x hx => exact ⟨_, hx, h⟩
  · exact h.elim
theorem glL_e {lv : List (Nat × Value)} {i : Nat} {F : Int64 → Prop} (h : glL lv i F) : ∃ x, lget lv i = some (.long x) ∧ F x := by
  unfold glL at h; split at h
  · next x hx => exact ⟨_, hx, h⟩
  · exact h.elim
theorem glR_e {lv : List (Nat × Value)} {i : Nat} {F : Nat → Prop} (h : glR lv i F) : ∃ x, lget lv i = some (.ref x) ∧ F x := by
  unfold glR at h; split at h
  · next x hx => exact ⟨_, hx, h⟩
  · exact h.elim
/-- a field of an object: its class' number, the list of its fields, the field -/
def ggf (sh : List gS) (a ci k : Nat) (F : List (Option Value) → Option Value → Prop) : Prop := match sh[a]? with
  | some (.inl q) => q.1 = ci ∧ (match q.2[k]? with
    | some f => F q.2 f
    | none => False)
  | _ => False
theorem ggf_e {sh : List gS} {a ci k : Nat} {F : List (Option Value) → Option Value → Prop} (h : ggf sh a ci k F) : ∃ fs f, sh[a]? = some (.inl (ci, fs)) ∧ fs[k]? = some f ∧ F fs f := by
  unfold ggf at h; split at h
  · next q hq =>
    obtain ⟨h1, h2⟩ := h
    split at h2
    · next f hf => exact ⟨q.2, f, by rw [hq, ← h1], hf, h2⟩
    · exact h2.elim
  · exact h.elim
/-- an array of ints or bytes: its length -/
def gar (sh : List gS) (a kd : Nat) (F : Nat → Prop) (E : Prop) : Prop := match sh[a]? with
  | some (.inr (.inl q)) => q.1 = kd ∧ F q.2
  | none => E
  | _ => False
theorem gar_e {sh : List gS} {a kd : Nat} {F : Nat → Prop} {E : Prop} (h : gar sh a kd F E) : (∃ n, sh[a]? = some (.inr (.inl (kd, n))) ∧ F n) ∨ E := by
  unfold gar at h; split at h
  · next q hq => exact Or.inl ⟨q.2, by rw [hq, ← h.1], h.2⟩
  · exact Or.inr h
  · exact h.elim
/-- an array of Streets -/
def gaq (sh : List gS) (a : Nat) (F : List (Option Nat) → Prop) : Prop := match sh[a]? with
  | some (.inr (.inr l)) => F l
  | _ => False
theorem gaq_e {sh : List gS} {a : Nat} {F : List (Option Nat) → Prop} (h : gaq sh a F) : ∃ l, sh[a]? = some (.inr (.inr l)) ∧ F l := by
  unfold gaq at h; split at h
  · next l hl => exact ⟨l, hl, h⟩
  · exact h.elim
def irm (x y : Int32) : Int32 := x - x / y * y
def lrm (x y : Int64) : Int64 := x - x / y * y
def iush (x y : Int32) : Int32 := (x.toUInt32 >>> (y.toUInt32 &&& Int32.toUInt32 31)).toInt32
/-- references that are of cells that are there -/
def gokV (n : Nat) (v : Value) : Bool := match v with
  | .ref k => decide (k < n) || decide (1000000 ≤ k)
  | _ => true
def gokS (n : Nat) (e : gS) : Bool := match e with
  | .inl q => q.2.all (fun o => match o with
    | some v => gokV n v
    | none => true)
  | .inr (.inl _) => true
  | .inr (.inr l) => l.all (fun o => match o with
    | some k => decide (k < n)
    | none => true)
end
section
/-! A METHOD'S CONTRACT, AND ONE STEP -/
def gQ (Q : Option Value → List gS → gM → Prop) (D : va_G) (cy : Nat → ClassId) (ad0 : Nat → Nat) (n0 mc : Nat) (A : Nat → Prop) : Array Value → State → Outcome → State → Prop := fun _ st oc t =>
  (∃ (v : Option Value) (sh : List gS) (M : gM) (ad : Nat → Nat), oc = .returned (v.map (gv ad)) ∧ Q v sh M ∧ (∀ k, k < n0 ∨ 1000000 ≤ k → ad k = ad0 k) ∧ (mc = 0 → ad = ad0) ∧ n0 ≤ sh.length ∧ va_P D vwCl (gW cy ad sh M) t.heap ∧ va_D A (gW cy ad sh M)) ∧ va_F A st t
def gPc (avs : List Value) (D : va_G) (cy : Nat → ClassId) (ad : Nat → Nat) (sz : Nat) (sh : List gS) (M : gM) : Array Value → State → Prop := va_Pc (avs.map (gv ad)) (fun U => U.heap.size = sz ∧ va_P D vwCl (gW cy ad sh M) U.heap ∧ va_K D vwCl (gtys cy) U ∧ va_D (fun _ => True) (gW cy ad sh M) ∧ gXt U)
abbrev grm (d mc ms : Nat) : Room := { frames := d, cells := mc, slots := ms, locals := 40 * d }
/-- method mi, called with avs over the picture sh, M, comes back, with Q; d: frames, mc, ms: cells and slots that it may make -/
def gC (mi d mc ms : Nat) (avs : List Value) (sh : List gS) (M : gM) (Q : Option Value → List gS → gM → Prop) : Prop :=
  ∀ q, gmt[mi]? = some q → ∀ (l : Launch) (D : va_G) (cy : Nat → ClassId) (ad : Nat → Nat) (sz : Nat), Met l q.1 (.code q.1 q.2.1 q.2.2.1 q.2.2.2.1 :: gwl) (grm d mc ms) (gPc avs D cy ad sz sh M) (gQ Q D cy ad sh.length mc (va_A (gW cy ad sh M) sz)) mc ms (va_A (gW cy ad sh M) sz)
def gCall (d mi : Nat) (avs : List Value) (sh : List gS) (M : gM) (kc ks MC MS : Nat) (oth : List Value) (post : Option Value → List gS → gM → Nat → Nat → Prop) : Prop :=
  ∃ d' mc ms, d' + 1 ≤ d ∧ kc + mc ≤ MC ∧ ks + ms ≤ MS ∧ (mc = 0 ∨ oth.all (gokV sh.length) = true) ∧ gC mi d' mc ms avs sh M (fun v sh' M' => post v sh' M' (kc + mc) (ks + ms))
def gret (r : Nat) (v : Option Value) (F : List Value → Prop) : Prop := match v with
  | none => r = 0 ∧ F []
  | some (.int x) => r = 1 ∧ F [.int x]
  | some (.long x) => r = 2 ∧ F [.long x]
  | _ => False
theorem gret_e {r : Nat} {v : Option Value} {F : List Value → Prop} (h : gret r v F) : F v.toList ∧ ∀ ad, v.map (gv ad) = v := by
  unfold gret at h; split at h
  · exact ⟨h.2, fun _ => rfl⟩
  · exact ⟨h.2, fun _ => rfl⟩
  · exact ⟨h.2, fun _ => rfl⟩
  · exact h.elim
/-- the object that is asked is of that class -/
def grc (sh : List gS) (b ci : Nat) : Prop := match sh[b]? with
  | some (.inl q) => q.1 = ci
  | _ => False
theorem grc_e {sh : List gS} {b ci : Nat} (h : grc sh b ci) : ∃ fs, sh[b]? = some (.inl (ci, fs)) := by
  unfold grc at h; split at h
  · next q hq => exact ⟨q.2, by rw [hq, ← h]⟩
  · exact h.elim
def gcat (st : List Value) : Nat := (st.map fun v => v.category).sum
/-- arraycopy: from a0 at sp to a1 at dp, n -/
def gcpy (st : List Value) (F : Nat → Int32 → Nat → Int32 → Int32 → List Value → Prop) : Prop := match st with
  | .int n :: .int dp :: .ref a1 :: .int sp :: .ref a0 :: r => F a0 sp a1 dp n r
  | _ => False
theorem gcpy_e {st : List Value} {F : Nat → Int32 → Nat → Int32 → Int32 → List Value → Prop} (h : gcpy st F) : ∃ a0 sp a1 dp n r, st = .int n :: .int dp :: .ref a1 :: .int sp :: .ref a0 :: r ∧ F a0 sp a1 dp n r := by
  unfold gcpy at h; split at h
  · exact ⟨_, _, _, _, _, _, rfl, h⟩
  · exact h.elim
/-- a call by the link table: what, with how many arguments, what comes back -/
def glc (o i : Nat) (F : Nat → Nat → Nat → Nat → Nat → Prop) : Prop := match glk o i with
  | some q => F q.1 q.2.1 q.2.2.1 q.2.2.2.1 q.2.2.2.2
  | none => False
theorem glc_e {o i : Nat} {F : Nat → Nat → Nat → Nat → Nat → Prop} (h : glc o i F) : ∃ q, glk o i = some q ∧ F q.1 q.2.1 q.2.2.1 q.2.2.2.1 q.2.2.2.2 := by
  unfold glc at h; split at h
  · next q hq => exact ⟨q, hq, h⟩
  · exact h.elim
def gfc (o i : Nat) (F : Nat → Nat → Nat → Prop) : Prop := match gfl o i with
  | some q => F q.1 q.2.1 q.2.2
  | none => False
theorem gfc_e {o i : Nat} {F : Nat → Nat → Nat → Prop} (h : gfc o i F) : ∃ q, gfl o i = some q ∧ F q.1 q.2.1 q.2.2 := by
  unfold gfc at h; split at h
  · next q hq => exact ⟨q, hq, h⟩
  · exact h.elim
def gnc (o i : Nat) (F : Nat → Prop) : Prop := match gnw o i with
  | some q => F q
  | none => False
theorem gnc_e {o i : Nat} {F : Nat → Prop} (h : gnc o i F) : ∃ q, gnw o i = some q ∧ F q := by
  unfold gnc at h; split at h
  · next q hq => exact ⟨q, hq, h⟩
  · exact h.elim
def gokA (sh : List gS) (lv : List (Nat × Value)) (st : List Value) : Bool := sh.all (gokS sh.length) && lv.all (fun q => gokV sh.length q.2) && st.all (gokV sh.length) && decide (sh.length < 1000000)
abbrev gRt : Type := Option Value → List gS → gM → Nat → Nat → Prop
def gof (x : Int32) (f : Option Value) : Value := match f with
  | none => .int x
  | some v => v
def gx (o nL d MC MS rt : Nat) (ini : Bool) (sc : Option (Nat × (Nat → Int32))) (X : gX) (Rt : gRt) (ins : Instr) (len pc : Nat) (lv : List (Nat × Value)) (st : List Value) (sh : List gS) (M : gM) (kc ks : Nat) : Prop :=
  match ins with
  | .iconst n => len = 1 ∧ X (pc + 1) lv (.int (Int32.ofInt n) :: st) sh M kc ks
  | .bipush n => len = 2 ∧ (-128 ≤ n ∧ n ≤ 127) ∧ X (pc + 2) lv (.int (Int32.ofInt n) :: st) sh M kc ks
  | .sipush n => len = 3 ∧ (-32768 ≤ n ∧ n ≤ 32767) ∧ X (pc + 3) lv (.int (Int32.ofInt n) :: st) sh M kc ks
  | .lconst n => len = 1 ∧ X (pc + 1) lv (.long (Int64.ofNat n.val) :: st) sh M kc ks
  | .ldc2_w i => len = 3 ∧ ∃ x, gcl o i = some x ∧ X (pc + 3) lv (.long x :: st) sh M kc ks
  | .ldc_w i => len = 3 ∧ ∃ x, gci o i = some x ∧ X (pc + 3) lv (.int x :: st) sh M kc ks
  | .iload_n k => len = 1 ∧ glI lv k.val (fun x => X (pc + 1) lv (.int x :: st) sh M kc ks)
  | .iload k => len = 2 ∧ glI lv k (fun x => X (pc + 2) lv (.int x :: st) sh M kc ks)
  | .lload_n k => len = 1 ∧ glL lv k.val (fun x => X (pc + 1) lv (.long x :: st) sh M kc ks)
  | .lload k => len = 2 ∧ glL lv k (fun x => X (pc + 2) lv (.long x :: st) sh M kc ks)
  | .aload_n k => len = 1 ∧ glR lv k.val (fun x => X (pc + 1) lv (.ref x :: st) sh M kc ks)
  | .istore_n k => len = 1 ∧ k.val < nL ∧ gp1 st (fun x r => X (pc + 1) (lput lv k.val (.int x)) r sh M kc ks)
  | .istore k => len = 2 ∧ k < nL ∧ gp1 st (fun x r => X (pc + 2) (lput lv k (.int x)) r sh M kc ks)
  | .lstore_n k => len = 1 ∧ k.val + 1 < nL ∧ gq1 st (fun x r => X (pc + 1) (lputL lv k.val (.long x)) r sh M kc ks)
  | .lstore k => len = 2 ∧ k + 1 < nL ∧ gq1 st (fun x r => X (pc + 2) (lputL lv k (.long x)) r sh M kc ks)
  | .astore_n k => len = 1 ∧ k.val < nL ∧ gpr st (fun x r => X (pc + 1) (lput lv k.val (.ref x)) r sh M kc ks)
  | .iinc k n => len = 3 ∧ k < nL ∧ glI lv k (fun x => X (pc + 3) (lput lv k (.int (x + Int32.ofInt n))) st sh M kc ks)
  | .iadd => len = 1 ∧ gp2 st (fun x y r => X (pc + 1) lv (.int (x + y) :: r) sh M kc ks)
  | .isub => len = 1 ∧ gp2 st (fun x y r => X (pc + 1) lv (.int (x - y) :: r) sh M kc ks)
  | .imul => len = 1 ∧ gp2 st (fun x y r => X (pc + 1) lv (.int (x * y) :: r) sh M kc ks)
  | .iand => len = 1 ∧ gp2 st (fun x y r => X (pc + 1) lv (.int (x &&& y) :: r) sh M kc ks)
  | .ior => len = 1 ∧ gp2 st (fun x y r => X (pc + 1) lv (.int (x ||| y) :: r) sh M kc ks)
  | .idiv => len = 1 ∧ gp2 st (fun x y r => ¬ y = 0 ∧ X (pc + 1) lv (.int (x / y) :: r) sh M kc ks)
  | .irem => len = 1 ∧ gp2 st (fun x y r => ¬ y = 0 ∧ X (pc + 1) lv (.int (irm x y) :: r) sh M kc ks)
  | .ishl => len = 1 ∧ gp2 st (fun x y r => X (pc + 1) lv (.int (x <<< (y &&& 31)) :: r) sh M kc ks)
  | .ishr => len = 1 ∧ gp2 st (fun x y r => X (pc + 1) lv (.int (x >>> (y &&& 31)) :: r) sh M kc ks)
  | .iushr => len = 1 ∧ gp2 st (fun x y r => X (pc + 1) lv (.int (iush x y) :: r) sh M kc ks)
  | .ineg => len = 1 ∧ gp1 st (fun x r => X (pc + 1) lv (.int (-x) :: r) sh M kc ks)
  | .i2l => len = 1 ∧ gp1 st (fun x r => X (pc + 1) lv (.long x.toInt64 :: r) sh M kc ks)
  | .i2b => len = 1 ∧ gp1 st (fun x r => X (pc + 1) lv (.int x.toInt8.toInt32 :: r) sh M kc ks)
  | .l2i => len = 1 ∧ gq1 st (fun x r => X (pc + 1) lv (.int x.toInt32 :: r) sh M kc ks)
  | .ladd => len = 1 ∧ gq2 st (fun x y r => X (pc + 1) lv (.long (x + y) :: r) sh M kc ks)
  | .lmul => len = 1 ∧ gq2 st (fun x y r => X (pc + 1) lv (.long (x * y) :: r) sh M kc ks)
  | .ldiv => len = 1 ∧ gq2 st (fun x y r => ¬ y = 0 ∧ X (pc + 1) lv (.long (x / y) :: r) sh M kc ks)
  | .lrem => len = 1 ∧ gq2 st (fun x y r => ¬ y = 0 ∧ X (pc + 1) lv (.long (lrm x y) :: r) sh M kc ks)
  | .lcmp => len = 1 ∧ gq2 st (fun x y r => X (pc + 1) lv (.int (lg_cmp x y) :: r) sh M kc ks)
  | .dup => len = 1 ∧ (match st with
    | v :: r => v.category = 1 ∧ X (pc + 1) lv (v :: v :: r) sh M kc ks
    | _ => False)
  | .dup2 => len = 1 ∧ (match st with
    | v :: w :: r => (v.category = 1 ∧ w.category = 1) ∧ X (pc + 1) lv (v :: w :: v :: w :: r) sh M kc ks
    | _ => False)
  | .pop => len = 1 ∧ (match st with
    | v :: r => v.category = 1 ∧ X (pc + 1) lv r sh M kc ks
    | _ => False)
  | .goto off => len = 3 ∧ gto X pc off lv st sh M kc ks
  | .ifCond c off => len = 3 ∧ gp1 st (fun x r => 0 ≤ (pc : Int) + off ∧ (gcmp c x 0 → X ((pc : Int) + off).toNat lv r sh M kc ks) ∧ (¬ gcmp c x 0 → X (pc + 3) lv r sh M kc ks))
  | .if_icmp c off => len = 3 ∧ gp2 st (fun x y r => 0 ≤ (pc : Int) + off ∧ (gcmp c x y → X ((pc : Int) + off).toNat lv r sh M kc ks) ∧ (¬ gcmp c x y → X (pc + 3) lv r sh M kc ks))
  | .tableswitch df lo hi offs => gp1 st (fun x r => hi = lo + offs.toList.length - 1 ∧ (x.toInt < lo ∨ hi < x.toInt → gto X pc df lv r sh M kc ks) ∧ gswT (fun off => gto X pc off lv r sh M kc ks) x lo offs.toList)
  | .lookupswitch df ps => (ps.toList.zip (ps.toList.drop 1)).all (fun (a, next) => a.1 < next.1) = true ∧ gp1 st (fun x r => gswL (fun off => gto X pc off lv r sh M kc ks) x df ps.toList)
  | .getfield i => len = 3 ∧ gfc o i (fun ci k _ => gpr st (fun a r => ggf sh a ci k (fun _ f => X (pc + 3) lv (gof (M a k) f :: r) sh M kc ks)))
  | .putfield i => len = 3 ∧ gfc o i (fun ci k t =>
      if t < 2 then gpir st (fun a x r => ggf sh a ci k (fun _ f => f = none ∧ (t = 1 → x = 0 ∨ x = 1) ∧ X (pc + 3) lv r sh (gsr M a (upd (M a) k x)) kc ks))
      else gprr st (fun a b r => (t = 3 → ini = true ∧ ci = o) ∧ ggf sh a ci k (fun fs _ => X (pc + 3) lv r (sh.set a (.inl (ci, fs.set k (some (.ref b))))) M kc ks)))
  | .iaload => len = 1 ∧ gpir st (fun a i r => gar sh a 0 (fun n => vp_in i n ∧ X (pc + 1) lv (.int (M a i.toNatClampNeg) :: r) sh M kc ks) (a = 1000000 ∧ ∃ q, sc = some q ∧ vp_in i q.1 ∧ X (pc + 1) lv (.int (q.2 i.toNatClampNeg) :: r) sh M kc ks))
  | .baload => len = 1 ∧ gpir st (fun a i r => gar sh a 1 (fun n => vp_in i n ∧ X (pc + 1) lv (.int (M a i.toNatClampNeg) :: r) sh M kc ks) False)
  | .aaload => len = 1 ∧ gpir st (fun a i r => gaq sh a (fun l => vp_in i l.length ∧ ∃ q, l.getD i.toNatClampNeg none = some q ∧ X (pc + 1) lv (.ref q :: r) sh M kc ks))
  | .iastore => len = 1 ∧ gpiir st (fun a i x r => gar sh a 0 (fun n => vp_in i n ∧ X (pc + 1) lv r sh (gsr M a (upd (M a) i.toNatClampNeg x)) kc ks) False)
  | .bastore => len = 1 ∧ gpiir st (fun a i x r => gar sh a 1 (fun n => vp_in i n ∧ X (pc + 1) lv r sh (gsr M a (upd (M a) i.toNatClampNeg x.toInt8.toInt32)) kc ks) False)
  | .aastore => len = 1 ∧ gprir st (fun a i v r => gaq sh a (fun l => vp_in i l.length ∧ grc sh v 3 ∧ X (pc + 1) lv r (sh.set a (.inr (.inr (l.set i.toNatClampNeg (some v))))) M kc ks))
  | .arraylength => len = 1 ∧ gpr st (fun a r => match sh[a]? with
      | some (.inr (.inl q)) => q.1 < 2 ∧ X (pc + 1) lv (.int (nI q.2) :: r) sh M kc ks
      | some (.inr (.inr l)) => X (pc + 1) lv (.int (nI l.length) :: r) sh M kc ks
      | none => a = 1000000 ∧ ∃ q, sc = some q ∧ X (pc + 1) lv (.int (nI q.1) :: r) sh M kc ks
      | _ => False)
  | .new i => len = 3 ∧ gnc o i (fun ci => kc + 1 ≤ MC ∧ ks + (gdef ci).length ≤ MS ∧ gokA sh lv st = true ∧ X (pc + 3) lv (.ref sh.length :: st) (sh ++ [.inl (ci, gdef ci)]) (gsr M sh.length (fun _ => 0)) (kc + 1) (ks + (gdef ci).length))
  | .newarray t => len = 2 ∧ gp1 st (fun n r => (t = .int ∨ t = .byte) ∧ ¬ n < 0 ∧ n.toNatClampNeg ≤ 1000 ∧ kc + 1 ≤ MC ∧ ks + n.toNatClampNeg ≤ MS ∧ gokA sh lv r = true ∧ X (pc + 2) lv (.ref sh.length :: r) (sh ++ [.inr (.inl (if t = .int then 0 else 1, n.toNatClampNeg))]) (gsr M sh.length (fun _ => 0)) (kc + 1) (ks + n.toNatClampNeg))
  | .anewarray i => len = 3 ∧ gnw o i = some 3 ∧ gp1 st (fun n r => ¬ n < 0 ∧ n.toNatClampNeg ≤ 1000 ∧ kc + 1 ≤ MC ∧ ks + n.toNatClampNeg ≤ MS ∧ gokA sh lv r = true ∧ X (pc + 3) lv (.ref sh.length :: r) (sh ++ [.inr (.inr (List.replicate n.toNatClampNeg none))]) (gsr M sh.length (fun _ => 0)) (kc + 1) (ks + n.toNatClampNeg))
  | .invokevirtual i => len = 3 ∧ glc o i (fun kd mi n r ci => kd = 0 ∧ n ≤ st.length ∧ gpr (st.drop n) (fun b rest => gcat rest ≤ 8 ∧ grc sh b ci ∧ gCall d mi (.ref b :: (st.take n).reverse) sh M kc ks MC MS (lv.map Prod.snd ++ rest) (fun v sh' M' kc' ks' => gret r v (fun w => X (pc + 3) lv (w ++ rest) sh' M' kc' ks'))))
  | .invokestatic i => len = 3 ∧ glc o i (fun kd mi n r _ => if kd = 6 then gcpy st (fun a0 sp a1 dp m rest => gcat rest ≤ 8 ∧ 1 ≤ d ∧ gar sh a0 0 (fun n0 => gar sh a1 0 (fun n1 => ¬ sp < 0 ∧ ¬ dp < 0 ∧ ¬ m < 0 ∧ sp.toNatClampNeg + m.toNatClampNeg ≤ n0 ∧ dp.toNatClampNeg + m.toNatClampNeg ≤ n1 ∧ X (pc + 3) lv rest sh (gsr M a1 (va_cpy (M a0) (M a1) sp.toNatClampNeg dp.toNatClampNeg m.toNatClampNeg)) kc ks) False) False)
      else (kd = 1 ∨ kd = 3) ∧ n ≤ st.length ∧ gcat (st.drop n) ≤ 8 ∧ gCall d mi ((st.take n).reverse) sh M kc ks MC MS (lv.map Prod.snd ++ st.drop n) (fun v sh' M' kc' ks' => gret r v (fun w => X (pc + 3) lv (w ++ st.drop n) sh' M' kc' ks')))
  | .invokespecial i => len = 3 ∧ glc o i (fun kd mi n r _ => if kd = 5 then gpr st (fun _ rest => gcat rest ≤ 8 ∧ 1 ≤ d ∧ X (pc + 3) lv rest sh M kc ks)
      else (kd = 2 ∨ kd = 4) ∧ n ≤ st.length ∧ gpr (st.drop n) (fun b rest => gcat rest ≤ 8 ∧ gCall d mi (.ref b :: (st.take n).reverse) sh M kc ks MC MS (lv.map Prod.snd ++ rest) (fun v sh' M' kc' ks' => gret r v (fun w => X (pc + 3) lv (w ++ rest) sh' M' kc' ks'))))
  | .ireturn => len = 1 ∧ gp1 st (fun x r => r = [] ∧ (rt = 1 ∨ (rt = 2 ∧ (x = 0 ∨ x = 1))) ∧ Rt (some (.int x)) sh M kc ks)
  | .lreturn => len = 1 ∧ gq1 st (fun x r => r = [] ∧ rt = 3 ∧ Rt (some (.long x)) sh M kc ks)
  | .return_ => len = 1 ∧ st = [] ∧ rt = 0 ∧ Rt none sh M kc ks
  | _ => False
end
section
/-! THE RULES HOLD OVER THE MACHINE -/
theorem glook {β : Type} : ∀ {l : List ((Nat × Nat) × β)} {k : Nat × Nat} {b : β}, l.lookup k = some b → (k, b) ∈ l
  | [], k, b, h => by cases h
  | (k', b') :: l, k, b, h => by
    rw [List.lookup_cons] at h
    by_cases hk : k = k'
    · subst hk
      simp at h
      subst h
      exact List.mem_cons_self
    · have hb : (k == k') = false := beq_eq_false_iff_ne.mpr hk
      rw [hb] at h
      exact List.mem_cons_of_mem _ (glook h)
def gdl (c : Nat) : List Value := (gdef c).map (fun o => match o with
  | none => .int 0
  | some v => v)
theorem gdl_g (ad : Nat → Nat) (fs : List (Option Value)) (h : fs.all (fun o => match o with
  | none => true
  | some v => decide (v = .null)) = true) : gfv ad (fun _ => 0) fs = fs.map (fun o => match o with
  | none => .int 0
  | some v => v) := by
  refine List.ext_getElem? fun j => ?_
  rw [gfv, List.getElem?_mapIdx, List.getElem?_map]
  cases hj : fs[j]? with
  | none => rfl
  | some o =>
    have ho := List.all_eq_true.mp h o (List.mem_of_getElem? hj)
    cases o with
    | none => rfl
    | some v =>
      have hv : v = .null := by simpa using ho
      subst hv
      rfl
theorem gdl_e0 (ad : Nat → Nat) : gfv ad (fun _ => 0) (gdef 0) = gdl 0 := gdl_g ad _ (by decide)
theorem gdl_v0 : ∀ j, j < 6 → defaultValue (tyX0 j) = vp_V (gdl 0) j := by decide +kernel
theorem gdl_e1 (ad : Nat → Nat) : gfv ad (fun _ => 0) (gdef 1) = gdl 1 := gdl_g ad _ (by decide)
theorem gdl_v1 : ∀ j, j < 4 → defaultValue (tyX1 j) = vp_V (gdl 1) j := by decide +kernel
theorem gdl_e2 (ad : Nat → Nat) : gfv ad (fun _ => 0) (gdef 2) = gdl 2 := gdl_g ad _ (by decide)
theorem gdl_v2 : ∀ j, j < 3 → defaultValue (tyX2 j) = vp_V (gdl 2) j := by decide +kernel
theorem gdl_e3 (ad : Nat → Nat) : gfv ad (fun _ => 0) (gdef 3) = gdl 3 := gdl_g ad _ (by decide)
theorem gdl_v3 : ∀ j, j < 4 → defaultValue (tyX3 j) = vp_V (gdl 3) j := by decide +kernel
theorem gdl_e4 (ad : Nat → Nat) : gfv ad (fun _ => 0) (gdef 4) = gdl 4 := gdl_g ad _ (by decide)
theorem gdl_v4 : ∀ j, j < 9 → defaultValue (tyX4 j) = vp_V (gdl 4) j := by decide +kernel
theorem gdl_e5 (ad : Nat → Nat) : gfv ad (fun _ => 0) (gdef 5) = gdl 5 := gdl_g ad _ (by decide)
theorem gdl_v5 : ∀ j, j < 8 → defaultValue (tyX5 j) = vp_V (gdl 5) j := by decide +kernel
theorem gdl_e6 (ad : Nat → Nat) : gfv ad (fun _ => 0) (gdef 6) = gdl 6 := gdl_g ad _ (by decide)
theorem gdl_v6 : ∀ j, j < 10 → defaultValue (tyX6 j) = vp_V (gdl 6) j := by decide +kernel
theorem gdl_e7 (ad : Nat → Nat) : gfv ad (fun _ => 0) (gdef 7) = gdl 7 := gdl_g ad _ (by decide)
theorem gdl_v7 : ∀ j, j < 23 → defaultValue (tyX7 j) = vp_V (gdl 7) j := by decide +kernel
theorem gvcls {ci : Nat} {C : String} {T : u_T} {N : Nat} (h : vwCl[ci]? = some (C, T, N)) : (∃ ty : Nat → FieldType, (∀ k, k < N → parseFieldDescriptor (T k).2.2.1 = some (ty k)) ∧ ∀ ad : Nat → Nat, ∀ j, j < N → defaultValue (ty j) = vp_V (gfv ad (fun _ => 0) (gdef ci)) j) ∧ (∀ a, a < N → ∀ b, b < N → a ≠ b → (T a).2.1 ≠ (T b).2.1) ∧ gown ci = C ∧ (gdef ci).length = N ∧ ∀ w ∈ u_ws C T N, w ∈ gwl := by
  have hin : ∀ w ∈ u_ws C T N, w ∈ gwl := fun w hw => gws_in w (List.mem_flatMap.mpr ⟨(C, T, N), List.mem_of_getElem? h, hw⟩)
  match ci, h with
  | 0, h => cases h; exact ⟨⟨tyX0, tyX0_ok, fun ad j hj => by rw [gdl_e0]; exact gdl_v0 j hj⟩, nmX0, rfl, rfl, hin⟩
  | 1, h => cases h; exact ⟨⟨tyX1, tyX1_ok, fun ad j hj => by rw [gdl_e1]; exact gdl_v1 j hj⟩, nmX1, rfl, rfl, hin⟩
  | 2, h => cases h; exact ⟨⟨tyX2, tyX2_ok, fun ad j hj => by rw [gdl_e2]; exact gdl_v2 j hj⟩, nmX2, rfl, rfl, hin⟩
  | 3, h => cases h; exact ⟨⟨tyX3, tyX3_ok, fun ad j hj => by rw [gdl_e3]; exact gdl_v3 j hj⟩, nmX3, rfl, rfl, hin⟩
  | 4, h => cases h; exact ⟨⟨tyX4, tyX4_ok, fun ad j hj => by rw [gdl_e4]; exact gdl_v4 j hj⟩, nmX4, rfl, rfl, hin⟩
  | 5, h => cases h; exact ⟨⟨tyX5, tyX5_ok, fun ad j hj => by rw [gdl_e5]; exact gdl_v5 j hj⟩, nmX5, rfl, rfl, hin⟩
  | 6, h => cases h; exact ⟨⟨tyX6, tyX6_ok, fun ad j hj => by rw [gdl_e6]; exact gdl_v6 j hj⟩, nmX6, rfl, rfl, hin⟩
  | 7, h => cases h; exact ⟨⟨tyX7, tyX7_ok, fun ad j hj => by rw [gdl_e7]; exact gdl_v7 j hj⟩, nmX7, rfl, rfl, hin⟩
  | ci + 8, h => simp [vwCl] at h
theorem gfl_spec {o i : Nat} {q : Nat × Nat × Nat} (h : gfl o i = some q) : ∃ (C : String) (T : u_T) (N : Nat), vwCl[q.1]? = some (C, T, N) ∧ q.2.1 < N ∧ Jvm.Cond.fieldLink (gown o) i (T q.2.1).1 (T q.2.1).2.1 (T q.2.1).2.2.1 ∈ gwl ∧ (T q.2.1).2.2.2 = (q.2.2 == 3) ∧ gtyB q.2.2 (parseFieldDescriptor (T q.2.1).2.2.1) = true ∧ (T q.2.1).1 = C := by
  have hm := glook (show gflT.lookup (o, i) = some q from h)
  have hb := List.all_eq_true.mp gflT_ok _ hm
  have hw : ∀ w ∈ gflW ((o, i), q), w ∈ gwl := fun w hw => gflT_in w (List.mem_flatMap.mpr ⟨_, hm, hw⟩)
  unfold gflB at hb
  unfold gflW at hw
  cases hv : vwCl[q.1]? with
  | none => simp only [hv] at hb; cases hb
  | some r =>
    simp only [hv] at hb hw
    obtain ⟨C, T, N⟩ := r
    simp only [Bool.and_eq_true, decide_eq_true_eq, beq_iff_eq] at hb
    exact ⟨C, T, N, rfl, hb.1.1.1, hw _ List.mem_cons_self, hb.1.1.2, hb.1.2, hb.2⟩
section GSa
variable {p : Program} {l : Launch} {e : Env} {R : Room} {s : State} {m : MethodId} {args : Array Value} {below : List Frame} {meth : Method} {c : Code} {A : Nat → Prop} {D : va_G} {cy : Nat → ClassId} {o nL d MC MS : Nat} {cc : ByteArray} {ret : Option FieldType} {ini : Bool} {Z : State → Prop} {n0 : Nat} {ad0 : Nat → Nat} {pc : Nat} {lv : List (Nat × Value)} {st : List Value} {sh : List gS} {M : gM} {kc ks : Nat}
theorem gs_get (S : gSt p R s m args meth c A D cy o nL d MC MS cc ret ini) {i ci k t a : Nat} {fs : List (Option Value)} {f : Option Value} (hq : gfl o i = some (ci, k, t)) (hd : decode cc pc = .ok (.getfield i, 3)) (ha : sh[a]? = some (.inl (ci, fs))) (hf : fs[k]? = some f)
    (h : gG p l e R s m args below meth c A D cy nL MC Z n0 ad0 (pc + 3) lv (gof (M a k) f :: st) sh M kc ks) : gG p l e R s m args below meth c A D cy nL MC Z n0 ad0 pc lv (.ref a :: st) sh M kc ks := by
  obtain ⟨hx, hb, hr, hml, hown, hts, hlocks, hK, hA, hR, hini, hX⟩ := S
  obtain ⟨C, T, N, hv, hkN, hw, -, -, -⟩ := gfl_spec hq
  intro ad H locs ls h1 h2 h3 hP hD hS hl
  refine va_get (D := D) (ci := ci) (C := C) (T := T) (N := N) hx hb hts (gvcls hv).2.2.2.2 hown hK hP a (gW_get ha) hv k hkN (hts _ hw) (fun _ z => z) (gfv_get hf) hd ?_
  have hk := h ad H locs ls h1 h2 h3 hP hD hS hl
  cases f with
  | none => exact hk
  | some v => exact hk
theorem gs_puti (S : gSt p R s m args meth c A D cy o nL d MC MS cc ret ini) {i ci k t a : Nat} {x : Int32} {fs : List (Option Value)} (hq : gfl o i = some (ci, k, t)) (ht : t < 2) (hbit : t = 1 → x = 0 ∨ x = 1) (hd : decode cc pc = .ok (.putfield i, 3)) (ha : sh[a]? = some (.inl (ci, fs))) (hf : fs[k]? = some none)
    (h : gG p l e R s m args below meth c A D cy nL MC Z n0 ad0 (pc + 3) lv st sh (gsr M a (upd (M a) k x)) kc ks) : gG p l e R s m args below meth c A D cy nL MC Z n0 ad0 pc lv (.int x :: .ref a :: st) sh M kc ks := by
  obtain ⟨hx, hb, hr, hml, hown, hts, hlocks, hK, hA, hR, hini, hX⟩ := S
  obtain ⟨C, T, N, hv, hkN, hw, hfin, hty, hdecl⟩ := gfl_spec hq
  obtain ⟨⟨ty0, hty0, -⟩, hnm, -, -, hin⟩ := gvcls hv
  have hfin : (T k).2.2.2 = false := by
    rw [hfin]
    show (t == 3) = false
    exact beq_eq_false_iff_ne.mpr (by omega)
  obtain ⟨ty, hp, hn, hft⟩ : ∃ ty, parseFieldDescriptor (T k).2.2.1 = some ty ∧ narrow ty (.int x) = .int x ∧ fits ty (.int x) = true := by
    dsimp only at hty
    cases hp : parseFieldDescriptor (T k).2.2.1 with
    | none => rw [hp] at hty; cases hty
    | some ty =>
      rw [hp] at hty
      cases ty with
      | int => exact ⟨.int, rfl, rfl, rfl⟩
      | boolean =>
        have h1 : t = 1 := by simpa [gtyB] using hty
        rcases hbit h1 with rfl | rfl
        · exact ⟨.boolean, rfl, rfl, rfl⟩
        · exact ⟨.boolean, rfl, rfl, rfl⟩
      | object n => simp [gtyB] at hty; omega
      | array n => simp [gtyB] at hty; omega
      | _ => simp [gtyB] at hty
  intro ad H locs ls h1 h2 h3 hP hD hS hl
  refine va_put (D := D) (ci := ci) (C := C) (T := T) (N := N) hx hb hts hin ty0 hty0 hnm hown hK hP hD hS a (gW_get ha) hv k hkN (hts _ hw) (fun _ z => z) hfin hp hn hft (by rw [gfv, List.length_mapIdx]; exact (List.getElem?_eq_some_iff.mp hf).1) hd (fun H1 locs1 hP1 hD1 hS1 => ?_)
  have hP1 : va_P D vwCl ((gW cy ad sh M).set a (ad a, .inr (ci, (gfv ad (M a) fs).set k (.int x)))) H1 := hP1
  have hD1 : va_D A ((gW cy ad sh M).set a (ad a, .inr (ci, (gfv ad (M a) fs).set k (.int x)))) := hD1
  rw [gfv_put x hf] at hP1 hD1
  rw [show (.inr (ci, gfv ad (upd (M a) k x) fs) : va_E) = gcell cy ad (upd (M a) k x) (.inl (ci, fs)) from rfl, gW_row (upd (M a) k x) ha] at hP1 hD1
  exact h ad H1 locs1 ls h1 h2 h3 hP1 hD1 hS1 hl
theorem gs_putr (S : gSt p R s m args meth c A D cy o nL d MC MS cc ret ini) {i ci k t a b : Nat} {fs : List (Option Value)} {f : Option Value} (hq : gfl o i = some (ci, k, t)) (ht : ¬ t < 2) (h3i : t = 3 → ini = true ∧ ci = o) (hd : decode cc pc = .ok (.putfield i, 3)) (ha : sh[a]? = some (.inl (ci, fs))) (hf : fs[k]? = some f)
    (h : gG p l e R s m args below meth c A D cy nL MC Z n0 ad0 (pc + 3) lv st (sh.set a (.inl (ci, fs.set k (some (.ref b))))) M kc ks) : gG p l e R s m args below meth c A D cy nL MC Z n0 ad0 pc lv (.ref b :: .ref a :: st) sh M kc ks := by
  obtain ⟨hx, hb, hr, hml, hown, hts, hlocks, hK, hA, hR, hini, hX⟩ := S
  obtain ⟨C, T, N, hv, hkN, hw, hfin, hty, hdecl⟩ := gfl_spec hq
  obtain ⟨⟨ty0, hty0, -⟩, hnm, hoC, -, hin⟩ := gvcls hv
  have hkl : k < fs.length := (List.getElem?_eq_some_iff.mp hf).1
  intro ad H locs ls h1 h2 h3 hP hD hS hl
  obtain ⟨ty, hp, hn, hft⟩ : ∃ ty, parseFieldDescriptor (T k).2.2.1 = some ty ∧ narrow ty (.ref (ad b)) = .ref (ad b) ∧ fits ty (.ref (ad b)) = true := by
    dsimp only at hty
    cases hp : parseFieldDescriptor (T k).2.2.1 with
    | none => rw [hp] at hty; cases hty
    | some ty =>
      rw [hp] at hty
      cases ty with
      | int => simp [gtyB] at hty; omega
      | boolean => simp [gtyB] at hty; omega
      | object n => exact ⟨_, rfl, rfl, rfl⟩
      | array n => exact ⟨_, rfl, rfl, rfl⟩
      | _ => simp [gtyB] at hty
  have key : ∀ (H1 : Heap) (locs1 : List Loc), va_P D vwCl ((gW cy ad sh M).set a (ad a, .inr (ci, (gfv ad (M a) fs).set k (.ref (ad b))))) H1 → va_D A ((gW cy ad sh M).set a (ad a, .inr (ci, (gfv ad (M a) fs).set k (.ref (ad b))))) → va_S A s.heap H1 locs1 → W p l e R s m args below meth c H1 locs1 kc ks Z (F0 m (pc + 3) ls (st.map (gv ad))) := by
    intro H1 locs1 hP1 hD1 hS1
    rw [show (Value.ref (ad b)) = gv ad (.ref b) from rfl, gfv_ref (.ref b) hkl] at hP1 hD1
    rw [show (.inr (ci, gfv ad (M a) (fs.set k (some (.ref b)))) : va_E) = gcell cy ad (M a) (.inl (ci, fs.set k (some (.ref b)))) from rfl, gW_shape _ (List.getElem?_eq_some_iff.mp ha).1] at hP1 hD1
    exact h ad H1 locs1 ls h1 h2 (by rw [List.length_set]; exact h3) hP1 hD1 hS1 hl
  have hlen : k < (gfv ad (M a) fs).length := by rw [gfv, List.length_mapIdx]; exact hkl
  by_cases ht3 : t = 3
  · obtain ⟨g1, g2⟩ := h3i ht3
    subst g2
    have hfin : (T k).2.2.2 = true := by rw [hfin]; show (t == 3) = true; exact beq_iff_eq.mpr ht3
    exact va_putF (D := D) (ci := ci) (C := C) (T := T) (N := N) hx hb hts hin ty0 hty0 hnm hown hK hP hD hS a (gW_get ha) hv k hkN (hts _ hw) (fun _ z => z) hfin (hini g1) (by rw [hoC]; exact hdecl) hp hn hft hlen hd key
  · have hfin : (T k).2.2.2 = false := by rw [hfin]; show (t == 3) = false; exact beq_eq_false_iff_ne.mpr ht3
    exact va_put (D := D) (ci := ci) (C := C) (T := T) (N := N) hx hb hts hin ty0 hty0 hnm hown hK hP hD hS a (gW_get ha) hv k hkN (hts _ hw) (fun _ z => z) hfin hp hn hft hlen hd key
theorem gs_iald (S : gSt p R s m args meth c A D cy o nL d MC MS cc ret ini) {a n : Nat} {i : Int32} (hd : decode cc pc = .ok (.iaload, 1)) (ha : sh[a]? = some (.inr (.inl (0, n)))) (hi : vp_in i n) (h : gG p l e R s m args below meth c A D cy nL MC Z n0 ad0 (pc + 1) lv (.int (M a i.toNatClampNeg) :: st) sh M kc ks) : gG p l e R s m args below meth c A D cy nL MC Z n0 ad0 pc lv (.int i :: .ref a :: st) sh M kc ks :=
  fun ad H locs ls h1 h2 h3 hP hD hS hl => va_iald S.1 S.2.1 S.2.2.2.2.2.2.2.1 hP a 0 (gW_get ha) rfl hi hd (h ad H locs ls h1 h2 h3 hP hD hS hl)
theorem gs_bald (S : gSt p R s m args meth c A D cy o nL d MC MS cc ret ini) {a n : Nat} {i : Int32} (hd : decode cc pc = .ok (.baload, 1)) (ha : sh[a]? = some (.inr (.inl (1, n)))) (hi : vp_in i n) (h : gG p l e R s m args below meth c A D cy nL MC Z n0 ad0 (pc + 1) lv (.int (M a i.toNatClampNeg) :: st) sh M kc ks) : gG p l e R s m args below meth c A D cy nL MC Z n0 ad0 pc lv (.int i :: .ref a :: st) sh M kc ks :=
  fun ad H locs ls h1 h2 h3 hP hD hS hl => va_bald S.1 S.2.1 S.2.2.2.2.2.2.2.1 hP a 1 (gW_get ha) rfl hi hd (h ad H locs ls h1 h2 h3 hP hD hS hl)
theorem gs_aald (S : gSt p R s m args meth c A D cy o nL d MC MS cc ret ini) {a q : Nat} {l' : List (Option Nat)} {i : Int32} (hd : decode cc pc = .ok (.aaload, 1)) (ha : sh[a]? = some (.inr (.inr l'))) (hi : vp_in i l'.length) (hq : l'.getD i.toNatClampNeg none = some q) (h : gG p l e R s m args below meth c A D cy nL MC Z n0 ad0 (pc + 1) lv (.ref q :: st) sh M kc ks) : gG p l e R s m args below meth c A D cy nL MC Z n0 ad0 pc lv (.int i :: .ref a :: st) sh M kc ks := by
  intro ad H locs ls h1 h2 h3 hP hD hS hl
  refine va_aldq S.1 S.2.1 S.2.2.2.2.2.2.2.1 hP a 2 (gW_get ha) rfl hi hd ?_
  have hk := h ad H locs ls h1 h2 h3 hP hD hS hl
  rw [hq]
  exact hk
theorem gs_iast (S : gSt p R s m args meth c A D cy o nL d MC MS cc ret ini) {a n : Nat} {i x : Int32} (hd : decode cc pc = .ok (.iastore, 1)) (ha : sh[a]? = some (.inr (.inl (0, n)))) (hi : vp_in i n) (h : gG p l e R s m args below meth c A D cy nL MC Z n0 ad0 (pc + 1) lv st sh (gsr M a (upd (M a) i.toNatClampNeg x)) kc ks) : gG p l e R s m args below meth c A D cy nL MC Z n0 ad0 pc lv (.int x :: .int i :: .ref a :: st) sh M kc ks := by
  intro ad H locs ls h1 h2 h3 hP hD hS hl
  refine va_iast S.1 S.2.1 S.2.2.2.2.2.2.2.1 hP hD hS a 0 (gW_get ha) rfl hi hd (fun H1 locs1 hP1 hD1 hS1 => ?_)
  rw [show (.inl (cy 0, n, .inl (upd (M a) i.toNatClampNeg x)) : va_E) = gcell cy ad (upd (M a) i.toNatClampNeg x) (.inr (.inl (0, n))) from rfl, gW_row _ ha] at hP1 hD1
  exact h ad H1 locs1 ls h1 h2 h3 hP1 hD1 hS1 hl
theorem gs_bast (S : gSt p R s m args meth c A D cy o nL d MC MS cc ret ini) {a n : Nat} {i x : Int32} (hd : decode cc pc = .ok (.bastore, 1)) (ha : sh[a]? = some (.inr (.inl (1, n)))) (hi : vp_in i n) (h : gG p l e R s m args below meth c A D cy nL MC Z n0 ad0 (pc + 1) lv st sh (gsr M a (upd (M a) i.toNatClampNeg x.toInt8.toInt32)) kc ks) : gG p l e R s m args below meth c A D cy nL MC Z n0 ad0 pc lv (.int x :: .int i :: .ref a :: st) sh M kc ks := by
  intro ad H locs ls h1 h2 h3 hP hD hS hl
  refine va_bast S.1 S.2.1 S.2.2.2.2.2.2.2.1 hP hD hS a 1 (gW_get ha) rfl hi hd (fun H1 locs1 hP1 hD1 hS1 => ?_)
  rw [vp_nar_byte] at hP1 hD1
  rw [show (.inl (cy 1, n, .inl (upd (M a) i.toNatClampNeg x.toInt8.toInt32)) : va_E) = gcell cy ad (upd (M a) i.toNatClampNeg x.toInt8.toInt32) (.inr (.inl (1, n))) from rfl, gW_row _ ha] at hP1 hD1
  exact h ad H1 locs1 ls h1 h2 h3 hP1 hD1 hS1 hl
theorem gs_aast (S : gSt p R s m args meth c A D cy o nL d MC MS cc ret ini) {a v : Nat} {l' : List (Option Nat)} {fs : List (Option Value)} {i : Int32} (hd : decode cc pc = .ok (.aastore, 1)) (ha : sh[a]? = some (.inr (.inr l'))) (hi : vp_in i l'.length) (hv : sh[v]? = some (.inl (3, fs))) (h : gG p l e R s m args below meth c A D cy nL MC Z n0 ad0 (pc + 1) lv st (sh.set a (.inr (.inr (l'.set i.toNatClampNeg (some v))))) M kc ks) : gG p l e R s m args below meth c A D cy nL MC Z n0 ad0 pc lv (.ref v :: .int i :: .ref a :: st) sh M kc ks := by
  intro ad H locs ls h1 h2 h3 hP hD hS hl
  refine va_astq S.1 S.2.1 S.2.2.2.2.2.2.2.1 hP hD hS a 2 v 3 (r := (RX3, TX3, 4)) (gW_get ha) rfl (gW_get hv) rfl hi hd (fun H1 locs1 hP1 hD1 hS1 => ?_)
  have hlt : i.toNatClampNeg < l'.length := Nat.not_le.mp fun q => hi (Or.inr q)
  have he : (va_up (fun j => (l'.getD j none).map ad) i.toNatClampNeg (some (ad v))) = (fun j => ((l'.set i.toNatClampNeg (some v)).getD j none).map ad) := by
    funext j
    by_cases hj : j = i.toNatClampNeg
    · subst hj
      simp [va_up, List.getD, List.getElem?_set_self hlt]
    · simp [va_up, hj, List.getD, List.getElem?_set_ne (Ne.symm hj)]
  rw [he] at hP1 hD1
  rw [show (.inl (cy 2, l'.length, .inr (.inr (.inr (.inr (fun j => ((l'.set i.toNatClampNeg (some v)).getD j none).map ad))))) : va_E) = gcell cy ad (M a) (.inr (.inr (l'.set i.toNatClampNeg (some v)))) from by show _ = (Sum.inl (cy 2, (l'.set i.toNatClampNeg (some v)).length, _) : va_E); rw [List.length_set], gW_shape _ (List.getElem?_eq_some_iff.mp ha).1] at hP1 hD1
  exact h ad H1 locs1 ls h1 h2 (by rw [List.length_set]; exact h3) hP1 hD1 hS1 hl
theorem gs_alen (S : gSt p R s m args meth c A D cy o nL d MC MS cc ret ini) {a kd n : Nat} (hd : decode cc pc = .ok (.arraylength, 1)) (ha : sh[a]? = some (.inr (.inl (kd, n)))) (hk : kd < 2) (h : gG p l e R s m args below meth c A D cy nL MC Z n0 ad0 (pc + 1) lv (.int (nI n) :: st) sh M kc ks) : gG p l e R s m args below meth c A D cy nL MC Z n0 ad0 pc lv (.ref a :: st) sh M kc ks := by
  intro ad H locs ls h1 h2 h3 hP hD hS hl
  rcases (show kd = 0 ∨ kd = 1 by omega) with rfl | rfl
  · exact va_alen S.1 S.2.1 S.2.2.2.2.2.2.2.1 hP a 0 (gW_get ha) rfl rfl hd (h ad H locs ls h1 h2 h3 hP hD hS hl)
  · exact va_alen S.1 S.2.1 S.2.2.2.2.2.2.2.1 hP a 1 (gW_get ha) rfl rfl hd (h ad H locs ls h1 h2 h3 hP hD hS hl)
theorem gs_qlen (S : gSt p R s m args meth c A D cy o nL d MC MS cc ret ini) {a : Nat} {l' : List (Option Nat)} (hd : decode cc pc = .ok (.arraylength, 1)) (ha : sh[a]? = some (.inr (.inr l'))) (h : gG p l e R s m args below meth c A D cy nL MC Z n0 ad0 (pc + 1) lv (.int (nI l'.length) :: st) sh M kc ks) : gG p l e R s m args below meth c A D cy nL MC Z n0 ad0 pc lv (.ref a :: st) sh M kc ks := by
  intro ad H locs ls h1 h2 h3 hP hD hS hl
  exact va_alen S.1 S.2.1 S.2.2.2.2.2.2.2.1 hP a 2 (gW_get ha) rfl rfl hd (h ad H locs ls h1 h2 h3 hP hD hS hl)
theorem gs_cpy (S : gSt p R s m args meth c A D cy o nL d MC MS cc ret ini) {i a0 a1 n0' n1 : Nat} {q : Nat × Nat × Nat × Nat} {sp dp k : Int32} (hq : glk o i = some (6, q)) (hd1 : 1 ≤ d) (hst : gcat st ≤ 8) (hd : decode cc pc = .ok (.invokestatic i, 3)) (ha0 : sh[a0]? = some (.inr (.inl (0, n0')))) (ha1 : sh[a1]? = some (.inr (.inl (0, n1)))) (g1 : ¬ sp < 0) (g2 : ¬ dp < 0) (g3 : ¬ k < 0) (g4 : sp.toNatClampNeg + k.toNatClampNeg ≤ n0') (g5 : dp.toNatClampNeg + k.toNatClampNeg ≤ n1)
    (h : gG p l e R s m args below meth c A D cy nL MC Z n0 ad0 (pc + 3) lv st sh (gsr M a1 (va_cpy (M a0) (M a1) sp.toNatClampNeg dp.toNatClampNeg k.toNatClampNeg)) kc ks) : gG p l e R s m args below meth c A D cy nL MC Z n0 ad0 pc lv (.int k :: .int dp :: .ref a1 :: .int sp :: .ref a0 :: st) sh M kc ks := by
  obtain ⟨hx, hb, hr, hml, hown, hts, hlocks, hK, hA, hR, hini, hX⟩ := S
  have hm := glook (show glkT.lookup (o, i) = some (6, q) from hq)
  have hw : ∀ w ∈ glkW ((o, i), (6, q)), w ∈ gwl := fun w hw => glkT_in w (List.mem_flatMap.mpr ⟨_, hm, hw⟩)
  have hw : ∀ w ∈ [Jvm.Cond.methodLink (gown o) i arraycopyName, .native arraycopyName, .static arraycopyName, .initialized "java/lang/System"], w ∈ gwl := hw
  intro ad H locs ls h1 h2 h3 hP hD hS hl
  refine va_copyi hx hb (by rw [hml]; exact hl.1.symm) hown (hts _ (hw _ (by simp))) (hts _ (hw _ (by simp))) (hts _ (hw _ (by simp))) (hts _ (hw _ (by simp))) hK hP hD hS a0 a1 0 0 (gW_get ha0) (gW_get ha1) rfl rfl rfl g1 g2 g3 g4 g5 (fun _ _ => rfl) (Nat.le_trans hd1 hR.1) ?_ hd (fun H1 locs1 hP1 hD1 hS1 => ?_)
  · have e : ((st.map (gv ad)).map fun v => v.category) = st.map (fun v => v.category) := by
      rw [List.map_map]; exact List.map_congr_left (fun v _ => gv_cat ad v)
    have e2 : nativeFrameWords "java/lang/System" "arraycopy" 5 = 7 := by decide
    rw [e, e2]
    have := hR.2.1
    have h8 : (st.map (fun v => v.category)).sum ≤ 8 := hst
    omega
  · rw [show (.inl (cy 0, n1, .inl (va_cpy (M a0) (M a1) sp.toNatClampNeg dp.toNatClampNeg k.toNatClampNeg)) : va_E) = gcell cy ad (va_cpy (M a0) (M a1) sp.toNatClampNeg dp.toNatClampNeg k.toNatClampNeg) (.inr (.inl (0, n1))) from rfl, gW_row _ ha1] at hP1 hD1
    exact h ad H1 locs1 ls h1 h2 h3 hP1 hD1 hS1 hl
end GSa
end
section
/-! NEW CELLS AND CALLS -/
theorem gv_ok {ad ad' : Nat → Nat} {n : Nat} (hk : ∀ k, k < n ∨ 1000000 ≤ k → ad' k = ad k) {v : Value} (h : gokV n v = true) : gv ad' v = gv ad v := by
  cases v with
  | ref k =>
    simp only [gokV, Bool.or_eq_true, decide_eq_true_eq] at h
    show Value.ref (ad' k) = Value.ref (ad k)
    rw [hk k h]
  | _ => rfl
theorem gcell_ok {cy : Nat → ClassId} {ad ad' : Nat → Nat} {n : Nat} {row : Nat → Int32} (hk : ∀ k, k < n ∨ 1000000 ≤ k → ad' k = ad k) {e : gS} (h : gokS n e = true) : gcell cy ad' row e = gcell cy ad row e := by
  match e, h with
  | .inl q, h =>
    show (Sum.inr (q.1, gfv ad' row q.2) : va_E) = Sum.inr (q.1, gfv ad row q.2)
    have : gfv ad' row q.2 = gfv ad row q.2 := by
      refine List.ext_getElem? fun j => ?_
      simp only [gfv, List.getElem?_mapIdx]
      cases hj : q.2[j]? with
      | none => rfl
      | some o =>
        have ho := List.all_eq_true.mp h o (List.mem_of_getElem? hj)
        cases o with
        | none => rfl
        | some v =>
          show some (gv ad' v) = some (gv ad v)
          rw [gv_ok hk ho]
    rw [this]
  | .inr (.inl q), _ => rfl
  | .inr (.inr l), h =>
    show (Sum.inl (cy 2, l.length, .inr (.inr (.inr (.inr (fun j => (l.getD j none).map ad'))))) : va_E) = Sum.inl (cy 2, l.length, .inr (.inr (.inr (.inr (fun j => (l.getD j none).map ad)))))
    have : (fun j => (l.getD j none).map ad') = (fun j => (l.getD j none).map ad) := by
      funext j
      rw [List.getD_eq_getElem?_getD]
      cases hj : l[j]? with
      | none => rfl
      | some o =>
        have ho := List.all_eq_true.mp h o (List.mem_of_getElem? hj)
        cases o with
        | none => rfl
        | some v =>
          have hv : v < n := by simpa using ho
          show some (ad' v) = some (ad v)
          rw [hk v (Or.inl hv)]
    rw [this]
theorem gW_push {cy : Nat → ClassId} {ad : Nat → Nat} {sh : List gS} {M : gM} {q : Nat} {e : gS} (hs : sh.all (gokS sh.length) = true) (h6 : sh.length < 1000000) : gW cy (va_up ad sh.length q) (sh ++ [e]) (gsr M sh.length (fun _ => 0)) = gW cy ad sh M ++ [(q, gcell cy (va_up ad sh.length q) (fun _ => 0) e)] := by
  have hk : ∀ k, k < sh.length ∨ 1000000 ≤ k → va_up ad sh.length q k = ad k := by
    intro k hk
    have : k ≠ sh.length := by omega
    simp [va_up, this]
  have hl : (gW cy ad sh M).length = sh.length := by rw [gW, List.length_mapIdx]
  refine List.ext_getElem? fun j => ?_
  rw [gW, List.getElem?_mapIdx]
  by_cases hj : j < sh.length
  · rw [List.getElem?_append_left hj, List.getElem?_append_left (by rw [hl]; exact hj)]
    simp only [gW, List.getElem?_mapIdx]
    rw [List.getElem?_eq_getElem hj]
    have hne : j ≠ sh.length := by omega
    show some (va_up ad sh.length q j, gcell cy (va_up ad sh.length q) (gsr M sh.length (fun _ => 0) j) sh[j]) = some (ad j, gcell cy ad (M j) sh[j])
    rw [hk j (Or.inl hj), gsr_n M _ hne, gcell_ok hk (List.all_eq_true.mp hs _ (List.getElem_mem hj))]
  · rw [List.getElem?_append_right (by omega), List.getElem?_append_right (by rw [hl]; omega), hl]
    by_cases hj2 : j = sh.length
    · subst hj2
      simp [va_up, gsr]
    · have : j - sh.length ≠ 0 := by omega
      cases hz : j - sh.length with
      | zero => omega
      | succ z => rfl
theorem gl_ok {ad ad' : Nat → Nat} {n : Nat} (hk : ∀ k, k < n ∨ 1000000 ≤ k → ad' k = ad k) {lv : List (Nat × Value)} (h : lv.all (fun q => gokV n q.2) = true) : lv.map (gl ad') = lv.map (gl ad) :=
  List.map_congr_left fun q hq => by
    show (q.1, gv ad' q.2) = (q.1, gv ad q.2)
    rw [gv_ok hk (List.all_eq_true.mp h q hq)]
theorem gst_ok {ad ad' : Nat → Nat} {n : Nat} (hk : ∀ k, k < n ∨ 1000000 ≤ k → ad' k = ad k) {st : List Value} (h : st.all (gokV n) = true) : st.map (gv ad') = st.map (gv ad) :=
  List.map_congr_left fun v hv => gv_ok hk (List.all_eq_true.mp h v hv)
theorem gokA_e {sh : List gS} {lv : List (Nat × Value)} {st : List Value} (h : gokA sh lv st = true) : sh.all (gokS sh.length) = true ∧ lv.all (fun q => gokV sh.length q.2) = true ∧ st.all (gokV sh.length) = true ∧ sh.length < 1000000 := by
  simp only [gokA, Bool.and_eq_true, decide_eq_true_eq] at h
  exact ⟨h.1.1.1, h.1.1.2, h.1.2, h.2⟩
theorem gcat_map (ad : Nat → Nat) (st : List Value) : ((st.map (gv ad)).map fun v => v.category).sum = gcat st := by
  rw [List.map_map, gcat]
  congr 1
  exact List.map_congr_left (fun v _ => gv_cat ad v)
section GSb
variable {p : Program} {l : Launch} {e : Env} {R : Room} {s : State} {m : MethodId} {args : Array Value} {below : List Frame} {meth : Method} {c : Code} {A : Nat → Prop} {D : va_G} {cy : Nat → ClassId} {o nL d MC MS : Nat} {cc : ByteArray} {ret : Option FieldType} {ini : Bool} {Z : State → Prop} {n0 : Nat} {ad0 : Nat → Nat} {pc : Nat} {lv : List (Nat × Value)} {st : List Value} {sh : List gS} {M : gM} {kc ks : Nat}
/-- a new cell behind the picture -/
theorem gs_push {H1 : Heap} {locs1 : List Loc} {ad : Nat → Nat} {ls : Array Slot} {q kc' ks' : Nat} {x : gS} {pc' : Nat} (hMC : MC ≠ 0) (hok : gokA sh lv st = true) (h1 : ∀ k, k < n0 ∨ 1000000 ≤ k → ad k = ad0 k) (h3 : n0 ≤ sh.length)
    (hP : va_P D vwCl (gW cy ad sh M ++ [(q, gcell cy (va_up ad sh.length q) (fun _ => 0) x)]) H1) (hD : va_D A (gW cy ad sh M ++ [(q, gcell cy (va_up ad sh.length q) (fun _ => 0) x)])) (hS : va_S A s.heap H1 locs1) (hl : lv_has ls nL (lv.map (gl ad)))
    (h : gG p l e R s m args below meth c A D cy nL MC Z n0 ad0 pc' lv (.ref sh.length :: st) (sh ++ [x]) (gsr M sh.length (fun _ => 0)) kc' ks') : W p l e R s m args below meth c H1 locs1 kc' ks' Z (F0 m pc' ls (.ref q :: st.map (gv ad))) := by
  obtain ⟨g1, g2, g3, g4⟩ := gokA_e hok
  have hk : ∀ k, k < sh.length ∨ 1000000 ≤ k → va_up ad sh.length q k = ad k := by
    intro k hk
    have : k ≠ sh.length := by omega
    simp [va_up, this]
  rw [← gW_push g1 g4] at hP hD
  have hw := h (va_up ad sh.length q) H1 locs1 ls (fun k hk' => by rw [hk k (by omega), h1 k hk']) (fun z => absurd z hMC) (by rw [List.length_append]; omega) hP hD hS (by rw [gl_ok hk g2]; exact hl)
  have e : (Value.ref sh.length :: st).map (gv (va_up ad sh.length q)) = .ref q :: st.map (gv ad) := by
    show Value.ref (va_up ad sh.length q sh.length) :: st.map (gv (va_up ad sh.length q)) = _
    rw [gst_ok hk g3]
    simp [va_up]
  rw [e] at hw
  exact hw
theorem gs_new (S : gSt p R s m args meth c A D cy o nL d MC MS cc ret ini) {i ci : Nat} (hq : gnw o i = some ci) (hd : decode cc pc = .ok (.new i, 3)) (hc : kc + 1 ≤ MC) (hs : ks + (gdef ci).length ≤ MS) (hok : gokA sh lv st = true)
    (h : gG p l e R s m args below meth c A D cy nL MC Z n0 ad0 (pc + 3) lv (.ref sh.length :: st) (sh ++ [.inl (ci, gdef ci)]) (gsr M sh.length (fun _ => 0)) (kc + 1) (ks + (gdef ci).length)) : gG p l e R s m args below meth c A D cy nL MC Z n0 ad0 pc lv st sh M kc ks := by
  obtain ⟨hx, hb, hr, hml, hown, hts, hlocks, hK, hA, hR, hini, hX⟩ := S
  have hm := glook (show gnwT.lookup (o, i) = some ci from hq)
  have h8 : ci < 8 := by simpa using List.all_eq_true.mp gnwT_ok _ hm
  have hw : ∀ w ∈ gnwW ((o, i), ci), w ∈ gwl := fun w hw => gnwT_in w (List.mem_flatMap.mpr ⟨_, hm, hw⟩)
  obtain ⟨⟨C, T, N⟩, hv⟩ : ∃ r, vwCl[ci]? = some r := ⟨vwCl[ci]'h8, List.getElem?_eq_getElem h8⟩
  unfold gnwW at hw
  simp only [hv] at hw
  obtain ⟨⟨ty0, hty0, hdv⟩, hnm, hoC, hlen, hin⟩ := gvcls hv
  intro ad H locs ls h1 h2 h3 hP hD hS hl
  refine va_new (ci := ci) (fs := gfv ad (fun _ => 0) (gdef ci)) (C := C) (T := T) (N := N) hx hb hts hin ty0 hty0 hown (hts _ (hw _ (by simp))) (hts _ (hw _ (by simp))) (hts _ (hw _ (by simp))) hK hP hD hS hA hv (hdv ad) (by rw [hR.2.2.1]; exact hc) (by rw [hR.2.2.2, ← hlen]; exact hs) hd (fun q H1 hP1 hD1 hS1 => ?_)
  rw [← hlen]
  have e : (.inr (ci, gfv ad (fun _ => 0) (gdef ci)) : va_E) = gcell cy (va_up ad sh.length q) (fun _ => 0) (.inl (ci, gdef ci)) := by
    show (.inr (ci, gfv ad (fun _ => 0) (gdef ci)) : va_E) = .inr (ci, gfv (va_up ad sh.length q) (fun _ => 0) (gdef ci))
    have hz : ∀ c, c < 8 → (gdef c).all (fun o => match o with
      | none => true
      | some v => decide (v = .null)) = true := by decide
    rw [gdl_g ad _ (hz ci h8), gdl_g _ _ (hz ci h8)]
  rw [e] at hP1 hD1
  exact gs_push (by omega) hok h1 h3 hP1 hD1 hS1 hl h
theorem gs_newa (S : gSt p R s m args meth c A D cy o nL d MC MS cc ret ini) {t : ArrayType} {n : Int32} (ht : t = .int ∨ t = .byte) (hd : decode cc pc = .ok (.newarray t, 2)) (hn : ¬ n < 0) (h1000 : n.toNatClampNeg ≤ 1000) (hc : kc + 1 ≤ MC) (hs : ks + n.toNatClampNeg ≤ MS) (hok : gokA sh lv st = true)
    (h : gG p l e R s m args below meth c A D cy nL MC Z n0 ad0 (pc + 2) lv (.ref sh.length :: st) (sh ++ [.inr (.inl (if t = .int then 0 else 1, n.toNatClampNeg))]) (gsr M sh.length (fun _ => 0)) (kc + 1) (ks + n.toNatClampNeg)) : gG p l e R s m args below meth c A D cy nL MC Z n0 ad0 pc lv (.int n :: st) sh M kc ks := by
  obtain ⟨hx, hb, hr, hml, hown, hts, hlocks, hK, hA, hR, hini, hX⟩ := S
  intro ad H locs ls h1 h2 h3 hP hD hS hl
  rcases ht with rfl | rfl
  · refine va_newa (ty := .int) (a0 := (n.toNatClampNeg, .inl (fun _ => 0))) hx hb (hts _ (garr_in _ (by simp [newarray.typeOf]))) rfl hK hP hD hS hA (fun _ => rfl) hn rfl (by show _ * 4 ≤ _; omega) (by rw [hR.2.2.1]; exact hc) (by rw [hR.2.2.2]; exact hs) hd (fun q cA H1 hK1 hP1 hD1 hS1 => ?_)
    have e1 : s.vm.findClass ("[" ++ FieldType.int.toString) = some cA := (hK1.2 3 (cA, .int) rfl).2
    have e2 : s.vm.findClass ("[" ++ FieldType.int.toString) = some (cy 0) := (hK.2 0 (cy 0, .int) rfl).2
    have e3 : cA = cy 0 := Option.some.inj (e1.symm.trans e2)
    subst e3
    exact gs_push (x := .inr (.inl (0, n.toNatClampNeg))) (by omega) hok h1 h3 hP1 hD1 hS1 hl h
  · refine va_newa (ty := .byte) (a0 := (n.toNatClampNeg, .inl (fun _ => 0))) hx hb (hts _ (garr_in _ (by simp [newarray.typeOf]))) rfl hK hP hD hS hA (fun _ => rfl) hn rfl (by show _ * 1 ≤ _; omega) (by rw [hR.2.2.1]; exact hc) (by rw [hR.2.2.2]; exact hs) hd (fun q cA H1 hK1 hP1 hD1 hS1 => ?_)
    have e1 : s.vm.findClass ("[" ++ FieldType.byte.toString) = some cA := (hK1.2 3 (cA, .byte) rfl).2
    have e2 : s.vm.findClass ("[" ++ FieldType.byte.toString) = some (cy 1) := (hK.2 1 (cy 1, .byte) rfl).2
    have e3 : cA = cy 1 := Option.some.inj (e1.symm.trans e2)
    subst e3
    exact gs_push (x := .inr (.inl (1, n.toNatClampNeg))) (by omega) hok h1 h3 hP1 hD1 hS1 hl h
theorem gs_newq (S : gSt p R s m args meth c A D cy o nL d MC MS cc ret ini) {i : Nat} {n : Int32} (hq : gnw o i = some 3) (hd : decode cc pc = .ok (.anewarray i, 3)) (hn : ¬ n < 0) (h1000 : n.toNatClampNeg ≤ 1000) (hc : kc + 1 ≤ MC) (hs : ks + n.toNatClampNeg ≤ MS) (hok : gokA sh lv st = true)
    (h : gG p l e R s m args below meth c A D cy nL MC Z n0 ad0 (pc + 3) lv (.ref sh.length :: st) (sh ++ [.inr (.inr (List.replicate n.toNatClampNeg none))]) (gsr M sh.length (fun _ => 0)) (kc + 1) (ks + n.toNatClampNeg)) : gG p l e R s m args below meth c A D cy nL MC Z n0 ad0 pc lv (.int n :: st) sh M kc ks := by
  obtain ⟨hx, hb, hr, hml, hown, hts, hlocks, hK, hA, hR, hini, hX⟩ := S
  have hm := glook (show gnwT.lookup (o, i) = some 3 from hq)
  have hw : ∀ w ∈ gnwW ((o, i), 3), w ∈ gwl := fun w hw => gnwT_in w (List.mem_flatMap.mpr ⟨_, hm, hw⟩)
  have hw : ∀ w ∈ [Jvm.Cond.classLink (gown o) i "GreyByFriday$Street", .instantiable "GreyByFriday$Street" 4, .initialized "GreyByFriday$Street"], w ∈ gwl := hw
  intro ad H locs ls h1 h2 h3 hP hD hS hl
  refine va_newq (C := "GreyByFriday$Street") hx hb hown (hts _ (hw _ (by simp))) hX.2 hK hP hD hS hA hn rfl (by omega) (by rw [hR.2.2.1]; exact hc) (by rw [hR.2.2.2]; exact hs) hd (fun q cA H1 hK1 hP1 hD1 hS1 => ?_)
  obtain ⟨kA, comp, -, -, -, e1⟩ := (hK1.2 3 (cA, .object "GreyByFriday$Street") rfl).2
  obtain ⟨kA', comp', -, -, -, e2⟩ := (hK.2 2 (cy 2, .object "GreyByFriday$Street") rfl).2
  have e3 : cA = cy 2 := Option.some.inj (e1.symm.trans e2)
  subst e3
  have e : (.inl (cy 2, n.toNatClampNeg, .inr (.inr (.inr (.inr (fun _ => none))))) : va_E) = gcell cy (va_up ad sh.length q) (fun _ => 0) (.inr (.inr (List.replicate n.toNatClampNeg none))) := by
    show _ = (Sum.inl (cy 2, (List.replicate n.toNatClampNeg (none : Option Nat)).length, .inr (.inr (.inr (.inr (fun j => ((List.replicate n.toNatClampNeg (none : Option Nat)).getD j none).map (va_up ad sh.length q)))))) : va_E)
    rw [List.length_replicate]
    congr 7
    funext j
    rw [List.getD_eq_getElem?_getD, List.getElem?_replicate]
    split <;> rfl
  rw [e] at hP1 hD1
  exact gs_push (by omega) hok h1 h3 hP1 hD1 hS1 hl h
theorem gs_obj (S : gSt p R s m args meth c A D cy o nL d MC MS cc ret ini) {i a : Nat} {q : Nat × Nat × Nat × Nat} (hq : glk o i = some (5, q)) (hd : decode cc pc = .ok (.invokespecial i, 3)) (hst : gcat st ≤ 8) (hd1 : 1 ≤ d) (h : gG p l e R s m args below meth c A D cy nL MC Z n0 ad0 (pc + 3) lv st sh M kc ks) : gG p l e R s m args below meth c A D cy nL MC Z n0 ad0 pc lv (.ref a :: st) sh M kc ks := by
  obtain ⟨hx, hb, hr, hml, hown, hts, hlocks, hK, hA, hR, hini, hX⟩ := S
  have hm := glook (show glkT.lookup (o, i) = some (5, q) from hq)
  have hw : ∀ w ∈ glkW ((o, i), (5, q)), w ∈ gwl := fun w hw => glkT_in w (List.mem_flatMap.mpr ⟨_, hm, hw⟩)
  have hw : ∀ w ∈ [Jvm.Cond.methodLink (gown o) i objectInit, .instanceMethod objectInit, .code objectInit ⟨#[0xb1]⟩ 1 none], w ∈ gwl := hw
  intro ad H locs ls h1 h2 h3 hP hD hS hl
  refine W.objInit hx hb hown (hts _ (hw _ (by simp))) (hts _ (hw _ (by simp))) (hts _ (hw _ (by simp))) rfl (by rw [hml]; exact hl.1) rfl hd (by have := hR.1; omega) ?_ ?_
  · have e := gcat_map ad st
    have h40 := hR.2.1
    show 2 * 0 + ((st.map (gv ad)).map fun v => v.category).sum + 12 ≤ R.locals
    omega
  · exact h ad H locs ls h1 h2 h3 hP hD hS hl
theorem gs_run {a : Array Value} {ad : Nat → Nat} {H : Heap} {locs : List Loc} {ls : Array Slot} {st0 rest' : List Value} {mc ms : Nat} {Q : Option Value → List gS → gM → Prop} {A1 : Nat → Prop}
    (hr : va_Run p l e R s m args below meth c H locs kc ks mc ms (F0 m pc ls st0) rest' (gQ Q D cy ad sh.length mc A1 a) A1) (hS : va_S A s.heap H locs) (hA1 : ∀ q, A1 q → A q)
    (kk : ∀ (v : Option Value) (sh' : List gS) (M' : gM) (ad' : Nat → Nat) (H1 : Heap) (locs1 : List Loc), Q v sh' M' → (∀ k, k < sh.length ∨ 1000000 ≤ k → ad' k = ad k) → (mc = 0 → ad' = ad) → sh.length ≤ sh'.length → va_P D vwCl (gW cy ad' sh' M') H1 → va_D A1 (gW cy ad' sh' M') → va_S A s.heap H1 locs1 → W p l e R s m args below meth c H1 locs1 (kc + mc) (ks + ms) Z (F0 m (pc + 3) ls ((v.map (gv ad')).toList ++ rest'))) : W p l e R s m args below meth c H locs kc ks Z (F0 m pc ls st0) := by
  intro T hT X
  obtain ⟨v, st₀, t, T', L, h0, X', hL, e1, e2, ⟨⟨w, sh', M', ad', hv, hQ, g1, g2, g3, g4, g5⟩, hz, hk⟩, st⟩ := hr T hT X
  cases hv
  rw [h0] at hz hk
  obtain ⟨t2, a1, b1⟩ := kk w sh' M' ad' T'.heap (locs ++ L) hQ g1 g2 g3 (by rw [e1]; exact g4) g5
    ⟨Nat.le_trans hS.1 (by rw [e1]; exact hz), fun q h1 h2 => by rw [e1, hk q (Nat.lt_of_lt_of_le h1 hS.1) (fun z => h2 (hA1 q z))]; exact hS.2.1 q h1 h2, fun q hq => by
      rcases List.mem_append.mp hq with h | h
      · exact hS.2.2 q h
      · exact hA1 _ (hL q h)⟩ T' rfl X'
  exact ⟨t2, st t2 a1, b1⟩
theorem gblind (avs : List Value) (ad : Nat → Nat) (sz : Nat) : FrameBlind (gPc avs D cy ad sz sh M) := by
  intro a U g mk q
  obtain ⟨q0, q1, qP, qK, qD, qX⟩ := q
  exact ⟨q0, q1, qP, va_K.moved (u := U) (U := U.calling g mk a) (Vm.Alike.refl U.vm) qK, qD, ⟨fun z hz => va_Nw.same rfl rfl (qX.1 z hz), qX.2.moved (Vm.Alike.refl U.vm)⟩⟩
theorem ggood {q : MethodName × ByteArray × Nat × Option FieldType × Nat} {mi : Nat} (hm : gmt[mi]? = some q) : GoodIn gwl (.code q.1 q.2.1 q.2.2.1 q.2.2.2.1 :: gwl) := by
  have hc : Jvm.Cond.code q.1 q.2.1 q.2.2.1 q.2.2.2.1 ∈ gwl := gmt_in _ (List.mem_flatMap.mpr ⟨q, List.mem_of_getElem? hm, List.mem_cons_self⟩)
  intro w hw
  have hw' : w ∈ gwl := by
    rcases List.mem_cons.mp hw with rfl | h
    · exact hc
    · exact h
  exact ⟨hw', good_of_word (gwl_good w hw')⟩
theorem gmt_spec {q : MethodName × ByteArray × Nat × Option FieldType × Nat} {mi : Nat} (hm : gmt[mi]? = some q) : q.1.cls = gown q.2.2.2.2 ∧ q.1.cls ≠ "java/lang/invoke/MethodHandle" ∧ q.1.cls ≠ "java/lang/invoke/VarHandle" ∧ plainFor q.1 = true ∧ q.2.2.1 ≤ 21 := by
  have h := List.all_eq_true.mp gmt_ok q (List.mem_of_getElem? hm)
  simp only [gmtB, Bool.and_eq_true, decide_eq_true_eq] at h
  exact ⟨h.1.1.1.1, h.1.1.1.2, h.1.1.2, h.1.2, h.2⟩
/-- what a call has in common -/
theorem gs_after {ad : Nat → Nat} {H1 : Heap} {locs1 : List Loc} {ls : Array Slot} {mc ms r : Nat} {rest : List Value} {v : Option Value} {sh' : List gS} {M' : gM} {ad' : Nat → Nat} {A1 : Nat → Prop} (hmc : kc + mc ≤ MC) (hoth : mc = 0 ∨ (lv.map Prod.snd ++ rest).all (gokV sh.length) = true)
    (h1 : ∀ k, k < n0 ∨ 1000000 ≤ k → ad k = ad0 k) (h2 : MC = 0 → ad = ad0) (h3 : n0 ≤ sh.length) (hl : lv_has ls nL (lv.map (gl ad))) (hA1 : ∀ q, A1 q → A q)
    (g1 : ∀ k, k < sh.length ∨ 1000000 ≤ k → ad' k = ad k) (g2 : mc = 0 → ad' = ad) (g3 : sh.length ≤ sh'.length) (g4 : va_P D vwCl (gW cy ad' sh' M') H1) (g5 : va_D A1 (gW cy ad' sh' M')) (hS : va_S A s.heap H1 locs1)
    (h : gret r v (fun w => gG p l e R s m args below meth c A D cy nL MC Z n0 ad0 (pc + 3) lv (w ++ rest) sh' M' (kc + mc) (ks + ms))) : W p l e R s m args below meth c H1 locs1 (kc + mc) (ks + ms) Z (F0 m (pc + 3) ls ((v.map (gv ad')).toList ++ rest.map (gv ad))) := by
  obtain ⟨hg, hv⟩ := gret_e h
  have e1 : lv.map (gl ad') = lv.map (gl ad) ∧ rest.map (gv ad') = rest.map (gv ad) := by
    rcases hoth with z | z
    · rw [g2 z]; exact ⟨rfl, rfl⟩
    · rw [List.all_append, Bool.and_eq_true] at z
      refine ⟨gl_ok g1 ?_, gst_ok g1 z.2⟩
      rw [List.all_eq_true]
      intro q hq
      exact List.all_eq_true.mp z.1 q.2 (List.mem_map_of_mem hq)
  have hw := hg ad' H1 locs1 ls (fun k hk => by rw [g1 k (by omega), h1 k hk]) (fun z => by rw [g2 (by omega)]; exact h2 z) (Nat.le_trans h3 g3) g4 (g5.weaken (fun _ _ _ z => hA1 _ z)) hS (by rw [e1.1]; exact hl)
  rw [List.map_append, e1.2] at hw
  rw [hv]
  have e2 : v.toList.map (gv ad') = v.toList := by
    have := hv ad'
    cases v with
    | none => rfl
    | some w =>
      have h' : gv ad' w = w := Option.some.inj this
      show [gv ad' w] = [w]
      rw [h']
  rw [e2] at hw
  exact hw
end GSb
end
section
/-! EVERY STEP OF gx IS ONE OF THE MACHINE -/
theorem glk_spec {o i : Nat} {q : Nat × Nat × Nat × Nat × Nat} (h : glk o i = some q) : glkB ((o, i), q) = true ∧ ∀ w ∈ glkW ((o, i), q), w ∈ gwl := by
  have hm := glook (show glkT.lookup (o, i) = some q from h)
  exact ⟨List.all_eq_true.mp glkT_ok _ hm, fun w hw => glkT_in w (List.mem_flatMap.mpr ⟨_, hm, hw⟩)⟩
theorem gst_split (ad : Nat → Nat) (st : List Value) (n : Nat) : st.map (gv ad) = (((st.take n).reverse).map (gv ad)).reverse ++ (st.drop n).map (gv ad) := by
  rw [← List.map_reverse, List.reverse_reverse, ← List.map_append, List.take_append_drop]
section GSc
variable {p : Program} {l : Launch} {e : Env} {R : Room} {s : State} {m : MethodId} {args : Array Value} {below : List Frame} {meth : Method} {c : Code} {A : Nat → Prop} {D : va_G} {cy : Nat → ClassId} {o nL d MC MS : Nat} {cc : ByteArray} {ret : Option FieldType} {ini : Bool} {Z : State → Prop} {n0 : Nat} {ad0 : Nat → Nat} {pc : Nat} {lv : List (Nat × Value)} {st : List Value} {sh : List gS} {M : gM} {kc ks : Nat}
theorem gs_callV (S : gSt p R s m args meth c A D cy o nL d MC MS cc ret ini) {i mi n r ci b : Nat} {rest : List Value} (hq : glk o i = some (0, mi, n, r, ci)) (hd : decode cc pc = .ok (.invokevirtual i, 3)) (hn : n ≤ st.length) (hdr : st.drop n = .ref b :: rest) (hcat : gcat rest ≤ 8) (hrc : grc sh b ci)
    (hC : gCall d mi (.ref b :: (st.take n).reverse) sh M kc ks MC MS (lv.map Prod.snd ++ rest) (fun v sh' M' kc' ks' => gret r v (fun w => gG p l e R s m args below meth c A D cy nL MC Z n0 ad0 (pc + 3) lv (w ++ rest) sh' M' kc' ks'))) : gG p l e R s m args below meth c A D cy nL MC Z n0 ad0 pc lv st sh M kc ks := by
  obtain ⟨hx, hb, hr, hml, hown, hts, hlocks, hK, hA, hR, hini, hX⟩ := S
  obtain ⟨d', mc, ms, hd', hmc, hms, hoth, hM⟩ := hC
  obtain ⟨hB, hW⟩ := glk_spec hq
  unfold glkB at hB
  unfold glkW at hW
  simp only [show ¬ (0 : Nat) = 5 by decide, show ¬ (0 : Nat) = 6 by decide, if_false, if_true] at hB hW
  cases hm : gmt[mi]? with
  | none => simp only [hm] at hB; cases hB
  | some q =>
    simp only [hm, Bool.and_eq_true, decide_eq_true_eq] at hB hW
    obtain ⟨⟨⟨hpar, -⟩, hci⟩, hcls⟩ := hB
    obtain ⟨g1, g2, g3, g4, g5⟩ := gmt_spec hm
    obtain ⟨fs, hfs⟩ := grc_e hrc
    intro ad H locs ls h1 h2 h3 hP hD hS hl
    have hMet := hM q hm l D cy ad H.size
    have hFc : ∀ z, va_A (gW cy ad sh M) H.size z → A z := by
      intro z hz
      rcases hz with ⟨k, e, hz⟩ | hz
      · exact hD.2 k (z, e) hz
      · exact hA z (Nat.le_trans hS.1 hz)
    obtain ⟨qv, hqv, hqc⟩ : ∃ qv : vw_C, vwCl[ci]? = some qv ∧ qv.1 = q.1.cls := by
      rw [hci] at hcls
      cases hv : vwCl[ci]? with
      | none => rw [hv] at hcls; cases hcls
      | some qv => rw [hv] at hcls; exact ⟨qv, rfl, Option.some.inj hcls⟩
    have hpre : PreV s H q.1.cls (ad b) (gPc (.ref b :: (st.take n).reverse) D cy ad H.size sh M) ((st.take n).reverse.map (gv ad)) := by
      refine ⟨gblind _ _ _, ?_, fun U hU hWm => ⟨rfl, by rw [hU], by rw [hU]; exact hP, va_K.moved hWm.alike hK, hD.weaken (fun _ _ _ _ => trivial), gXt_warm hWm hX⟩⟩
      rw [← hqc]
      exact va_recv hK hP hqv (gW_get hfs)
    have hcw : CallW R s args (gown o) q.1.cls i q.1 q.2.1 q.2.2.1 q.2.2.2.1 (.code q.1 q.2.1 q.2.2.1 q.2.2.2.1 :: gwl) (grm d' mc ms) mc ms n := by
      refine ⟨callB_of n hts (ggood hm) rfl rfl rfl (hts _ (hW _ (by simp))) (hts _ (hW _ (by simp))) ⟨g2, g3, hpar⟩ ⟨?_, ?_⟩, hts _ (hW _ (by simp)), hts _ (hW _ (by simp))⟩
      · show d' + 1 ≤ R.frames
        have := hR.1; omega
      · show 8 + (q.2.2.1 + 11) + 40 * d' ≤ R.locals
        have := hR.2.1; omega
    refine gs_run (va_runV (As := (st.take n).reverse.map (gv ad)) (rest := rest.map (gv ad)) ⟨hx, hb, hml, hown, hts⟩ hMet hcw hpre rfl (by rw [List.length_map, List.length_reverse, List.length_take]; omega) hl.1 ?_ (lv_room (by rw [gcat_map]; exact hcat)) hd ⟨by rw [hR.2.2.1]; exact hmc, by rw [hR.2.2.2]; exact hms⟩) hS hFc (fun v sh' M' ad' H1 locs1 hQ k1 k2 k3 k4 k5 hS1 => gs_after hmc hoth h1 h2 h3 hl hFc k1 k2 k3 k4 k5 hS1 hQ)
    show st.map (gv ad) = _
    rw [gst_split ad st n, hdr]
    rfl
theorem gs_callS (S : gSt p R s m args meth c A D cy o nL d MC MS cc ret ini) {i mi n r ci kd : Nat} (hkd : kd = 1 ∨ kd = 3) (hq : glk o i = some (kd, mi, n, r, ci)) (hd : decode cc pc = .ok (.invokestatic i, 3)) (hn : n ≤ st.length) (hcat : gcat (st.drop n) ≤ 8)
    (hC : gCall d mi ((st.take n).reverse) sh M kc ks MC MS (lv.map Prod.snd ++ st.drop n) (fun v sh' M' kc' ks' => gret r v (fun w => gG p l e R s m args below meth c A D cy nL MC Z n0 ad0 (pc + 3) lv (w ++ st.drop n) sh' M' kc' ks'))) : gG p l e R s m args below meth c A D cy nL MC Z n0 ad0 pc lv st sh M kc ks := by
  obtain ⟨hx, hb, hr, hml, hown, hts, hlocks, hK, hA, hR, hini, hX⟩ := S
  obtain ⟨d', mc, ms, hd', hmc, hms, hoth, hM⟩ := hC
  obtain ⟨hB, hW⟩ := glk_spec hq
  cases hm : gmt[mi]? with
  | none =>
    unfold glkB at hB
    rcases hkd with rfl | rfl <;> simp [hm] at hB
  | some q =>
    obtain ⟨g1, g2, g3, g4, g5⟩ := gmt_spec hm
    intro ad H locs ls h1 h2 h3 hP hD hS hl
    have hMet := hM q hm l D cy ad H.size
    have hFc : ∀ z, va_A (gW cy ad sh M) H.size z → A z := by
      intro z hz
      rcases hz with ⟨k, e, hz⟩ | hz
      · exact hD.2 k (z, e) hz
      · exact hA z (Nat.le_trans hS.1 hz)
    have hpre : PreS s H (gPc ((st.take n).reverse) D cy ad H.size sh M) ((st.take n).reverse.map (gv ad)) :=
      ⟨gblind _ _ _, fun U hU hWm => ⟨rfl, by rw [hU], by rw [hU]; exact hP, va_K.moved hWm.alike hK, hD.weaken (fun _ _ _ _ => trivial), gXt_warm hWm hX⟩⟩
    have hroom : (grm d' mc ms).frames + 1 ≤ R.frames ∧ 8 + (q.2.2.1 + 11) + (grm d' mc ms).locals ≤ R.locals := by
      refine ⟨?_, ?_⟩
      · show d' + 1 ≤ R.frames
        have := hR.1; omega
      · show 8 + (q.2.2.1 + 11) + 40 * d' ≤ R.locals
        have := hR.2.1; omega
    have hst : (F0 m pc ls (st.map (gv ad))).stack = ((st.take n).reverse.map (gv ad)).reverse ++ (st.drop n).map (gv ad) := gst_split ad st n
    have hlen : ((st.take n).reverse.map (gv ad)).length = n := by rw [List.length_map, List.length_reverse, List.length_take]; omega
    unfold glkB at hB
    unfold glkW at hW
    rcases hkd with rfl | rfl
    · simp only [show ¬ (1 : Nat) = 5 by decide, show ¬ (1 : Nat) = 6 by decide, show ¬ (1 : Nat) = 0 by decide, if_false, if_true, hm, Bool.and_eq_true, decide_eq_true_eq] at hB hW
      exact gs_run (va_runS (As := (st.take n).reverse.map (gv ad)) (rest := (st.drop n).map (gv ad)) ⟨hx, hb, hml, hown, hts⟩ hMet ⟨callB_of n hts (ggood hm) rfl rfl rfl (hts _ (hW _ (by simp))) (hts _ (hW _ (by simp))) ⟨g2, g3, hB.1.1.1⟩ hroom, hts _ (hW _ (by simp))⟩ hpre rfl hlen hl.1 hst (lv_room (by rw [gcat_map]; exact hcat)) hd ⟨by rw [hR.2.2.1]; exact hmc, by rw [hR.2.2.2]; exact hms⟩) hS hFc (fun v sh' M' ad' H1 locs1 hQ k1 k2 k3 k4 k5 hS1 => gs_after hmc hoth h1 h2 h3 hl hFc k1 k2 k3 k4 k5 hS1 hQ)
    · simp only [show ¬ (3 : Nat) = 5 by decide, show ¬ (3 : Nat) = 6 by decide, show ¬ (3 : Nat) = 0 by decide, show ¬ (3 : Nat) = 1 by decide, show ¬ (3 : Nat) = 2 by decide, if_false, if_true, hm, Bool.and_eq_true, decide_eq_true_eq] at hB hW
      obtain ⟨z, hz1, hz2⟩ := List.any_eq_true.mp hB.2
      have hz2 := of_decide_eq_true hz2
      have hnest := hX.1 z hz1
      rw [hz2.1, hz2.2.1, hz2.2.2] at hnest
      exact gs_run (va_runSN (As := (st.take n).reverse.map (gv ad)) (rest := (st.drop n).map (gv ad)) ⟨hx, hb, hml, hown, hts⟩ hMet ⟨va_cnB n hts (ggood hm) rfl rfl rfl hnest (hts _ (hW _ (by simp))) ⟨g2, g3, hB.1.1.1⟩ hroom, hts _ (hW _ (by simp)), trivial⟩ hpre rfl hlen hl.1 hst (lv_room (by rw [gcat_map]; exact hcat)) hd ⟨by rw [hR.2.2.1]; exact hmc, by rw [hR.2.2.2]; exact hms⟩) hS hFc (fun v sh' M' ad' H1 locs1 hQ k1 k2 k3 k4 k5 hS1 => gs_after hmc hoth h1 h2 h3 hl hFc k1 k2 k3 k4 k5 hS1 hQ)
theorem gs_callI (S : gSt p R s m args meth c A D cy o nL d MC MS cc ret ini) {i mi n r ci kd b : Nat} {rest : List Value} (hkd : kd = 2 ∨ kd = 4) (hq : glk o i = some (kd, mi, n, r, ci)) (hd : decode cc pc = .ok (.invokespecial i, 3)) (hn : n ≤ st.length) (hdr : st.drop n = .ref b :: rest) (hcat : gcat rest ≤ 8)
    (hC : gCall d mi (.ref b :: (st.take n).reverse) sh M kc ks MC MS (lv.map Prod.snd ++ rest) (fun v sh' M' kc' ks' => gret r v (fun w => gG p l e R s m args below meth c A D cy nL MC Z n0 ad0 (pc + 3) lv (w ++ rest) sh' M' kc' ks'))) : gG p l e R s m args below meth c A D cy nL MC Z n0 ad0 pc lv st sh M kc ks := by
  obtain ⟨hx, hb, hr, hml, hown, hts, hlocks, hK, hA, hR, hini, hX⟩ := S
  obtain ⟨d', mc, ms, hd', hmc, hms, hoth, hM⟩ := hC
  obtain ⟨hB, hW⟩ := glk_spec hq
  cases hm : gmt[mi]? with
  | none =>
    unfold glkB at hB
    rcases hkd with rfl | rfl <;> simp [hm] at hB
  | some q =>
    obtain ⟨qy, qc, ql, qr, qo⟩ := q
    obtain ⟨g1, g2, g3, g4, g5⟩ := gmt_spec hm
    have hgood := ggood hm
    dsimp only at g1 g2 g3 g4 g5 hgood
    intro ad H locs ls h1 h2 h3 hP hD hS hl
    have hMet := hM _ hm l D cy ad H.size
    dsimp only at hMet
    have hFc : ∀ z, va_A (gW cy ad sh M) H.size z → A z := by
      intro z hz
      rcases hz with ⟨k, e, hz⟩ | hz
      · exact hD.2 k (z, e) hz
      · exact hA z (Nat.le_trans hS.1 hz)
    have hpre : PreS s H (gPc (.ref b :: (st.take n).reverse) D cy ad H.size sh M) (.ref (ad b) :: (st.take n).reverse.map (gv ad)) :=
      ⟨gblind _ _ _, fun U hU hWm => ⟨rfl, by rw [hU], by rw [hU]; exact hP, va_K.moved hWm.alike hK, hD.weaken (fun _ _ _ _ => trivial), gXt_warm hWm hX⟩⟩
    have hroom : (grm d' mc ms).frames + 1 ≤ R.frames ∧ 8 + (ql + 11) + (grm d' mc ms).locals ≤ R.locals := by
      refine ⟨?_, ?_⟩
      · show d' + 1 ≤ R.frames
        have := hR.1; omega
      · show 8 + (ql + 11) + 40 * d' ≤ R.locals
        have := hR.2.1; omega
    have hst : (F0 m pc ls (st.map (gv ad))).stack = ((st.take n).reverse.map (gv ad)).reverse ++ .ref (ad b) :: rest.map (gv ad) := by
      show st.map (gv ad) = _
      rw [gst_split ad st n, hdr]
      rfl
    have hlen : ((st.take n).reverse.map (gv ad)).length = n := by rw [List.length_map, List.length_reverse, List.length_take]; omega
    unfold glkB at hB
    unfold glkW at hW
    rcases hkd with rfl | rfl
    · simp only [show ¬ (2 : Nat) = 5 by decide, show ¬ (2 : Nat) = 6 by decide, show ¬ (2 : Nat) = 0 by decide, show ¬ (2 : Nat) = 1 by decide, if_false, if_true, hm, Bool.and_eq_true, decide_eq_true_eq] at hB hW
      have hnone : qr = none := hB.2.2
      subst hnone
      exact gs_run (va_runI (As := (st.take n).reverse.map (gv ad)) (rest := rest.map (gv ad)) ⟨hx, hb, hml, hown, hts⟩ hMet ⟨callB_of n hts hgood rfl rfl rfl (hts _ (hW _ (by simp))) (hts _ (hW _ (by simp))) ⟨g2, g3, hB.1.1.1⟩ hroom, hB.2.1, hts _ (hW _ (by simp))⟩ hpre rfl hlen hl.1 hst (lv_room (by rw [gcat_map]; exact hcat)) hd ⟨by rw [hR.2.2.1]; exact hmc, by rw [hR.2.2.2]; exact hms⟩) hS hFc (fun v sh' M' ad' H1 locs1 hQ k1 k2 k3 k4 k5 hS1 => gs_after hmc hoth h1 h2 h3 hl hFc k1 k2 k3 k4 k5 hS1 hQ)
    · simp only [show ¬ (4 : Nat) = 5 by decide, show ¬ (4 : Nat) = 6 by decide, show ¬ (4 : Nat) = 0 by decide, show ¬ (4 : Nat) = 1 by decide, show ¬ (4 : Nat) = 2 by decide, show ¬ (4 : Nat) = 3 by decide, if_false, if_true, hm, Bool.and_eq_true, decide_eq_true_eq] at hB hW
      have hnone : qr = none := hB.2.2
      subst hnone
      obtain ⟨z, hz1, hz2⟩ := List.any_eq_true.mp hB.2.1.1
      have hz2 := of_decide_eq_true hz2
      have hnest := hX.1 z hz1
      rw [hz2.1, hz2.2.1, hz2.2.2] at hnest
      exact gs_run (va_runIN (As := (st.take n).reverse.map (gv ad)) (rest := rest.map (gv ad)) ⟨hx, hb, hml, hown, hts⟩ hMet ⟨va_cnB n hts hgood rfl rfl rfl hnest (hts _ (hW _ (by simp))) ⟨g2, g3, hB.1.1.1⟩ hroom, hB.2.1.2, hts _ (hW _ (by simp))⟩ hpre rfl hlen hl.1 hst (lv_room (by rw [gcat_map]; exact hcat)) hd ⟨by rw [hR.2.2.1]; exact hmc, by rw [hR.2.2.2]; exact hms⟩) hS hFc (fun v sh' M' ad' H1 locs1 hQ k1 k2 k3 k4 k5 hS1 => gs_after hmc hoth h1 h2 h3 hl hFc k1 k2 k3 k4 k5 hS1 hQ)
end GSc
end
section
/-! ONE STEP, ANY INSTRUCTION -/
section GSd
variable {p : Program} {l : Launch} {e : Env} {R : Room} {s : State} {m : MethodId} {args : Array Value} {below : List Frame} {meth : Method} {c : Code} {A : Nat → Prop} {D : va_G} {cy : Nat → ClassId} {o nL d MC MS : Nat} {cc : ByteArray} {ret : Option FieldType} {ini : Bool} {Z : State → Prop} {n0 : Nat} {ad0 : Nat → Nat} {pc : Nat} {lv : List (Nat × Value)} {st : List Value} {sh : List gS} {M : gM} {kc ks : Nat}
set_option maxHeartbeats 4000000 in
theorem gx_sound (S : gSt p R s m args meth c A D cy o nL d MC MS cc ret ini) {rt : Nat} {sc : Option (Nat × (Nat → Int32))} {Rt : gRt} (hsc : ∀ q, sc = some q → va_X (ad0 1000000) q.1 q.2 s s.heap ∧ ad0 1000000 < s.heap.size ∧ ¬ A (ad0 1000000))
    (hRi : ∀ (pc : Nat) (lv : List (Nat × Value)) (sh : List gS) (M : gM) (kc ks : Nat) (x : Int32), (rt = 1 ∨ (rt = 2 ∧ (x = 0 ∨ x = 1))) → decode cc pc = .ok (.ireturn, 1) → Rt (some (.int x)) sh M kc ks → gG p l e R s m args below meth c A D cy nL MC Z n0 ad0 pc lv [.int x] sh M kc ks)
    (hRl : ∀ (pc : Nat) (lv : List (Nat × Value)) (sh : List gS) (M : gM) (kc ks : Nat) (x : Int64), rt = 3 → decode cc pc = .ok (.lreturn, 1) → Rt (some (.long x)) sh M kc ks → gG p l e R s m args below meth c A D cy nL MC Z n0 ad0 pc lv [.long x] sh M kc ks)
    (hRv : ∀ (pc : Nat) (lv : List (Nat × Value)) (sh : List gS) (M : gM) (kc ks : Nat), rt = 0 → decode cc pc = .ok (.return_, 1) → Rt none sh M kc ks → gG p l e R s m args below meth c A D cy nL MC Z n0 ad0 pc lv [] sh M kc ks)
    {ins : Instr} {len : Nat} (hd : decode cc pc = .ok (ins, len)) (h : gx o nL d MC MS rt ini sc (gG p l e R s m args below meth c A D cy nL MC Z n0 ad0) Rt ins len pc lv st sh M kc ks) : gG p l e R s m args below meth c A D cy nL MC Z n0 ad0 pc lv st sh M kc ks := by
  have S0 := S
  obtain ⟨hx, hb, hr, hml, hown, hts, hlocks, hK, hA, hR, hini, hX⟩ := S
  have tgt : ∀ {off : Int}, 0 ≤ (pc : Int) + off → (pc : Int) + off = ((((pc : Int) + off).toNat : Nat) : Int) := fun h => (Int.toNat_of_nonneg h).symm
  cases ins with
  | iconst n => obtain ⟨rfl, h⟩ := h; exact fun ad H locs ls h1 h2 h3 hP hD hS hl => lv_iconst hx hb hd rfl (h ad H locs ls h1 h2 h3 hP hD hS hl)
  | bipush n => obtain ⟨rfl, hn, h⟩ := h; exact fun ad H locs ls h1 h2 h3 hP hD hS hl => lv_bipush hx hb hd (gbi hn.1 hn.2) (h ad H locs ls h1 h2 h3 hP hD hS hl)
  | sipush n => obtain ⟨rfl, hn, h⟩ := h; exact fun ad H locs ls h1 h2 h3 hP hD hS hl => lv_sipush hx hb hd (gsi hn.1 hn.2) (h ad H locs ls h1 h2 h3 hP hD hS hl)
  | lconst n => obtain ⟨rfl, h⟩ := h; exact fun ad H locs ls h1 h2 h3 hP hD hS hl => lv_lconst hx hb hd rfl (h ad H locs ls h1 h2 h3 hP hD hS hl)
  | ldc2_w i =>
    obtain ⟨rfl, x, hq, h⟩ := h
    have hm := glook (show gclT.lookup (o, i) = some x from hq)
    have hw : Jvm.Cond.constantLong (gown o) i x ∈ gwl := gclT_in _ (List.mem_map.mpr ⟨_, hm, rfl⟩)
    exact fun ad H locs ls h1 h2 h3 hP hD hS hl => lv_ldc2 hx hb hown (hts _ hw) hd (h ad H locs ls h1 h2 h3 hP hD hS hl)
  | ldc_w i =>
    obtain ⟨rfl, x, hq, h⟩ := h
    have hm := glook (show gciT.lookup (o, i) = some x from hq)
    have hw : Jvm.Cond.constant (gown o) i x ∈ gwl := gciT_in _ (List.mem_map.mpr ⟨_, hm, rfl⟩)
    exact fun ad H locs ls h1 h2 h3 hP hD hS hl => lv_ldcw hx hb hown (hts _ hw) hd (h ad H locs ls h1 h2 h3 hP hD hS hl)
  | iload_n k => obtain ⟨rfl, h⟩ := h; obtain ⟨x, hg, h_1⟩ := glI_e h; exact fun ad H locs ls h1 h2 h3 hP hD hS hl => lv_iload_n hx hb hd rfl (lget_has hl hg) (h_1 ad H locs ls h1 h2 h3 hP hD hS hl)
  | iload k => obtain ⟨rfl, h⟩ := h; obtain ⟨x, hg, h_1⟩ := glI_e h; exact fun ad H locs ls h1 h2 h3 hP hD hS hl => lv_iload hx hb hd (lget_has hl hg) (h_1 ad H locs ls h1 h2 h3 hP hD hS hl)
  | lload_n k => obtain ⟨rfl, h⟩ := h; obtain ⟨x, hg, h_1⟩ := glL_e h; exact fun ad H locs ls h1 h2 h3 hP hD hS hl => lv_lload_n hx hb hd rfl (lget_has hl hg) (h_1 ad H locs ls h1 h2 h3 hP hD hS hl)
  | lload k => obtain ⟨rfl, h⟩ := h; obtain ⟨x, hg, h_1⟩ := glL_e h; exact fun ad H locs ls h1 h2 h3 hP hD hS hl => lv_lload hx hb hd (lget_has hl hg) (h_1 ad H locs ls h1 h2 h3 hP hD hS hl)
  | aload_n k => obtain ⟨rfl, h⟩ := h; obtain ⟨x, hg, h_1⟩ := glR_e h; exact fun ad H locs ls h1 h2 h3 hP hD hS hl => lv_aload_n hx hb hd rfl (lget_has hl hg) (h_1 ad H locs ls h1 h2 h3 hP hD hS hl)
  | istore_n k => obtain ⟨rfl, hk, h⟩ := h; obtain ⟨x, r, rfl, h_1⟩ := gp1_e h; exact fun ad H locs ls h1 h2 h3 hP hD hS hl => lv_istore_n hx hb hd rfl hl hk rfl (fun ls' hl' => h_1 ad H locs ls' h1 h2 h3 hP hD hS (lput_has hl'))
  | istore k => obtain ⟨rfl, hk, h⟩ := h; obtain ⟨x, r, rfl, h_1⟩ := gp1_e h; exact fun ad H locs ls h1 h2 h3 hP hD hS hl => lv_istore hx hb hd hl hk rfl (fun ls' hl' => h_1 ad H locs ls' h1 h2 h3 hP hD hS (lput_has hl'))
  | lstore_n k => obtain ⟨rfl, hk, h⟩ := h; obtain ⟨x, r, rfl, h_1⟩ := gq1_e h; exact fun ad H locs ls h1 h2 h3 hP hD hS hl => lv_lstore_n hx hb hd rfl hl hk rfl (fun ls' hl' => h_1 ad H locs ls' h1 h2 h3 hP hD hS (lputL_has hl'))
  | lstore k => obtain ⟨rfl, hk, h⟩ := h; obtain ⟨x, r, rfl, h_1⟩ := gq1_e h; exact fun ad H locs ls h1 h2 h3 hP hD hS hl => lv_lstore hx hb hd hl hk rfl (fun ls' hl' => h_1 ad H locs ls' h1 h2 h3 hP hD hS (lputL_has hl'))
  | astore_n k => obtain ⟨rfl, hk, h⟩ := h; obtain ⟨x, r, rfl, h_1⟩ := gpr_e h; exact fun ad H locs ls h1 h2 h3 hP hD hS hl => lv_astore_n hx hb hd rfl hl hk rfl (fun ls' hl' => h_1 ad H locs ls' h1 h2 h3 hP hD hS (lput_has (v := .ref x) hl'))
  | iinc k n =>
    obtain ⟨rfl, hk, h⟩ := h
    obtain ⟨x, hg, h_1⟩ := glI_e h
    intro ad H locs ls h1 h2 h3 hP hD hS hl
    obtain ⟨j, hj⟩ := List.getElem?_of_mem (List.mem_map_of_mem (f := gl ad) (lget_mem hg))
    exact lv_iinc hx hb hd hl (k := j) hj rfl hk rfl (fun ls' hl' => h_1 ad H locs ls' h1 h2 h3 hP hD hS (lput_has (v := .int (x + Int32.ofInt n)) hl'))
  | iadd => obtain ⟨rfl, h⟩ := h; obtain ⟨x, y, r, rfl, h_1⟩ := gp2_e h; exact fun ad H locs ls h1 h2 h3 hP hD hS hl => lv_iadd hx hb hd (h_1 ad H locs ls h1 h2 h3 hP hD hS hl)
  | isub => obtain ⟨rfl, h⟩ := h; obtain ⟨x, y, r, rfl, h_1⟩ := gp2_e h; exact fun ad H locs ls h1 h2 h3 hP hD hS hl => lv_isub hx hb hd (h_1 ad H locs ls h1 h2 h3 hP hD hS hl)
  | imul => obtain ⟨rfl, h⟩ := h; obtain ⟨x, y, r, rfl, h_1⟩ := gp2_e h; exact fun ad H locs ls h1 h2 h3 hP hD hS hl => lv_imul hx hb hd (h_1 ad H locs ls h1 h2 h3 hP hD hS hl)
  | iand => obtain ⟨rfl, h⟩ := h; obtain ⟨x, y, r, rfl, h_1⟩ := gp2_e h; exact fun ad H locs ls h1 h2 h3 hP hD hS hl => lv_iand hx hb hd (h_1 ad H locs ls h1 h2 h3 hP hD hS hl)
  | ior => obtain ⟨rfl, h⟩ := h; obtain ⟨x, y, r, rfl, h_1⟩ := gp2_e h; exact fun ad H locs ls h1 h2 h3 hP hD hS hl => lv_ior hx hb hd (h_1 ad H locs ls h1 h2 h3 hP hD hS hl)
  | idiv => obtain ⟨rfl, h⟩ := h; obtain ⟨x, y, r, rfl, hne, h_1⟩ := gp2_e h; exact fun ad H locs ls h1 h2 h3 hP hD hS hl => lv_idiv hx hb hd hne (h_1 ad H locs ls h1 h2 h3 hP hD hS hl)
  | irem => obtain ⟨rfl, h⟩ := h; obtain ⟨x, y, r, rfl, hne, h_1⟩ := gp2_e h; exact fun ad H locs ls h1 h2 h3 hP hD hS hl => lv_irem hx hb hd hne (h_1 ad H locs ls h1 h2 h3 hP hD hS hl)
  | ishl => obtain ⟨rfl, h⟩ := h; obtain ⟨x, y, r, rfl, h_1⟩ := gp2_e h; exact fun ad H locs ls h1 h2 h3 hP hD hS hl => lv_ishl hx hb hd (h_1 ad H locs ls h1 h2 h3 hP hD hS hl)
  | ishr => obtain ⟨rfl, h⟩ := h; obtain ⟨x, y, r, rfl, h_1⟩ := gp2_e h; exact fun ad H locs ls h1 h2 h3 hP hD hS hl => lv_ishr hx hb hd (h_1 ad H locs ls h1 h2 h3 hP hD hS hl)
  | iushr => obtain ⟨rfl, h⟩ := h; obtain ⟨x, y, r, rfl, h_1⟩ := gp2_e h; exact fun ad H locs ls h1 h2 h3 hP hD hS hl => lv_iushr hx hb hd rfl (h_1 ad H locs ls h1 h2 h3 hP hD hS hl)
  | ineg => obtain ⟨rfl, h⟩ := h; obtain ⟨x, r, rfl, h_1⟩ := gp1_e h; exact fun ad H locs ls h1 h2 h3 hP hD hS hl => lv_ineg hx hb hd (h_1 ad H locs ls h1 h2 h3 hP hD hS hl)
  | i2l => obtain ⟨rfl, h⟩ := h; obtain ⟨x, r, rfl, h_1⟩ := gp1_e h; exact fun ad H locs ls h1 h2 h3 hP hD hS hl => lv_i2l hx hb hd rfl (h_1 ad H locs ls h1 h2 h3 hP hD hS hl)
  | i2b => obtain ⟨rfl, h⟩ := h; obtain ⟨x, r, rfl, h_1⟩ := gp1_e h; exact fun ad H locs ls h1 h2 h3 hP hD hS hl => lv_i2b hx hb hd rfl (h_1 ad H locs ls h1 h2 h3 hP hD hS hl)
  | l2i => obtain ⟨rfl, h⟩ := h; obtain ⟨x, r, rfl, h_1⟩ := gq1_e h; exact fun ad H locs ls h1 h2 h3 hP hD hS hl => lv_l2i hx hb hd rfl (h_1 ad H locs ls h1 h2 h3 hP hD hS hl)
  | ladd => obtain ⟨rfl, h⟩ := h; obtain ⟨x, y, r, rfl, h_1⟩ := gq2_e h; exact fun ad H locs ls h1 h2 h3 hP hD hS hl => lv_ladd hx hb hd (h_1 ad H locs ls h1 h2 h3 hP hD hS hl)
  | lmul => obtain ⟨rfl, h⟩ := h; obtain ⟨x, y, r, rfl, h_1⟩ := gq2_e h; exact fun ad H locs ls h1 h2 h3 hP hD hS hl => lv_lmul hx hb hd (h_1 ad H locs ls h1 h2 h3 hP hD hS hl)
  | ldiv => obtain ⟨rfl, h⟩ := h; obtain ⟨x, y, r, rfl, hne, h_1⟩ := gq2_e h; exact fun ad H locs ls h1 h2 h3 hP hD hS hl => lv_ldiv hx hb hd hne (h_1 ad H locs ls h1 h2 h3 hP hD hS hl)
  | lrem => obtain ⟨rfl, h⟩ := h; obtain ⟨x, y, r, rfl, hne, h_1⟩ := gq2_e h; exact fun ad H locs ls h1 h2 h3 hP hD hS hl => lv_lrem hx hb hd hne (h_1 ad H locs ls h1 h2 h3 hP hD hS hl)
  | lcmp => obtain ⟨rfl, h⟩ := h; obtain ⟨x, y, r, rfl, h_1⟩ := gq2_e h; exact fun ad H locs ls h1 h2 h3 hP hD hS hl => W.lcmp hx hb hd (h_1 ad H locs ls h1 h2 h3 hP hD hS hl)
  | dup =>
    obtain ⟨rfl, h⟩ := h
    match st, h with
    | v :: r, h => exact fun ad H locs ls h1 h2 h3 hP hD hS hl => lv_dup hx hb hd (by rw [gv_cat]; exact h.1) (h.2 ad H locs ls h1 h2 h3 hP hD hS hl)
    | [], h => exact h.elim
  | dup2 =>
    obtain ⟨rfl, h⟩ := h
    match st, h with
    | v :: w :: r, h => exact fun ad H locs ls h1 h2 h3 hP hD hS hl => lv_dup2_11 hx hb hd (by rw [gv_cat]; exact h.1.1) (by rw [gv_cat]; exact h.1.2) (h.2 ad H locs ls h1 h2 h3 hP hD hS hl)
    | [v], h => exact h.elim
    | [], h => exact h.elim
  | pop =>
    obtain ⟨rfl, h⟩ := h
    match st, h with
    | v :: r, h => exact fun ad H locs ls h1 h2 h3 hP hD hS hl => lv_pop hx hb hd (by rw [gv_cat]; exact h.1) (h.2 ad H locs ls h1 h2 h3 hP hD hS hl)
    | [], h => exact h.elim
  | goto off => obtain ⟨rfl, h0, h⟩ := h; exact fun ad H locs ls h1 h2 h3 hP hD hS hl => lv_goto hx hb hd (tgt h0) (h ad H locs ls h1 h2 h3 hP hD hS hl)
  | ifCond cd off =>
    obtain ⟨rfl, h⟩ := h
    obtain ⟨x, r, rfl, h0, ht, hf⟩ := gp1_e h
    intro ad H locs ls h1 h2 h3 hP hD hS hl
    have kt : gcmp cd x 0 → _ := fun z => ht z ad H locs ls h1 h2 h3 hP hD hS hl
    have kf : ¬ gcmp cd x 0 → _ := fun z => hf z ad H locs ls h1 h2 h3 hP hD hS hl
    cases cd with
    | eq => exact lv_if_eq hx hb hd (tgt h0) kt kf
    | ne => exact lv_if_ne hx hb hd (tgt h0) kt (fun z => kf (fun w => w z))
    | lt => exact lv_if_lt hx hb hd (tgt h0) kt kf
    | ge => exact lv_if_ge hx hb hd (tgt h0) kt kf
    | gt => exact lv_if_gt hx hb hd (tgt h0) kt kf
    | le => exact lv_if_le hx hb hd (tgt h0) kt kf
  | if_icmp cd off =>
    obtain ⟨rfl, h⟩ := h
    obtain ⟨x, y, r, rfl, h0, ht, hf⟩ := gp2_e h
    intro ad H locs ls h1 h2 h3 hP hD hS hl
    have kt : gcmp cd x y → _ := fun z => ht z ad H locs ls h1 h2 h3 hP hD hS hl
    have kf : ¬ gcmp cd x y → _ := fun z => hf z ad H locs ls h1 h2 h3 hP hD hS hl
    cases cd with
    | eq => exact lv_icmp_eq hx hb hd (tgt h0) kt kf
    | ne => exact lv_icmp_ne hx hb hd (tgt h0) kt (fun z => kf (fun w => w z))
    | lt => exact lv_icmp_lt hx hb hd (tgt h0) kt kf
    | ge => exact lv_icmp_ge hx hb hd (tgt h0) kt kf
    | gt => exact lv_icmp_gt hx hb hd (tgt h0) kt kf
    | le => exact lv_icmp_le hx hb hd (tgt h0) kt kf
  | tableswitch df lo hi offs =>
    obtain ⟨x, r, rfl, hhi, hdf, hsw⟩ := gp1_e h
    intro ad H locs ls h1 h2 h3 hP hD hS hl
    by_cases hout : x.toInt < lo ∨ hi < x.toInt
    · obtain ⟨h0, hk⟩ := hdf hout
      exact lv_tableOut hx hb hd hout (tgt h0) (hk ad H locs ls h1 h2 h3 hP hD hS hl)
    · have a1 : ¬ x.toInt < lo := fun z => hout (Or.inl z)
      have a2 : ¬ hi < x.toInt := fun z => hout (Or.inr z)
      have a3 : (x.toInt - lo).toNat < offs.toList.length := by omega
      obtain ⟨h0, hk⟩ := gswT_at hsw (List.getElem?_eq_getElem a3) (by omega)
      refine lv_tableIn hx hb hd a1 a2 (off := offs.toList[(x.toInt - lo).toNat]) ?_ (tgt h0) (hk ad H locs ls h1 h2 h3 hP hD hS hl)
      rw [← Array.getElem?_toList, List.getElem?_eq_getElem a3]
  | lookupswitch df ps =>
    obtain ⟨hp, h⟩ := h
    obtain ⟨x, r, rfl, hsw⟩ := gp1_e h
    obtain ⟨h0, hk⟩ := gswL_at hsw
    exact fun ad H locs ls h1 h2 h3 hP hD hS hl => lv_lookup hx hb hd hp rfl (tgt h0) (hk ad H locs ls h1 h2 h3 hP hD hS hl)
  | getfield i =>
    obtain ⟨rfl, h⟩ := h
    obtain ⟨⟨ci, k, t⟩, hq, h_1⟩ := gfc_e h
    obtain ⟨a, r, rfl, h_2⟩ := gpr_e h_1
    obtain ⟨fs, f, hfs, hf, h_3⟩ := ggf_e h_2
    exact gs_get S0 hq hd hfs hf h_3
  | putfield i =>
    obtain ⟨rfl, h⟩ := h
    obtain ⟨⟨ci, k, t⟩, hq, h_1⟩ := gfc_e h
    dsimp only at h_1
    by_cases ht : t < 2
    · rw [if_pos ht] at h_1
      obtain ⟨a, x, r, rfl, h_2⟩ := gpir_e h_1
      obtain ⟨fs, f, hfs, hf, rfl, hbit, h_3⟩ := ggf_e h_2
      exact gs_puti S0 hq ht hbit hd hfs hf h_3
    · rw [if_neg ht] at h_1
      obtain ⟨a, b, r, rfl, h3i, h_4⟩ := gprr_e h_1
      obtain ⟨fs, f, hfs, hf, h_5⟩ := ggf_e h_4
      exact gs_putr S0 hq ht h3i hd hfs hf h_5
  | iaload =>
    obtain ⟨rfl, h⟩ := h
    obtain ⟨a, i, r, rfl, h_1⟩ := gpir_e h
    rcases gar_e h_1 with ⟨n, ha, hi, h_1⟩ | ⟨rfl, q, hq, hi, h_1⟩
    · exact gs_iald S0 hd ha hi h_1
    · obtain ⟨x1, x2, x3⟩ := hsc q hq
      intro ad H locs ls h1 h2 h3 hP hD hS hl
      have e : ad 1000000 = ad0 1000000 := h1 _ (Or.inr (Nat.le_refl _))
      refine va_sld (b := ad 1000000) hx hb (by rw [e]; exact x1) (by rw [e]; exact x2) (by rw [e]; exact x3) hS hi hd (h_1 ad H locs ls h1 h2 h3 hP hD hS hl)
  | baload =>
    obtain ⟨rfl, h⟩ := h
    obtain ⟨a, i, r, rfl, h_1⟩ := gpir_e h
    rcases gar_e h_1 with ⟨n, ha, hi, h_1⟩ | h_1
    · exact gs_bald S0 hd ha hi h_1
    · exact h_1.elim
  | aaload =>
    obtain ⟨rfl, h⟩ := h
    obtain ⟨a, i, r, rfl, h_1⟩ := gpir_e h
    obtain ⟨l', ha, hi, q, hq, h_2⟩ := gaq_e h_1
    exact gs_aald S0 hd ha hi hq h_2
  | iastore =>
    obtain ⟨rfl, h⟩ := h
    obtain ⟨a, i, x, r, rfl, h_1⟩ := gpiir_e h
    rcases gar_e h_1 with ⟨n, ha, hi, h_1⟩ | h_1
    · exact gs_iast S0 hd ha hi h_1
    · exact h_1.elim
  | bastore =>
    obtain ⟨rfl, h⟩ := h
    obtain ⟨a, i, x, r, rfl, h_1⟩ := gpiir_e h
    rcases gar_e h_1 with ⟨n, ha, hi, h_1⟩ | h_1
    · exact gs_bast S0 hd ha hi h_1
    · exact h_1.elim
  | aastore =>
    obtain ⟨rfl, h⟩ := h
    obtain ⟨a, i, v, r, rfl, h_1⟩ := gprir_e h
    obtain ⟨l', ha, hi, hv, h_2⟩ := gaq_e h_1
    obtain ⟨fs, hfs⟩ := grc_e hv
    exact gs_aast S0 hd ha hi hfs h_2
  | arraylength =>
    obtain ⟨rfl, h⟩ := h
    obtain ⟨a, r, rfl, h_1⟩ := gpr_e h
    split at h_1
    · next q hq => exact gs_alen S0 hd hq h_1.1 h_1.2
    · next l' hq => exact gs_qlen S0 hd hq h_1
    · next hq =>
      obtain ⟨rfl, q, hs, h_1⟩ := h_1
      obtain ⟨x1, x2, x3⟩ := hsc q hs
      intro ad H locs ls h1 h2 h3 hP hD hS hl
      have e : ad 1000000 = ad0 1000000 := h1 _ (Or.inr (Nat.le_refl _))
      exact va_slen (b := ad 1000000) hx hb (by rw [e]; exact x1) (by rw [e]; exact x2) (by rw [e]; exact x3) hS hd (h_1 ad H locs ls h1 h2 h3 hP hD hS hl)
    · exact h_1.elim
  | new i =>
    obtain ⟨rfl, h⟩ := h
    obtain ⟨ci, hq, hc, hs, hok, h_1⟩ := gnc_e h
    exact gs_new S0 hq hd hc hs hok h_1
  | newarray t =>
    obtain ⟨rfl, h⟩ := h
    obtain ⟨n, r, rfl, ht, hn, h1000, hc, hs, hok, h_1⟩ := gp1_e h
    exact gs_newa S0 ht hd hn h1000 hc hs hok h_1
  | anewarray i =>
    obtain ⟨rfl, hq, h⟩ := h
    obtain ⟨n, r, rfl, hn, h1000, hc, hs, hok, h_1⟩ := gp1_e h
    exact gs_newq S0 hq hd hn h1000 hc hs hok h_1
  | invokevirtual i =>
    obtain ⟨rfl, h⟩ := h
    obtain ⟨⟨kd, mi, n, r, ci⟩, hq, hkd, hn, h_1⟩ := glc_e h
    obtain ⟨b, rest, hdr, hcat, hrc, hC⟩ := gpr_e h_1
    dsimp only at hkd
    subst hkd
    exact gs_callV S0 hq hd hn hdr hcat hrc hC
  | invokestatic i =>
    obtain ⟨rfl, h⟩ := h
    obtain ⟨⟨kd, mi, n, r, ci⟩, hq, h_1⟩ := glc_e h
    dsimp only at h_1
    by_cases h6 : kd = 6
    · subst h6
      rw [if_pos rfl] at h_1
      obtain ⟨a0, sp, a1, dp, k, rest, rfl, hcat, hd1, h_2⟩ := gcpy_e h_1
      rcases gar_e h_2 with ⟨n0', ha0, h_2⟩ | h_2
      · rcases gar_e h_2 with ⟨n1, ha1, g1, g2, g3, g4, g5, h_2⟩ | h_2
        · exact gs_cpy S0 hq hd1 hcat hd ha0 ha1 g1 g2 g3 g4 g5 h_2
        · exact h_2.elim
      · exact h_2.elim
    · rw [if_neg h6] at h_1
      obtain ⟨hkd, hn, hcat, hC⟩ := h_1
      exact gs_callS S0 hkd hq hd hn hcat hC
  | invokespecial i =>
    obtain ⟨rfl, h⟩ := h
    obtain ⟨⟨kd, mi, n, r, ci⟩, hq, h_1⟩ := glc_e h
    dsimp only at h_1
    by_cases h5 : kd = 5
    · subst h5
      rw [if_pos rfl] at h_1
      obtain ⟨a, rest, rfl, hcat, hd1, h_2⟩ := gpr_e h_1
      exact gs_obj S0 hq hd hcat hd1 h_2
    · rw [if_neg h5] at h_1
      obtain ⟨hkd, hn, h_2⟩ := h_1
      obtain ⟨b, rest, hdr, hcat, hC⟩ := gpr_e h_2
      exact gs_callI S0 hkd hq hd hn hdr hcat hC
  | ireturn =>
    obtain ⟨rfl, h⟩ := h
    obtain ⟨x, r, rfl, rfl, hrt, h_1⟩ := gp1_e h
    exact hRi _ _ _ _ _ _ _ hrt hd h_1
  | lreturn =>
    obtain ⟨rfl, h⟩ := h
    obtain ⟨x, r, rfl, rfl, hrt, h_1⟩ := gq1_e h
    exact hRl _ _ _ _ _ _ _ hrt hd h_1
  | return_ =>
    obtain ⟨rfl, rfl, hrt, h⟩ := h
    exact hRv _ _ _ _ _ _ hrt hd h
  | _ => exact False.elim h
end GSd
end
section
/-! A METHOD BY ITS BODY: X is any judgement that is closed under the steps -/
/-- closed under steps, under forgetting locals, under what a cell doesn't show -/
def gsame (e : gS) (f g : Nat → Int32) : Prop := match e with
  | .inl q => ∀ k, q.2[k]? = some none → f k = g k
  | .inr (.inl q) => ∀ k, k < q.2 → f k = g k
  | .inr (.inr _) => True
def gCl (cc : ByteArray) (o nL d MC MS rt : Nat) (ini : Bool) (sc : Option (Nat × (Nat → Int32))) (Rt : gRt) (X : gX) : Prop :=
  (∀ (pc : Nat) (lv : List (Nat × Value)) (st : List Value) (sh : List gS) (M : gM) (kc ks : Nat) (ins : Instr) (len : Nat), decode cc pc = .ok (ins, len) → gx o nL d MC MS rt ini sc X Rt ins len pc lv st sh M kc ks → X pc lv st sh M kc ks) ∧
  (∀ (pc : Nat) (lv lv' : List (Nat × Value)) (st : List Value) (sh : List gS) (M : gM) (kc ks : Nat), (∀ q ∈ lv', q ∈ lv) → X pc lv' st sh M kc ks → X pc lv st sh M kc ks) ∧
  (∀ (pc : Nat) (lv : List (Nat × Value)) (st : List Value) (sh : List gS) (M M' : gM) (kc ks : Nat), (∀ a e, sh[a]? = some e → gsame e (M a) (M' a)) → X pc lv st sh M' kc ks → X pc lv st sh M kc ks)
theorem garrV {cA : ClassId} {n : Nat} {f g : Nat → Int32} (h : ∀ k, k < n → f k = g k) : vp_cell cA (n, .inl f) = vp_cell cA (n, .inl g) := by
  show arrV cA n (fun j => .int (f j)) = arrV cA n (fun j => .int (g j))
  unfold arrV
  congr 1
  congr 1
  funext j
  show Value.int (f j.val) = Value.int (g j.val)
  rw [h j.val j.isLt]
theorem gP_same {D : va_G} {cy : Nat → ClassId} {ad : Nat → Nat} {sh : List gS} {M M' : gM} {H : Heap} (hs : ∀ a e, sh[a]? = some e → gsame e (M a) (M' a)) (hP : va_P D vwCl (gW cy ad sh M) H) : va_P D vwCl (gW cy ad sh M') H := by
  intro k q hk
  cases he : sh[k]? with
  | none =>
    rw [gW, List.getElem?_mapIdx, he] at hk
    cases hk
  | some e =>
    have h0 := hP k _ (gW_get he)
    rw [gW_get he] at hk
    cases hk
    have hs0 := hs k e he
    match e, hs0, h0 with
    | .inl q, hs0, h0 =>
      obtain ⟨r, h1, h2⟩ := h0
      refine ⟨r, h1, ?_⟩
      obtain ⟨cell, c1, c2, c3, c4⟩ := h2
      refine ⟨cell, c1, c2, c3, fun j hj => ?_⟩
      have := c4 j hj
      rw [this]
      show some (vp_V (gfv ad (M k) q.2) j) = some (vp_V (gfv ad (M' k) q.2) j)
      congr 1
      unfold vp_V
      rw [List.getD_eq_getElem?_getD, List.getD_eq_getElem?_getD, gfv, gfv, List.getElem?_mapIdx, List.getElem?_mapIdx]
      cases hq : q.2[j]? with
      | none => rfl
      | some o =>
        cases o with
        | none =>
          show Value.int (M k j) = Value.int (M' k j)
          rw [hs0 j hq]
        | some v => rfl
    | .inr (.inl q), hs0, h0 =>
      show H[ad k]? = some (vp_cell (cy q.1) (q.2, .inl (M' k)))
      rw [← garrV hs0]
      exact h0
    | .inr (.inr l), _, h0 => exact h0
theorem gD_same {A : Nat → Prop} {cy : Nat → ClassId} {ad : Nat → Nat} {sh : List gS} {M M' : gM} (hD : va_D A (gW cy ad sh M)) : va_D A (gW cy ad sh M') := by
  have key : ∀ (k : Nat) (q : Nat × va_E), (gW cy ad sh M')[k]? = some q → ∃ q0, (gW cy ad sh M)[k]? = some q0 ∧ q0.1 = q.1 := by
    intro k q hk
    cases he : sh[k]? with
    | none => rw [gW, List.getElem?_mapIdx, he] at hk; cases hk
    | some e =>
      rw [gW_get he] at hk
      cases hk
      exact ⟨_, gW_get he, rfl⟩
  refine ⟨fun i j x y hi hj hxy => ?_, fun k q hk => ?_⟩
  · obtain ⟨x0, h1, h2⟩ := key i x hi
    obtain ⟨y0, h3, h4⟩ := key j y hj
    exact hD.1 i j x0 y0 h1 h3 (h2.trans (hxy.trans h4.symm))
  · obtain ⟨q0, h1, h2⟩ := key k q hk
    rw [← h2]
    exact hD.2 k q0 h1
section GSe
variable {p : Program} {l : Launch} {e : Env} {R : Room} {s : State} {m : MethodId} {args : Array Value} {below : List Frame} {meth : Method} {c : Code} {A : Nat → Prop} {D : va_G} {cy : Nat → ClassId} {o nL d MC MS : Nat} {cc : ByteArray} {ret : Option FieldType} {ini : Bool} {Z : State → Prop} {n0 : Nat} {ad0 : Nat → Nat} {pc : Nat} {lv : List (Nat × Value)} {st : List Value} {sh : List gS} {M : gM} {kc ks : Nat}
theorem gG_lv {lv' : List (Nat × Value)} (hs : ∀ q ∈ lv', q ∈ lv) (h : gG p l e R s m args below meth c A D cy nL MC Z n0 ad0 pc lv' st sh M kc ks) : gG p l e R s m args below meth c A D cy nL MC Z n0 ad0 pc lv st sh M kc ks :=
  fun ad H locs ls h1 h2 h3 hP hD hS hl => h ad H locs ls h1 h2 h3 hP hD hS (lv_mono hl (fun q hq => by
    obtain ⟨r, hr, rfl⟩ := List.mem_map.mp hq
    exact List.mem_map_of_mem (hs r hr)))
theorem gG_M {M' : gM} (hs : ∀ a e, sh[a]? = some e → gsame e (M a) (M' a)) (h : gG p l e R s m args below meth c A D cy nL MC Z n0 ad0 pc lv st sh M' kc ks) : gG p l e R s m args below meth c A D cy nL MC Z n0 ad0 pc lv st sh M kc ks :=
  fun ad H locs ls h1 h2 h3 hP hD hS hl => h ad H locs ls h1 h2 h3 (gP_same hs hP) (gD_same hD) hS hl
end GSe
theorem glv_args (ad : Nat → Nat) : ∀ (vs : List Value) (k : Nat), lv_args k (vs.map (gv ad)) = (lv_args k vs).map (gl ad)
  | [], k => rfl
  | v :: vs, k => by
    show lv_args k (gv ad v :: vs.map (gv ad)) = _
    unfold lv_args
    rw [List.map_cons, glv_args ad vs, gv_cat]
    rfl
theorem glg_sl (ad : Nat → Nat) (vs : List Value) : (lg_sl (vs.map (gv ad))).length = (lg_sl vs).length := by
  unfold lg_sl
  rw [List.length_flatMap, List.length_flatMap, List.map_map]
  congr 1
  refine List.map_congr_left fun v _ => ?_
  show (if (gv ad v).category = 2 then [Slot.val (gv ad v), Slot.second] else [Slot.val (gv ad v)]).length = (if v.category = 2 then [Slot.val v, Slot.second] else [Slot.val v]).length
  rw [gv_cat]
  split <;> rfl
def grk (rt : Nat) (ret : Option FieldType) : Prop := match ret with
  | none => rt = 0
  | some .int => rt = 1
  | some .boolean => rt = 2
  | some .long => rt = 3
  | _ => False
theorem gC_of {mi : Nat} {y : MethodName} {cc : ByteArray} {nL : Nat} {ret : Option FieldType} {o : Nat} (hm : gmt[mi]? = some (y, cc, nL, ret, o)) {d mc ms rt : Nat} {ini : Bool} (hrt : grk rt ret) (hini : ini = true → y.name = "<init>") {avs : List Value} {sh : List gS} {M : gM} {Q : Option Value → List gS → gM → Prop} (hlen : (lg_sl avs).length ≤ nL)
    (body : ∀ X : gX, gCl cc o nL d mc ms rt ini none (fun v sh' M' kc ks => kc ≤ mc ∧ ks ≤ ms ∧ sh.length ≤ sh'.length ∧ Q v sh' M') X → X 0 (lv_args 0 avs) [] sh M 0 0) : gC mi d mc ms avs sh M Q := by
  intro q hq l D cy ad sz
  rw [hm] at hq
  cases hq
  obtain ⟨g1, g2, g3, g4, g5⟩ := gmt_spec hm
  dsimp only at g1 g2 g3 g4 g5 ⊢
  refine va_MetF (cc := cc) (maxL := nL) (ret := ret) g4 rfl ?_
  intro p e s m args below meth c s₁ B hml hv
  obtain ⟨rfl, hsz, hP, hK, hD0, hX⟩ := hv
  have hx := B.exec
  have hb := B.bytes
  have hr := B.returns
  have hts0 := atoms_spec (ws := .code y cc nL ret :: gwl) B.pre
  have hts : ∀ w ∈ gwl, w.before ((avs.map (gv ad)).toArray) s = true := fun w hw => hts0 w (List.mem_cons_of_mem _ hw)
  have hown : s.vm.findClass (gown o) = some m.cls := by rw [← g1]; exact findClass_of_methodNamed B.named
  have hlocks := B.notSynchronized
  have hnm : meth.name = y.name := (name_of_methodNamed B.named B.method).1
  subst hsz
  have hD := hD0.self (sz := s.heap.size)
  have hA : ∀ q : Nat, s.heap.size ≤ q → va_A (gW cy ad sh M) s.heap.size q := fun q h => Or.inr h
  have hS : va_S (va_A (gW cy ad sh M) s.heap.size) s.heap s.heap [] := va_S.rf
  have hl := lv_entry (avs.map (gv ad)) (n := nL) (by rw [glg_sl]; exact hlen)
  rw [lg_entry_eq]
  generalize (lg_sl (avs.map (gv ad)) ++ List.replicate (nL - (lg_sl (avs.map (gv ad))).length) Slot.unset).toArray = ls at hl ⊢
  rw [glv_args] at hl
  have S : gSt p (headSpec (.code y cc nL ret :: gwl) (grm d mc ms)).room s m ((avs.map (gv ad)).toArray) meth c (va_A (gW cy ad sh M) s.heap.size) D cy o nL d mc ms cc ret ini :=
    ⟨hx, hb, hr, hml, hown, hts, hlocks, hK, hA, ⟨Nat.le_refl _, Nat.le_refl _, rfl, rfl⟩, fun z => by rw [hnm]; exact hini z, hX⟩
  have fin : ∀ {v : Option Value} {sh' : List gS} {M' : gM} {kc ks : Nat} {ad' : Nat → Nat} {H : Heap} {locs : List Loc}, (sh.length ≤ sh'.length ∧ Q v sh' M') → (∀ k, k < sh.length ∨ 1000000 ≤ k → ad' k = ad k) → (mc = 0 → ad' = ad) → va_P D vwCl (gW cy ad' sh' M') H → va_D (va_A (gW cy ad sh M) s.heap.size) (gW cy ad' sh' M') → va_S (va_A (gW cy ad sh M) s.heap.size) s.heap H locs → v.map (gv ad') = v →
      ∀ t : State, t.heap = H → s.WarmedH t.vm → gQ Q D cy ad sh.length mc (va_A (gW cy ad sh M) s.heap.size) ((avs.map (gv ad)).toArray) s (.returned v) t := by
    intro v sh' M' kc ks ad' H locs hQ k1 k2 k3 k4 k5 hv t ht _
    exact ⟨⟨v, sh', M', ad', by rw [hv], hQ.2, k1, k2, hQ.1, by rw [ht]; exact k3, k4⟩, k5.F ht⟩
  have hX := body (gG p l e (headSpec (.code y cc nL ret :: gwl) (grm d mc ms)).room s m ((avs.map (gv ad)).toArray) below meth c (va_A (gW cy ad sh M) s.heap.size) D cy nL mc (MQ below (gQ Q D cy ad sh.length mc (va_A (gW cy ad sh M) s.heap.size)) ((avs.map (gv ad)).toArray) s mc ms (va_A (gW cy ad sh M) s.heap.size)) sh.length ad) ⟨?_, fun _ _ _ _ _ _ _ _ h1 h2 => gG_lv h1 h2, fun _ _ _ _ _ _ _ _ h1 h2 => gG_M h1 h2⟩
  · exact hX ad s.heap [] ls (fun _ _ => rfl) (fun _ => rfl) (Nat.le_refl _) hP hD hS hl
  · intro pc lv st sh1 M1 kc ks ins len hd hg
    refine gx_sound S (fun q hq => by cases hq) ?_ ?_ ?_ hd hg
    · intro pc lv sh2 M2 kc ks x hrt2 hd hR ad' H locs ls k1 k2 k3 kP kD kS kl
      refine W.widen (k := mc) (n := ms) hR.1 hR.2.1 ?_
      have hq := fin (kc := 0) (ks := 0) hR.2.2 k1 k2 kP kD kS rfl
      cases ret with
      | none => unfold grk at hrt; dsimp only at hrt; omega
      | some ty =>
        refine W.zret (ty := ty) hx hb hr ?_ hq kS.2.2 hd hlocks
        cases ty with
        | int => rfl
        | boolean =>
          have h2 : rt = 2 := hrt
          have h3 : x = 0 ∨ x = 1 := by
            rcases hrt2 with z | z
            · omega
            · exact z.2
          rcases h3 with rfl | rfl <;> rfl
        | long => have h2 : rt = 3 := hrt; omega
        | _ => exact hrt.elim
    · intro pc lv sh2 M2 kc ks x hrt2 hd hR ad' H locs ls k1 k2 k3 kP kD kS kl
      refine W.widen (k := mc) (n := ms) hR.1 hR.2.1 ?_
      have hq := fin (kc := 0) (ks := 0) hR.2.2 k1 k2 kP kD kS rfl
      have hret : ret = some .long := by
        cases ret with
        | none => unfold grk at hrt; dsimp only at hrt; omega
        | some ty =>
          cases ty with
          | long => rfl
          | int => have h2 : rt = 1 := hrt; omega
          | boolean => have h2 : rt = 2 := hrt; omega
          | _ => exact hrt.elim
      exact W.lret hx hb (by rw [hr]; exact hret) hq kS.2.2 hd hlocks
    · intro pc lv sh2 M2 kc ks hrt2 hd hR ad' H locs ls k1 k2 k3 kP kD kS kl
      refine W.widen (k := mc) (n := ms) hR.1 hR.2.1 ?_
      have hq := fin (kc := 0) (ks := 0) hR.2.2 k1 k2 kP kD kS rfl
      have hret : ret = none := by
        cases ret with
        | none => rfl
        | some ty =>
          cases ty with
          | long => have h2 : rt = 3 := hrt; omega
          | int => have h2 : rt = 1 := hrt; omega
          | boolean => have h2 : rt = 2 := hrt; omega
          | _ => exact hrt.elim
      exact W.vret hx hb (by rw [hr]; exact hret) hq kS.2.2 hd hlocks
/-! MANY STEPS -/
def gw (cc : ByteArray) (o nL d MC MS rt : Nat) (ini : Bool) (sc : Option (Nat × (Nat → Int32))) (Rt : gRt) (X : gX) (cuts : List Nat) : Nat → gX
  | 0 => X
  | n + 1 => fun pc lv st sh M kc ks => match decode cc pc with
    | .ok (ins, len) => gx o nL d MC MS rt ini sc (fun pc' lv' st' sh' M' kc' ks' => if cuts.elem pc' = true then X pc' lv' st' sh' M' kc' ks' else gw cc o nL d MC MS rt ini sc Rt X cuts n pc' lv' st' sh' M' kc' ks') Rt ins len pc lv st sh M kc ks
    | .error _ => False
end
section
/-! THE WALK: from what gw says to the judgement -/
theorem gp1_m {st : List Value} {F G : Int32 → List Value → Prop} (hFG : ∀ x r, F x r → G x r) (h : gp1 st F) : gp1 st G := by
  unfold gp1 at h ⊢; split at h
  · exact hFG _ _ h
  · exact h.elim
theorem gp2_m {st : List Value} {F G : Int32 → Int32 → List Value → Prop} (hFG : ∀ x y r, F x y r → G x y r) (h : gp2 st F) : gp2 st G := by
  unfold gp2 at h ⊢; split at h
  · exact hFG _ _ _ h
  · exact h.elim
theorem gq1_m {st : List Value} {F G : Int64 → List Value → Prop} (hFG : ∀ x r, F x r → G x r) (h : gq1 st F) : gq1 st G := by
  unfold gq1 at h ⊢; split at h
  · exact hFG _ _ h
  · exact h.elim
theorem gq2_m {st : List Value} {F G : Int64 → Int64 → List Value → Prop} (hFG : ∀ x y r, F x y r → G x y r) (h : gq2 st F) : gq2 st G := by
  unfold gq2 at h ⊢; split at h
  · exact hFG _ _ _ h
  · exact h.elim
theorem gpr_m {st : List Value} {F G : Nat → List Value → Prop} (hFG : ∀ a r, F a r → G a r) (h : gpr st F) : gpr st G := by
  unfold gpr at h ⊢; split at h
  · exact hFG _ _ h
  · exact h.elim
theorem gpir_m {st : List Value} {F G : Nat → Int32 → List Value → Prop} (hFG : ∀ a i r, F a i r → G a i r) (h : gpir st F) : gpir st G := by
  unfold gpir at h ⊢; split at h
  · exact hFG _ _ _ h
  · exact h.elim
theorem gpiir_m {st : List Value} {F G : Nat → Int32 → Int32 → List Value → Prop} (hFG : ∀ a i x r, F a i x r → G a i x r) (h : gpiir st F) : gpiir st G := by
  unfold gpiir at h ⊢; split at h
  · exact hFG _ _ _ _ h
  · exact h.elim
theorem gprir_m {st : List Value} {F G : Nat → Int32 → Nat → List Value → Prop} (hFG : ∀ a i v r, F a i v r → G a i v r) (h : gprir st F) : gprir st G := by
  unfold gprir at h ⊢; split at h
  · exact hFG _ _ _ _ h
  · exact h.elim
theorem gprr_m {st : List Value} {F G : Nat → Nat → List Value → Prop} (hFG : ∀ a b r, F a b r → G a b r) (h : gprr st F) : gprr st G := by
  unfold gprr at h ⊢; split at h
  · exact hFG _ _ _ h
  · exact h.elim
theorem gcpy_m {st : List Value} {F G : Nat → Int32 → Nat → Int32 → Int32 → List Value → Prop} (hFG : ∀ a0 sp a1 dp n r, F a0 sp a1 dp n r → G a0 sp a1 dp n r) (h : gcpy st F) : gcpy st G := by
  unfold gcpy at h ⊢; split at h
  · exact hFG _ _ _ _ _ _ h
  · exact h.elim
theorem glI_m {lv : List (Nat × Value)} {i : Nat} {F G : Int32 → Prop} (hFG : ∀ x, F x → G x) (h : glI lv i F) : glI lv i G := by
  unfold glI at h ⊢; split at h
  · exact hFG _ h
  · exact h.elim
theorem glL_m {lv : List (Nat × Value)} {i : Nat} {F G : Int64 → Prop} (hFG : ∀ x, F x → G x) (h : glL lv i F) : glL lv i G := by
  unfold glL at h ⊢; split at h
  · exact hFG _ h
  · exact h.elim
theorem glR_m {lv : List (Nat × Value)} {i : Nat} {F G : Nat → Prop} (hFG : ∀ x, F x → G x) (h : glR lv i F) : glR lv i G := by
  unfold glR at h ⊢; split at h
  · exact hFG _ h
  · exact h.elim
theorem ggf_m {sh : List gS} {a ci k : Nat} {F G : List (Option Value) → Option Value → Prop} (hFG : ∀ x y, F x y → G x y) (h : ggf sh a ci k F) : ggf sh a ci k G := by
  unfold ggf at h ⊢; split at h
  · refine ⟨h.1, ?_⟩
    have h2 := h.2
    split at h2
    · exact hFG _ _ h2
    · exact h2.elim
  · exact h.elim
theorem gar_m {sh : List gS} {a kd : Nat} {F G : Nat → Prop} {E E' : Prop} (hFG : ∀ n, F n → G n) (hE : E → E') (h : gar sh a kd F E) : gar sh a kd G E' := by
  unfold gar at h ⊢; split at h
  · exact ⟨h.1, hFG _ h.2⟩
  · exact hE h
  · exact h.elim
theorem gaq_m {sh : List gS} {a : Nat} {F G : List (Option Nat) → Prop} (hFG : ∀ l, F l → G l) (h : gaq sh a F) : gaq sh a G := by
  unfold gaq at h ⊢; split at h
  · exact hFG _ h
  · exact h.elim
theorem gfc_m {o i : Nat} {F G : Nat → Nat → Nat → Prop} (hFG : ∀ a b c, F a b c → G a b c) (h : gfc o i F) : gfc o i G := by
  unfold gfc at h ⊢; split at h
  · exact hFG _ _ _ h
  · exact h.elim
theorem glc_m {o i : Nat} {F G : Nat → Nat → Nat → Nat → Nat → Prop} (hFG : ∀ a b c d e, F a b c d e → G a b c d e) (h : glc o i F) : glc o i G := by
  unfold glc at h ⊢; split at h
  · exact hFG _ _ _ _ _ h
  · exact h.elim
theorem gnc_m {o i : Nat} {F G : Nat → Prop} (hFG : ∀ a, F a → G a) (h : gnc o i F) : gnc o i G := by
  unfold gnc at h ⊢; split at h
  · exact hFG _ h
  · exact h.elim
theorem gret_m {r : Nat} {v : Option Value} {F G : List Value → Prop} (hFG : ∀ w, F w → G w) (h : gret r v F) : gret r v G := by
  unfold gret at h ⊢; split at h
  · exact ⟨h.1, hFG _ h.2⟩
  · exact ⟨h.1, hFG _ h.2⟩
  · exact ⟨h.1, hFG _ h.2⟩
  · exact h.elim
theorem gswT_m {F G : Int → Prop} (hFG : ∀ x, F x → G x) {x : Int32} : ∀ {l : List Int} {lo : Int}, gswT F x lo l → gswT G x lo l
  | [], _, _ => trivial
  | _ :: _, _, h => ⟨fun z => hFG _ (h.1 z), gswT_m hFG h.2⟩
theorem gswL_m {F G : Int → Prop} (hFG : ∀ x, F x → G x) {x : Int32} {d : Int} : ∀ {l : List (Int × Int)}, gswL F x d l → gswL G x d l
  | [], h => hFG _ h
  | _ :: _, h => ⟨fun z => hFG _ (h.1 z), fun z => gswL_m hFG (h.2 z)⟩
theorem gC_mono {mi d mc ms : Nat} {avs : List Value} {sh : List gS} {M : gM} {Q Q' : Option Value → List gS → gM → Prop} (hQ : ∀ v sh' M', Q v sh' M' → Q' v sh' M') (h : gC mi d mc ms avs sh M Q) : gC mi d mc ms avs sh M Q' := by
  intro q hq l D cy ad sz p e ha hc hk s m args below hf happ hP hK
  obtain ⟨n, o, h1, h2, h3, h4, h5⟩ := h q hq l D cy ad sz p e ha hc hk s m args below hf happ hP hK
  refine ⟨n, o, h1, h2, h3, ?_, h5⟩
  obtain ⟨⟨v, sh', M', ad', k1, k2, k3⟩, k4⟩ := h4
  exact ⟨⟨v, sh', M', ad', k1, hQ _ _ _ k2, k3⟩, k4⟩
theorem gCall_m {d mi : Nat} {avs : List Value} {sh : List gS} {M : gM} {kc ks MC MS : Nat} {oth : List Value} {P P' : Option Value → List gS → gM → Nat → Nat → Prop} (hP : ∀ v sh' M' a b, P v sh' M' a b → P' v sh' M' a b) (h : gCall d mi avs sh M kc ks MC MS oth P) : gCall d mi avs sh M kc ks MC MS oth P' := by
  obtain ⟨d', mc, ms, h1, h2, h3, h4, h5⟩ := h
  exact ⟨d', mc, ms, h1, h2, h3, h4, gC_mono (fun _ _ _ z => hP _ _ _ _ _ z) h5⟩
set_option maxHeartbeats 4000000 in
theorem gx_mono {o nL d MC MS rt : Nat} {ini : Bool} {sc : Option (Nat × (Nat → Int32))} {K X : gX} {Rt : gRt} {ins : Instr} {len pc : Nat} {lv : List (Nat × Value)} {st : List Value} {sh : List gS} {M : gM} {kc ks : Nat} (hK : ∀ pc lv st sh M kc ks, K pc lv st sh M kc ks → X pc lv st sh M kc ks)
    (h : gx o nL d MC MS rt ini sc K Rt ins len pc lv st sh M kc ks) : gx o nL d MC MS rt ini sc X Rt ins len pc lv st sh M kc ks := by
  have hk : ∀ {pc : Nat} {lv : List (Nat × Value)} {st : List Value} {sh : List gS} {M : gM} {kc ks : Nat}, K pc lv st sh M kc ks → X pc lv st sh M kc ks := fun z => hK _ _ _ _ _ _ _ z
  have ht : ∀ {off : Int} {r : List Value}, gto K pc off lv r sh M kc ks → gto X pc off lv r sh M kc ks := fun z => ⟨z.1, hk z.2⟩
  cases ins with
  | iconst n => exact ⟨h.1, hk h.2⟩
  | lconst n => exact ⟨h.1, hk h.2⟩
  | bipush n => exact ⟨h.1, h.2.1, hk h.2.2⟩
  | sipush n => exact ⟨h.1, h.2.1, hk h.2.2⟩
  | ldc2_w i => obtain ⟨a, x, b, c⟩ := h; exact ⟨a, x, b, hk c⟩
  | ldc_w i => obtain ⟨a, x, b, c⟩ := h; exact ⟨a, x, b, hk c⟩
  | iload_n k => exact ⟨h.1, glI_m (fun _ z => hk z) h.2⟩
  | iload k => exact ⟨h.1, glI_m (fun _ z => hk z) h.2⟩
  | lload_n k => exact ⟨h.1, glL_m (fun _ z => hk z) h.2⟩
  | lload k => exact ⟨h.1, glL_m (fun _ z => hk z) h.2⟩
  | aload_n k => exact ⟨h.1, glR_m (fun _ z => hk z) h.2⟩
  | istore_n k => exact ⟨h.1, h.2.1, gp1_m (fun _ _ z => hk z) h.2.2⟩
  | istore k => exact ⟨h.1, h.2.1, gp1_m (fun _ _ z => hk z) h.2.2⟩
  | lstore_n k => exact ⟨h.1, h.2.1, gq1_m (fun _ _ z => hk z) h.2.2⟩
  | lstore k => exact ⟨h.1, h.2.1, gq1_m (fun _ _ z => hk z) h.2.2⟩
  | astore_n k => exact ⟨h.1, h.2.1, gpr_m (fun _ _ z => hk z) h.2.2⟩
  | iinc k n => exact ⟨h.1, h.2.1, glI_m (fun _ z => hk z) h.2.2⟩
  | iadd => exact ⟨h.1, gp2_m (fun _ _ _ z => hk z) h.2⟩
  | isub => exact ⟨h.1, gp2_m (fun _ _ _ z => hk z) h.2⟩
  | imul => exact ⟨h.1, gp2_m (fun _ _ _ z => hk z) h.2⟩
  | iand => exact ⟨h.1, gp2_m (fun _ _ _ z => hk z) h.2⟩
  | ior => exact ⟨h.1, gp2_m (fun _ _ _ z => hk z) h.2⟩
  | ishl => exact ⟨h.1, gp2_m (fun _ _ _ z => hk z) h.2⟩
  | ishr => exact ⟨h.1, gp2_m (fun _ _ _ z => hk z) h.2⟩
  | iushr => exact ⟨h.1, gp2_m (fun _ _ _ z => hk z) h.2⟩
  | idiv => exact ⟨h.1, gp2_m (fun _ _ _ z => ⟨z.1, hk z.2⟩) h.2⟩
  | irem => exact ⟨h.1, gp2_m (fun _ _ _ z => ⟨z.1, hk z.2⟩) h.2⟩
  | ladd => exact ⟨h.1, gq2_m (fun _ _ _ z => hk z) h.2⟩
  | lmul => exact ⟨h.1, gq2_m (fun _ _ _ z => hk z) h.2⟩
  | lcmp => exact ⟨h.1, gq2_m (fun _ _ _ z => hk z) h.2⟩
  | ldiv => exact ⟨h.1, gq2_m (fun _ _ _ z => ⟨z.1, hk z.2⟩) h.2⟩
  | lrem => exact ⟨h.1, gq2_m (fun _ _ _ z => ⟨z.1, hk z.2⟩) h.2⟩
  | ineg => exact ⟨h.1, gp1_m (fun _ _ z => hk z) h.2⟩
  | i2l => exact ⟨h.1, gp1_m (fun _ _ z => hk z) h.2⟩
  | i2b => exact ⟨h.1, gp1_m (fun _ _ z => hk z) h.2⟩
  | l2i => exact ⟨h.1, gq1_m (fun _ _ z => hk z) h.2⟩
  | dup =>
    refine ⟨h.1, ?_⟩
    match st, h.2 with
    | v :: r, h => exact ⟨h.1, hk h.2⟩
    | [], h => exact h.elim
  | pop =>
    refine ⟨h.1, ?_⟩
    match st, h.2 with
    | v :: r, h => exact ⟨h.1, hk h.2⟩
    | [], h => exact h.elim
  | dup2 =>
    refine ⟨h.1, ?_⟩
    match st, h.2 with
    | v :: w :: r, h => exact ⟨h.1, hk h.2⟩
    | [v], h => exact h.elim
    | [], h => exact h.elim
  | goto off => exact ⟨h.1, ht h.2⟩
  | ifCond c off => exact ⟨h.1, gp1_m (fun _ _ z => ⟨z.1, fun w => hk (z.2.1 w), fun w => hk (z.2.2 w)⟩) h.2⟩
  | if_icmp c off => exact ⟨h.1, gp2_m (fun _ _ _ z => ⟨z.1, fun w => hk (z.2.1 w), fun w => hk (z.2.2 w)⟩) h.2⟩
  | tableswitch df lo hi offs => exact gp1_m (fun _ _ z => ⟨z.1, fun w => ht (z.2.1 w), gswT_m (fun _ w => ht w) z.2.2⟩) h
  | lookupswitch df ps => exact ⟨h.1, gp1_m (fun _ _ z => gswL_m (fun _ w => ht w) z) h.2⟩
  | getfield i => exact ⟨h.1, gfc_m (fun _ _ _ z => gpr_m (fun _ _ z => ggf_m (fun _ _ z => hk z) z) z) h.2⟩
  | putfield i =>
    refine ⟨h.1, gfc_m (fun ci k t z => ?_) h.2⟩
    by_cases h2 : t < 2
    · rw [if_pos h2] at z ⊢
      exact gpir_m (fun _ _ _ z => ggf_m (fun _ _ z => ⟨z.1, z.2.1, hk z.2.2⟩) z) z
    · rw [if_neg h2] at z ⊢
      exact gprr_m (fun _ _ _ z => ⟨z.1, ggf_m (fun _ _ z => hk z) z.2⟩) z
  | iaload => exact ⟨h.1, gpir_m (fun _ _ _ z => gar_m (fun _ z => ⟨z.1, hk z.2⟩) (fun ⟨a, q, b, c, d⟩ => ⟨a, q, b, c, hk d⟩) z) h.2⟩
  | baload => exact ⟨h.1, gpir_m (fun _ _ _ z => gar_m (fun _ z => ⟨z.1, hk z.2⟩) id z) h.2⟩
  | aaload => exact ⟨h.1, gpir_m (fun _ _ _ z => gaq_m (fun _ ⟨a, q, b, c⟩ => ⟨a, q, b, hk c⟩) z) h.2⟩
  | iastore => exact ⟨h.1, gpiir_m (fun _ _ _ _ z => gar_m (fun _ z => ⟨z.1, hk z.2⟩) id z) h.2⟩
  | bastore => exact ⟨h.1, gpiir_m (fun _ _ _ _ z => gar_m (fun _ z => ⟨z.1, hk z.2⟩) id z) h.2⟩
  | aastore => exact ⟨h.1, gprir_m (fun _ _ _ _ z => gaq_m (fun _ z => ⟨z.1, z.2.1, hk z.2.2⟩) z) h.2⟩
  | arraylength =>
    refine ⟨h.1, gpr_m (fun a r z => ?_) h.2⟩
    split at z
    · exact ⟨z.1, hk z.2⟩
    · exact hk z
    · obtain ⟨a1, q, b1, c1⟩ := z; exact ⟨a1, q, b1, hk c1⟩
    · exact z.elim
  | new i => exact ⟨h.1, gnc_m (fun _ z => ⟨z.1, z.2.1, z.2.2.1, hk z.2.2.2⟩) h.2⟩
  | newarray t => exact ⟨h.1, gp1_m (fun _ _ z => ⟨z.1, z.2.1, z.2.2.1, z.2.2.2.1, z.2.2.2.2.1, z.2.2.2.2.2.1, hk z.2.2.2.2.2.2⟩) h.2⟩
  | anewarray i => exact ⟨h.1, h.2.1, gp1_m (fun _ _ z => ⟨z.1, z.2.1, z.2.2.1, z.2.2.2.1, z.2.2.2.2.1, hk z.2.2.2.2.2⟩) h.2.2⟩
  | invokevirtual i => exact ⟨h.1, glc_m (fun _ _ _ _ _ z => ⟨z.1, z.2.1, gpr_m (fun _ _ z => ⟨z.1, z.2.1, gCall_m (fun _ _ _ _ _ z => gret_m (fun _ z => hk z) z) z.2.2⟩) z.2.2⟩) h.2⟩
  | invokestatic i =>
    refine ⟨h.1, glc_m (fun kd mi n r _ z => ?_) h.2⟩
    by_cases h6 : kd = 6
    · rw [if_pos h6] at z ⊢
      exact gcpy_m (fun _ _ _ _ _ _ z => ⟨z.1, z.2.1, gar_m (fun _ z => gar_m (fun _ z => ⟨z.1, z.2.1, z.2.2.1, z.2.2.2.1, z.2.2.2.2.1, hk z.2.2.2.2.2⟩) id z) id z.2.2⟩) z
    · rw [if_neg h6] at z ⊢
      exact ⟨z.1, z.2.1, z.2.2.1, gCall_m (fun _ _ _ _ _ z => gret_m (fun _ z => hk z) z) z.2.2.2⟩
  | invokespecial i =>
    refine ⟨h.1, glc_m (fun kd mi n r _ z => ?_) h.2⟩
    by_cases h5 : kd = 5
    · rw [if_pos h5] at z ⊢
      exact gpr_m (fun _ _ z => ⟨z.1, z.2.1, hk z.2.2⟩) z
    · rw [if_neg h5] at z ⊢
      exact ⟨z.1, z.2.1, gpr_m (fun _ _ z => ⟨z.1, gCall_m (fun _ _ _ _ _ z => gret_m (fun _ z => hk z) z) z.2⟩) z.2.2⟩
  | ireturn => exact h
  | lreturn => exact h
  | return_ => exact h
  | _ => exact h.elim
theorem gw_sound {cc : ByteArray} {o nL d MC MS rt : Nat} {ini : Bool} {sc : Option (Nat × (Nat → Int32))} {Rt : gRt} {X : gX} (hX : gCl cc o nL d MC MS rt ini sc Rt X) (cuts : List Nat) : ∀ (n : Nat) {pc : Nat} {lv : List (Nat × Value)} {st : List Value} {sh : List gS} {M : gM} {kc ks : Nat}, gw cc o nL d MC MS rt ini sc Rt X cuts n pc lv st sh M kc ks → X pc lv st sh M kc ks
  | 0, _, _, _, _, _, _, _, h => h
  | n + 1, pc, lv, st, sh, M, kc, ks, h => by
    unfold gw at h
    cases hd : decode cc pc with
    | error e => rw [hd] at h; exact h.elim
    | ok q =>
      obtain ⟨ins, len⟩ := q
      rw [hd] at h
      refine hX.1 _ _ _ _ _ _ _ _ _ hd (gx_mono (fun pc' lv' st' sh' M' kc' ks' z => ?_) h)
      by_cases hc : cuts.elem pc' = true
      · rw [if_pos hc] at z; exact z
      · rw [if_neg hc] at z; exact gw_sound hX cuts n z
end
section
/-! rows for the walk -/
theorem gm_X6_init : gmt[0]? = some (yX6_init, cX6_init, 2, none, 6) := rfl
theorem gm_X1_init : gmt[1]? = some (yX1_init, cX1_init, 1, none, 1) := rfl
theorem gm_X4_init : gmt[2]? = some (yX4_init, cX4_init, 1, none, 4) := rfl
theorem gm_X3_init : gmt[3]? = some (yX3_init, cX3_init, 1, none, 3) := rfl
theorem gm_X2_init : gmt[4]? = some (yX2_init, cX2_init, 3, none, 2) := rfl
theorem gm_J9_max_7cf53 : gmt[5]? = some (yJ9_max_7cf53, cJ9_max_7cf53, 2, (some .int), 10) := rfl
theorem gm_X0_init : gmt[6]? = some (yX0_init, cX0_init, 1, none, 0) := rfl
theorem gm_X5_init : gmt[7]? = some (yX5_init, cX5_init, 1, none, 5) := rfl
theorem gm_X1_add : gmt[8]? = some (yX1_add, cX1_add, 2, (some .boolean), 1) := rfl
theorem gm_X1_firstFault : gmt[9]? = some (yX1_firstFault, cX1_firstFault, 4, (some .int), 1) := rfl
theorem gm_X4_empty : gmt[10]? = some (yX4_empty, cX4_empty, 2, none, 4) := rfl
theorem gm_X1_readItem : gmt[11]? = some (yX1_readItem, cX1_readItem, 6, (some .boolean), 1) := rfl
theorem gm_X1_readLetter : gmt[12]? = some (yX1_readLetter, cX1_readLetter, 1, (some .int), 1) := rfl
theorem gm_X1_numbersBehind : gmt[13]? = some (yX1_numbersBehind, cX1_numbersBehind, 1, (some .int), 1) := rfl
theorem gm_X1_readNumber : gmt[14]? = some (yX1_readNumber, cX1_readNumber, 4, (some .int), 1) := rfl
theorem gm_X6_within : gmt[15]? = some (yX6_within, cX6_within, 3, (some .boolean), 6) := rfl
theorem gm_X4_take : gmt[16]? = some (yX4_take, cX4_take, 3, (some .boolean), 4) := rfl
theorem gm_X4_takePerson : gmt[17]? = some (yX4_takePerson, cX4_takePerson, 2, (some .boolean), 4) := rfl
theorem gm_X4_eachUpTo : gmt[18]? = some (yX4_eachUpTo, cX4_eachUpTo, 4, (some .boolean), 4) := rfl
theorem gm_X4_takeDeed : gmt[19]? = some (yX4_takeDeed, cX4_takeDeed, 2, (some .boolean), 4) := rfl
theorem gm_X4_takeHabit : gmt[20]? = some (yX4_takeHabit, cX4_takeHabit, 2, (some .boolean), 4) := rfl
theorem gm_X4_takePrice : gmt[21]? = some (yX4_takePrice, cX4_takePrice, 2, (some .boolean), 4) := rfl
theorem gm_X3_begin : gmt[22]? = some (yX3_begin, cX3_begin, 3, none, 3) := rfl
theorem gm_X6_write : gmt[23]? = some (yX6_write, cX6_write, 2, (some .int), 6) := rfl
theorem gm_X6_wipe : gmt[24]? = some (yX6_wipe, cX6_wipe, 2, (some .int), 6) := rfl
theorem gm_X6_fault : gmt[25]? = some (yX6_fault, cX6_fault, 1, (some .int), 6) := rfl
theorem gm_X6_lay : gmt[26]? = some (yX6_lay, cX6_lay, 2, (some .int), 6) := rfl
theorem gm_X6_person : gmt[27]? = some (yX6_person, cX6_person, 3, (some .int), 6) := rfl
theorem gm_X6_isPerson : gmt[28]? = some (yX6_isPerson, cX6_isPerson, 2, (some .boolean), 6) := rfl
theorem gm_X3_hue : gmt[29]? = some (yX3_hue, cX3_hue, 2, (some .int), 3) := rfl
theorem gm_X6_hueOf : gmt[30]? = some (yX6_hueOf, cX6_hueOf, 4, (some .int), 6) := rfl
theorem gm_X6_deed : gmt[31]? = some (yX6_deed, cX6_deed, 3, (some .int), 6) := rfl
theorem gm_X6_isDeed : gmt[32]? = some (yX6_isDeed, cX6_isDeed, 2, (some .boolean), 6) := rfl
theorem gm_X6_told : gmt[33]? = some (yX6_told, cX6_told, 3, (some .int), 6) := rfl
theorem gm_X6_can : gmt[34]? = some (yX6_can, cX6_can, 3, (some .int), 6) := rfl
theorem gm_X4_affords : gmt[35]? = some (yX4_affords, cX4_affords, 9, (some .boolean), 4) := rfl
theorem gm_X4_writeBill : gmt[36]? = some (yX4_writeBill, cX4_writeBill, 4, none, 4) := rfl
theorem gm_X4_billSum : gmt[37]? = some (yX4_billSum, cX4_billSum, 1, (some .int), 4) := rfl
theorem gm_X4_mix : gmt[38]? = some (yX4_mix, cX4_mix, 6, (some .boolean), 4) := rfl
theorem gm_X6_pass : gmt[39]? = some (yX6_pass, cX6_pass, 2, (some .int), 6) := rfl
theorem gm_X2_put : gmt[40]? = some (yX2_put, cX2_put, 2, none, 2) := rfl
theorem gm_X3_copyFrom : gmt[41]? = some (yX3_copyFrom, cX3_copyFrom, 2, none, 3) := rfl
theorem gm_J9_min_7cf53 : gmt[42]? = some (yJ9_min_7cf53, cJ9_min_7cf53, 2, (some .int), 10) := rfl
theorem gm_X3_passDays : gmt[43]? = some (yX3_passDays, cX3_passDays, 4, none, 3) := rfl
theorem gm_X3_doTold : gmt[44]? = some (yX3_doTold, cX3_doTold, 4, none, 3) := rfl
theorem gm_X3_weekday : gmt[45]? = some (yX3_weekday, cX3_weekday, 1, (some .int), 3) := rfl
theorem gm_X3_perform : gmt[46]? = some (yX3_perform, cX3_perform, 4, (some .int), 3) := rfl
theorem gm_X4_pay : gmt[47]? = some (yX4_pay, cX4_pay, 4, none, 4) := rfl
theorem gm_X3_fade : gmt[48]? = some (yX3_fade, cX3_fade, 3, none, 3) := rfl
theorem gm_X4_fade : gmt[49]? = some (yX4_fade, cX4_fade, 4, none, 4) := rfl
theorem gm_X3_endDay : gmt[50]? = some (yX3_endDay, cX3_endDay, 3, none, 3) := rfl
theorem gm_X4_renew : gmt[51]? = some (yX4_renew, cX4_renew, 6, none, 4) := rfl
theorem gm_X6_act : gmt[52]? = some (yX6_act, cX6_act, 3, (some .int), 6) := rfl
theorem gm_X6_lend : gmt[53]? = some (yX6_lend, cX6_lend, 7, (some .int), 6) := rfl
theorem gm_X6_isSort : gmt[54]? = some (yX6_isSort, cX6_isSort, 1, (some .boolean), 6) := rfl
theorem gm_X6_sell : gmt[55]? = some (yX6_sell, cX6_sell, 5, (some .int), 6) := rfl
theorem gm_X6_levy : gmt[56]? = some (yX6_levy, cX6_levy, 4, (some .int), 6) := rfl
theorem gm_X3_takeFromRichest : gmt[57]? = some (yX3_takeFromRichest, cX3_takeFromRichest, 5, (some .boolean), 3) := rfl
theorem gm_X6_undo : gmt[58]? = some (yX6_undo, cX6_undo, 1, (some .int), 6) := rfl
theorem gm_X2_takeLast : gmt[59]? = some (yX2_takeLast, cX2_takeLast, 2, (some .boolean), 2) := rfl
theorem gm_X6_behind : gmt[60]? = some (yX6_behind, cX6_behind, 4, (some .int), 6) := rfl
theorem gm_X6_grey : gmt[61]? = some (yX6_grey, cX6_grey, 4, (some .int), 6) := rfl
theorem gm_X3_firstGrey : gmt[62]? = some (yX3_firstGrey, cX3_firstGrey, 3, (some .int), 3) := rfl
theorem gm_X6_best : gmt[63]? = some (yX6_best, cX6_best, 3, (some .int), 6) := rfl
theorem gm_X0_choose : gmt[64]? = some (yX0_choose, cX0_choose, 5, none, 0) := rfl
theorem gm_X0_search : gmt[65]? = some (yX0_search, cX0_search, 8, none, 0) := rfl
theorem gm_X0_isBetter : gmt[66]? = some (yX0_isBetter, cX0_isBetter, 3, (some .boolean), 0) := rfl
theorem gm_X0_repeat : gmt[67]? = some (yX0_repeat, cX0_repeat, 7, (some .int), 0) := rfl
theorem gm_X6_lending : gmt[68]? = some (yX6_lending, cX6_lending, 6, (some .int), 6) := rfl
theorem gm_X6_needToday : gmt[69]? = some (yX6_needToday, cX6_needToday, 4, (some .int), 6) := rfl
theorem gm_X6_heap : gmt[70]? = some (yX6_heap, cX6_heap, 8, (some .int), 6) := rfl
theorem gm_J6_bitCount_0f7a4 : gmt[71]? = some (yJ6_bitCount_0f7a4, cJ6_bitCount_0f7a4, 1, (some .int), 9) := rfl
theorem gm_X6_sumOf : gmt[72]? = some (yX6_sumOf, cX6_sumOf, 5, (some .int), 6) := rfl
theorem gm_X6_seen : gmt[73]? = some (yX6_seen, cX6_seen, 4, (some .int), 6) := rfl
theorem gm_X5_add : gmt[74]? = some (yX5_add, cX5_add, 4, (some .boolean), 5) := rfl
theorem gm_X6_forget : gmt[75]? = some (yX6_forget, cX6_forget, 2, (some .int), 6) := rfl
theorem gm_X6_spent : gmt[76]? = some (yX6_spent, cX6_spent, 3, (some .int), 6) := rfl
theorem gm_X5_lastDay : gmt[77]? = some (yX5_lastDay, cX5_lastDay, 4, (some .int), 5) := rfl
theorem gm_X5_recall : gmt[78]? = some (yX5_recall, cX5_recall, 4, none, 5) := rfl
theorem gm_X5_search : gmt[79]? = some (yX5_search, cX5_search, 7, none, 5) := rfl
theorem gm_X5_spendDay : gmt[80]? = some (yX5_spendDay, cX5_spendDay, 7, (some .boolean), 5) := rfl
theorem gm_X5_agrees : gmt[81]? = some (yX5_agrees, cX5_agrees, 5, (some .boolean), 5) := rfl
theorem gm_X6_saved : gmt[82]? = some (yX6_saved, cX6_saved, 5, (some .int), 6) := rfl
theorem gm_X6_lasts : gmt[83]? = some (yX6_lasts, cX6_lasts, 11, (some .int), 6) := rfl
theorem gm_X6_timesInARow : gmt[84]? = some (yX6_timesInARow, cX6_timesInARow, 5, (some .int), 6) := rfl
theorem gm_X6_choose : gmt[85]? = some (yX6_choose, cX6_choose, 5, (some .long), 6) := rfl
theorem gm_X6_power : gmt[86]? = some (yX6_power, cX6_power, 5, (some .long), 6) := rfl
theorem gm_X6_commonDivisor : gmt[87]? = some (yX6_commonDivisor, cX6_commonDivisor, 11, (some .long), 6) := rfl
theorem gm_J9_max_f86c9 : gmt[88]? = some (yJ9_max_f86c9, cJ9_max_f86c9, 4, (some .long), 10) := rfl
theorem gm_X6_year : gmt[89]? = some (yX6_year, cX6_year, 6, (some .int), 6) := rfl
theorem gm_X3_doDrawn : gmt[90]? = some (yX3_doDrawn, cX3_doDrawn, 6, none, 3) := rfl
theorem gm_X3_draw : gmt[91]? = some (yX3_draw, cX3_draw, 5, (some .int), 3) := rfl
theorem gm_X3_countGrey : gmt[92]? = some (yX3_countGrey, cX3_countGrey, 4, (some .int), 3) := rfl
theorem gm_X3_worthOfAll : gmt[93]? = some (yX3_worthOfAll, cX3_worthOfAll, 4, (some .int), 3) := rfl
theorem gm_X6_keep : gmt[94]? = some (yX6_keep, cX6_keep, 1, (some .int), 6) := rfl
theorem gm_X6_back : gmt[95]? = some (yX6_back, cX6_back, 1, (some .int), 6) := rfl
theorem gm_X6_count : gmt[96]? = some (yX6_count, cX6_count, 2, (some .int), 6) := rfl
theorem gm_X3_thimblesOfAll : gmt[97]? = some (yX3_thimblesOfAll, cX3_thimblesOfAll, 4, (some .int), 3) := rfl
theorem gm_X7_init : gmt[98]? = some (yX7_init, cX7_init, 1, none, 7) := rfl
theorem gm_X7_firstPerson : gmt[99]? = some (yX7_firstPerson, cX7_firstPerson, 7, none, 7) := rfl
theorem gm_X7_firstDeed : gmt[100]? = some (yX7_firstDeed, cX7_firstDeed, 6, none, 7) := rfl
theorem gm_X7_takeDraft : gmt[101]? = some (yX7_takeDraft, cX7_takeDraft, 2, none, 7) := rfl
theorem gm_X7_write : gmt[102]? = some (yX7_write, cX7_write, 2, (some .int), 7) := rfl
theorem gm_X7_in : gmt[103]? = some (yX7_in, cX7_in, 3, (some .boolean), 7) := rfl
theorem gm_X7_wipe : gmt[104]? = some (yX7_wipe, cX7_wipe, 2, (some .int), 7) := rfl
theorem gm_X7_fault : gmt[105]? = some (yX7_fault, cX7_fault, 2, (some .int), 7) := rfl
theorem gm_X7_readItem : gmt[106]? = some (yX7_readItem, cX7_readItem, 6, none, 7) := rfl
theorem gm_X7_here : gmt[107]? = some (yX7_here, cX7_here, 1, (some .int), 7) := rfl
theorem gm_X7_number : gmt[108]? = some (yX7_number, cX7_number, 6, (some .int), 7) := rfl
theorem gm_X7_lay : gmt[109]? = some (yX7_lay, cX7_lay, 1, (some .int), 7) := rfl
theorem gm_X7_person : gmt[110]? = some (yX7_person, cX7_person, 3, (some .int), 7) := rfl
theorem gm_X7_isPerson : gmt[111]? = some (yX7_isPerson, cX7_isPerson, 2, (some .boolean), 7) := rfl
theorem gm_X7_hue : gmt[112]? = some (yX7_hue, cX7_hue, 5, (some .int), 7) := rfl
theorem gm_X7_deed : gmt[113]? = some (yX7_deed, cX7_deed, 3, (some .int), 7) := rfl
theorem gm_X7_isDeed : gmt[114]? = some (yX7_isDeed, cX7_isDeed, 2, (some .boolean), 7) := rfl
theorem gm_X7_told : gmt[115]? = some (yX7_told, cX7_told, 3, (some .int), 7) := rfl
theorem gm_X7_can : gmt[116]? = some (yX7_can, cX7_can, 3, (some .int), 7) := rfl
theorem gm_X7_canDo : gmt[117]? = some (yX7_canDo, cX7_canDo, 8, (some .boolean), 7) := rfl
theorem gm_X7_plainCost : gmt[118]? = some (yX7_plainCost, cX7_plainCost, 6, none, 7) := rfl
theorem gm_X7_lacks : gmt[119]? = some (yX7_lacks, cX7_lacks, 6, (some .int), 7) := rfl
theorem gm_X7_pass : gmt[120]? = some (yX7_pass, cX7_pass, 3, (some .int), 7) := rfl
theorem gm_X7_know : gmt[121]? = some (yX7_know, cX7_know, 2, none, 7) := rfl
theorem gm_X7_copy : gmt[122]? = some (yX7_copy, cX7_copy, 4, none, 7) := rfl
theorem gm_X7_toldDeeds : gmt[123]? = some (yX7_toldDeeds, cX7_toldDeeds, 4, none, 7) := rfl
theorem gm_X7_doIt : gmt[124]? = some (yX7_doIt, cX7_doIt, 6, (some .int), 7) := rfl
theorem gm_X7_seaAll : gmt[125]? = some (yX7_seaAll, cX7_seaAll, 3, none, 7) := rfl
theorem gm_X7_sea : gmt[126]? = some (yX7_sea, cX7_sea, 4, none, 7) := rfl
theorem gm_X7_over : gmt[127]? = some (yX7_over, cX7_over, 5, none, 7) := rfl
theorem gm_X7_act : gmt[128]? = some (yX7_act, cX7_act, 3, (some .int), 7) := rfl
theorem gm_X7_lend : gmt[129]? = some (yX7_lend, cX7_lend, 7, (some .int), 7) := rfl
theorem gm_X7_isSort : gmt[130]? = some (yX7_isSort, cX7_isSort, 1, (some .boolean), 7) := rfl
theorem gm_X7_sell : gmt[131]? = some (yX7_sell, cX7_sell, 4, (some .int), 7) := rfl
theorem gm_X7_levy : gmt[132]? = some (yX7_levy, cX7_levy, 6, (some .int), 7) := rfl
theorem gm_X7_undo : gmt[133]? = some (yX7_undo, cX7_undo, 1, (some .int), 7) := rfl
theorem gm_X7_behind : gmt[134]? = some (yX7_behind, cX7_behind, 5, (some .int), 7) := rfl
theorem gm_X7_grey : gmt[135]? = some (yX7_grey, cX7_grey, 4, (some .int), 7) := rfl
theorem gm_X7_best : gmt[136]? = some (yX7_best, cX7_best, 8, (some .int), 7) := rfl
theorem gm_X7_tryRow : gmt[137]? = some (yX7_tryRow, cX7_tryRow, 7, (some .boolean), 7) := rfl
theorem gm_X7_lending : gmt[138]? = some (yX7_lending, cX7_lending, 9, (some .int), 7) := rfl
theorem gm_X7_heap : gmt[139]? = some (yX7_heap, cX7_heap, 7, (some .int), 7) := rfl
theorem gm_X7_together : gmt[140]? = some (yX7_together, cX7_together, 5, (some .int), 7) := rfl
theorem gm_X7_manyOf : gmt[141]? = some (yX7_manyOf, cX7_manyOf, 3, (some .int), 7) := rfl
theorem gm_X7_seen : gmt[142]? = some (yX7_seen, cX7_seen, 4, (some .int), 7) := rfl
theorem gm_X7_forget : gmt[143]? = some (yX7_forget, cX7_forget, 2, (some .int), 7) := rfl
theorem gm_X7_spent : gmt[144]? = some (yX7_spent, cX7_spent, 7, (some .int), 7) := rfl
theorem gm_X7_lastOf : gmt[145]? = some (yX7_lastOf, cX7_lastOf, 4, (some .int), 7) := rfl
theorem gm_X7_power : gmt[146]? = some (yX7_power, cX7_power, 4, (some .int), 7) := rfl
theorem gm_X7_isSpent : gmt[147]? = some (yX7_isSpent, cX7_isSpent, 8, (some .boolean), 7) := rfl
theorem gm_X7_saved : gmt[148]? = some (yX7_saved, cX7_saved, 6, (some .int), 7) := rfl
theorem gm_X7_lasts : gmt[149]? = some (yX7_lasts, cX7_lasts, 12, (some .int), 7) := rfl
theorem gm_X7_year : gmt[150]? = some (yX7_year, cX7_year, 10, (some .int), 7) := rfl
theorem gm_X7_keep : gmt[151]? = some (yX7_keep, cX7_keep, 1, (some .int), 7) := rfl
theorem gm_X7_back : gmt[152]? = some (yX7_back, cX7_back, 1, (some .int), 7) := rfl
theorem gm_X7_count : gmt[153]? = some (yX7_count, cX7_count, 6, (some .int), 7) := rfl
theorem gzfin0 : ((0 : Fin 4) : Nat) = 0 := rfl
theorem gzfin1 : ((1 : Fin 4) : Nat) = 1 := rfl
theorem gzfin2 : ((2 : Fin 4) : Nat) = 2 := rfl
theorem gzfin3 : ((3 : Fin 4) : Nat) = 3 := rfl
theorem gzcat_i (x : Int32) : (Value.int x).category = 1 := rfl
theorem gzcat_l (x : Int64) : (Value.long x).category = 2 := rfl
theorem gzcat_r (x : Nat) : (Value.ref x).category = 1 := rfl
end
section
/-! ROWS FOR WALKS: an instruction a row, over any judgement X that is closed under the steps -/
theorem gpr_i {a : Nat} {r : List Value} {F : Nat → List Value → Prop} (h : F a r) : gpr (.ref a :: r) F := h
theorem gpir_i {a : Nat} {i : Int32} {r : List Value} {F : Nat → Int32 → List Value → Prop} (h : F a i r) : gpir (.int i :: .ref a :: r) F := h
theorem gpiir_i {a : Nat} {i x : Int32} {r : List Value} {F : Nat → Int32 → Int32 → List Value → Prop} (h : F a i x r) : gpiir (.int x :: .int i :: .ref a :: r) F := h
theorem gprr_i {a b : Nat} {r : List Value} {F : Nat → Nat → List Value → Prop} (h : F a b r) : gprr (.ref b :: .ref a :: r) F := h
theorem ggf_i {sh : List gS} {a ci k : Nat} {F : List (Option Value) → Option Value → Prop} {fs : List (Option Value)} {f : Option Value} (ha : sh[a]? = some (.inl (ci, fs))) (hf : fs[k]? = some f) (h : F fs f) : ggf sh a ci k F := by
  unfold ggf; rw [ha]; refine ⟨rfl, ?_⟩
  show (match fs[k]? with
    | some f => F fs f
    | none => False)
  rw [hf]; exact h
theorem gar_i {sh : List gS} {a kd n : Nat} {F : Nat → Prop} {E : Prop} (ha : sh[a]? = some (.inr (.inl (kd, n)))) (h : F n) : gar sh a kd F E := by
  unfold gar; rw [ha]; exact ⟨rfl, h⟩
theorem gaq_i {sh : List gS} {a : Nat} {l : List (Option Nat)} {F : List (Option Nat) → Prop} (ha : sh[a]? = some (.inr (.inr l))) (h : F l) : gaq sh a F := by
  unfold gaq; rw [ha]; exact h
theorem gfc_i {o i ci k t : Nat} {F : Nat → Nat → Nat → Prop} (hq : gfl o i = some (ci, k, t)) (h : F ci k t) : gfc o i F := by
  unfold gfc; rw [hq]; exact h
theorem glc_i {o i a b c d e : Nat} {F : Nat → Nat → Nat → Nat → Nat → Prop} (hq : glk o i = some (a, b, c, d, e)) (h : F a b c d e) : glc o i F := by
  unfold glc; rw [hq]; exact h
theorem grc_i {sh : List gS} {b ci : Nat} {fs : List (Option Value)} (h : sh[b]? = some (.inl (ci, fs))) : grc sh b ci := by
  unfold grc; rw [h]
section SR
variable {cc : ByteArray} {o nL d MC MS rt : Nat} {ini : Bool} {sc : Option (Nat × (Nat → Int32))} {Rt : gRt} {X : gX} {pc q : Nat} {lv : List (Nat × Value)} {st : List Value} {sh : List gS} {M : gM} {kc ks : Nat} {x y v : Int32} {u w z : Int64}
theorem s_iconst {n : Int} (hX : gCl cc o nL d MC MS rt ini sc Rt X) (hd : decode cc pc = .ok (.iconst n, 1)) (hp : pc + 1 = q) (hv : Int32.ofInt n = v) (h : X q lv (.int v :: st) sh M kc ks) : X pc lv st sh M kc ks := by
  subst hp
  exact hX.1 _ _ _ _ _ _ _ _ _ hd ⟨rfl, by rw [hv]; exact h⟩
theorem s_bipush {n : Int} (hX : gCl cc o nL d MC MS rt ini sc Rt X) (hd : decode cc pc = .ok (.bipush n, 2)) (hp : pc + 2 = q) (hv : Int32.ofInt n = v) (hn : -128 ≤ n ∧ n ≤ 127) (h : X q lv (.int v :: st) sh M kc ks) : X pc lv st sh M kc ks := by
  subst hp
  exact hX.1 _ _ _ _ _ _ _ _ _ hd ⟨rfl, hn, by rw [hv]; exact h⟩
theorem s_sipush {n : Int} (hX : gCl cc o nL d MC MS rt ini sc Rt X) (hd : decode cc pc = .ok (.sipush n, 3)) (hp : pc + 3 = q) (hv : Int32.ofInt n = v) (hn : -32768 ≤ n ∧ n ≤ 32767) (h : X q lv (.int v :: st) sh M kc ks) : X pc lv st sh M kc ks := by
  subst hp
  exact hX.1 _ _ _ _ _ _ _ _ _ hd ⟨rfl, hn, by rw [hv]; exact h⟩
theorem s_lconst {n : Fin 2} (hX : gCl cc o nL d MC MS rt ini sc Rt X) (hd : decode cc pc = .ok (.lconst n, 1)) (hp : pc + 1 = q) (hv : Int64.ofNat n.val = z) (h : X q lv (.long z :: st) sh M kc ks) : X pc lv st sh M kc ks := by
  subst hp
  exact hX.1 _ _ _ _ _ _ _ _ _ hd ⟨rfl, by rw [hv]; exact h⟩
theorem s_ldc2 {i : Nat} (hX : gCl cc o nL d MC MS rt ini sc Rt X) (hd : decode cc pc = .ok (.ldc2_w i, 3)) (hp : pc + 3 = q) (hq : gcl o i = some z) (h : X q lv (.long z :: st) sh M kc ks) : X pc lv st sh M kc ks := by
  subst hp
  exact hX.1 _ _ _ _ _ _ _ _ _ hd ⟨rfl, z, hq, h⟩
theorem s_ldcw {i : Nat} (hX : gCl cc o nL d MC MS rt ini sc Rt X) (hd : decode cc pc = .ok (.ldc_w i, 3)) (hp : pc + 3 = q) (hq : gci o i = some v) (h : X q lv (.int v :: st) sh M kc ks) : X pc lv st sh M kc ks := by
  subst hp
  exact hX.1 _ _ _ _ _ _ _ _ _ hd ⟨rfl, v, hq, h⟩
theorem s_iload_n {k : Fin 4} (hX : gCl cc o nL d MC MS rt ini sc Rt X) (hd : decode cc pc = .ok (.iload_n k, 1)) (hp : pc + 1 = q) (hg : lget lv k.val = some (.int x)) (h : X q lv (.int x :: st) sh M kc ks) : X pc lv st sh M kc ks := by
  subst hp
  exact hX.1 _ _ _ _ _ _ _ _ _ hd ⟨rfl, by unfold glI; rw [hg]; exact h⟩
theorem s_iload {k : Nat} (hX : gCl cc o nL d MC MS rt ini sc Rt X) (hd : decode cc pc = .ok (.iload k, 2)) (hp : pc + 2 = q) (hg : lget lv k = some (.int x)) (h : X q lv (.int x :: st) sh M kc ks) : X pc lv st sh M kc ks := by
  subst hp
  exact hX.1 _ _ _ _ _ _ _ _ _ hd ⟨rfl, by unfold glI; rw [hg]; exact h⟩
theorem s_lload_n {k : Fin 4} (hX : gCl cc o nL d MC MS rt ini sc Rt X) (hd : decode cc pc = .ok (.lload_n k, 1)) (hp : pc + 1 = q) (hg : lget lv k.val = some (.long u)) (h : X q lv (.long u :: st) sh M kc ks) : X pc lv st sh M kc ks := by
  subst hp
  exact hX.1 _ _ _ _ _ _ _ _ _ hd ⟨rfl, by unfold glL; rw [hg]; exact h⟩
theorem s_lload {k : Nat} (hX : gCl cc o nL d MC MS rt ini sc Rt X) (hd : decode cc pc = .ok (.lload k, 2)) (hp : pc + 2 = q) (hg : lget lv k = some (.long u)) (h : X q lv (.long u :: st) sh M kc ks) : X pc lv st sh M kc ks := by
  subst hp
  exact hX.1 _ _ _ _ _ _ _ _ _ hd ⟨rfl, by unfold glL; rw [hg]; exact h⟩
theorem s_aload_n {k : Fin 4} {a : Nat} (hX : gCl cc o nL d MC MS rt ini sc Rt X) (hd : decode cc pc = .ok (.aload_n k, 1)) (hp : pc + 1 = q) (hg : lget lv k.val = some (.ref a)) (h : X q lv (.ref a :: st) sh M kc ks) : X pc lv st sh M kc ks := by
  subst hp
  exact hX.1 _ _ _ _ _ _ _ _ _ hd ⟨rfl, by unfold glR; rw [hg]; exact h⟩
theorem s_istore_n {k : Fin 4} {lv' : List (Nat × Value)} (hX : gCl cc o nL d MC MS rt ini sc Rt X) (hd : decode cc pc = .ok (.istore_n k, 1)) (hp : pc + 1 = q) (hk : k.val < nL) (hl : lput lv k.val (.int x) = lv') (h : X q lv' (st) sh M kc ks) : X pc lv (.int x :: st) sh M kc ks := by
  subst hp
  exact hX.1 _ _ _ _ _ _ _ _ _ hd ⟨rfl, hk, by rw [← hl] at h; exact h⟩
theorem s_istore {k : Nat} {lv' : List (Nat × Value)} (hX : gCl cc o nL d MC MS rt ini sc Rt X) (hd : decode cc pc = .ok (.istore k, 2)) (hp : pc + 2 = q) (hk : k < nL) (hl : lput lv k (.int x) = lv') (h : X q lv' (st) sh M kc ks) : X pc lv (.int x :: st) sh M kc ks := by
  subst hp
  exact hX.1 _ _ _ _ _ _ _ _ _ hd ⟨rfl, hk, by rw [← hl] at h; exact h⟩
theorem s_lstore_n {k : Fin 4} {lv' : List (Nat × Value)} (hX : gCl cc o nL d MC MS rt ini sc Rt X) (hd : decode cc pc = .ok (.lstore_n k, 1)) (hp : pc + 1 = q) (hk : k.val + 1 < nL) (hl : lputL lv k.val (.long u) = lv') (h : X q lv' (st) sh M kc ks) : X pc lv (.long u :: st) sh M kc ks := by
  subst hp
  exact hX.1 _ _ _ _ _ _ _ _ _ hd ⟨rfl, hk, by rw [← hl] at h; exact h⟩
theorem s_lstore {k : Nat} {lv' : List (Nat × Value)} (hX : gCl cc o nL d MC MS rt ini sc Rt X) (hd : decode cc pc = .ok (.lstore k, 2)) (hp : pc + 2 = q) (hk : k + 1 < nL) (hl : lputL lv k (.long u) = lv') (h : X q lv' (st) sh M kc ks) : X pc lv (.long u :: st) sh M kc ks := by
  subst hp
  exact hX.1 _ _ _ _ _ _ _ _ _ hd ⟨rfl, hk, by rw [← hl] at h; exact h⟩
theorem s_astore_n {k : Fin 4} {a : Nat} {lv' : List (Nat × Value)} (hX : gCl cc o nL d MC MS rt ini sc Rt X) (hd : decode cc pc = .ok (.astore_n k, 1)) (hp : pc + 1 = q) (hk : k.val < nL) (hl : lput lv k.val (.ref a) = lv') (h : X q lv' (st) sh M kc ks) : X pc lv (.ref a :: st) sh M kc ks := by
  subst hp
  exact hX.1 _ _ _ _ _ _ _ _ _ hd ⟨rfl, hk, by rw [← hl] at h; exact h⟩
theorem s_iinc {k : Nat} {n : Int} {lv' : List (Nat × Value)} (hX : gCl cc o nL d MC MS rt ini sc Rt X) (hd : decode cc pc = .ok (.iinc k n, 3)) (hp : pc + 3 = q) (hg : lget lv k = some (.int x)) (hv : x + Int32.ofInt n = v) (hk : k < nL) (hl : lput lv k (.int v) = lv') (h : X q lv' (st) sh M kc ks) : X pc lv st sh M kc ks := by
  subst hp
  exact hX.1 _ _ _ _ _ _ _ _ _ hd ⟨rfl, hk, by unfold glI; rw [hg]; rw [← hl, ← hv] at h; exact h⟩
theorem s_iadd (hX : gCl cc o nL d MC MS rt ini sc Rt X) (hd : decode cc pc = .ok (.iadd, 1)) (hp : pc + 1 = q) (hv : x + y = v) (h : X q lv (.int v :: st) sh M kc ks) : X pc lv (.int y :: .int x :: st) sh M kc ks := by
  subst hp
  exact hX.1 _ _ _ _ _ _ _ _ _ hd ⟨rfl, by rw [← hv] at h; exact h⟩
theorem s_isub (hX : gCl cc o nL d MC MS rt ini sc Rt X) (hd : decode cc pc = .ok (.isub, 1)) (hp : pc + 1 = q) (hv : x - y = v) (h : X q lv (.int v :: st) sh M kc ks) : X pc lv (.int y :: .int x :: st) sh M kc ks := by
  subst hp
  exact hX.1 _ _ _ _ _ _ _ _ _ hd ⟨rfl, by rw [← hv] at h; exact h⟩
theorem s_imul (hX : gCl cc o nL d MC MS rt ini sc Rt X) (hd : decode cc pc = .ok (.imul, 1)) (hp : pc + 1 = q) (hv : x * y = v) (h : X q lv (.int v :: st) sh M kc ks) : X pc lv (.int y :: .int x :: st) sh M kc ks := by
  subst hp
  exact hX.1 _ _ _ _ _ _ _ _ _ hd ⟨rfl, by rw [← hv] at h; exact h⟩
theorem s_iand (hX : gCl cc o nL d MC MS rt ini sc Rt X) (hd : decode cc pc = .ok (.iand, 1)) (hp : pc + 1 = q) (hv : x &&& y = v) (h : X q lv (.int v :: st) sh M kc ks) : X pc lv (.int y :: .int x :: st) sh M kc ks := by
  subst hp
  exact hX.1 _ _ _ _ _ _ _ _ _ hd ⟨rfl, by rw [← hv] at h; exact h⟩
theorem s_ior (hX : gCl cc o nL d MC MS rt ini sc Rt X) (hd : decode cc pc = .ok (.ior, 1)) (hp : pc + 1 = q) (hv : x ||| y = v) (h : X q lv (.int v :: st) sh M kc ks) : X pc lv (.int y :: .int x :: st) sh M kc ks := by
  subst hp
  exact hX.1 _ _ _ _ _ _ _ _ _ hd ⟨rfl, by rw [← hv] at h; exact h⟩
theorem s_ishl (hX : gCl cc o nL d MC MS rt ini sc Rt X) (hd : decode cc pc = .ok (.ishl, 1)) (hp : pc + 1 = q) (hv : x <<< (y &&& 31) = v) (h : X q lv (.int v :: st) sh M kc ks) : X pc lv (.int y :: .int x :: st) sh M kc ks := by
  subst hp
  exact hX.1 _ _ _ _ _ _ _ _ _ hd ⟨rfl, by rw [← hv] at h; exact h⟩
theorem s_ishr (hX : gCl cc o nL d MC MS rt ini sc Rt X) (hd : decode cc pc = .ok (.ishr, 1)) (hp : pc + 1 = q) (hv : x >>> (y &&& 31) = v) (h : X q lv (.int v :: st) sh M kc ks) : X pc lv (.int y :: .int x :: st) sh M kc ks := by
  subst hp
  exact hX.1 _ _ _ _ _ _ _ _ _ hd ⟨rfl, by rw [← hv] at h; exact h⟩
theorem s_iushr (hX : gCl cc o nL d MC MS rt ini sc Rt X) (hd : decode cc pc = .ok (.iushr, 1)) (hp : pc + 1 = q) (hv : iush x y = v) (h : X q lv (.int v :: st) sh M kc ks) : X pc lv (.int y :: .int x :: st) sh M kc ks := by
  subst hp
  exact hX.1 _ _ _ _ _ _ _ _ _ hd ⟨rfl, by rw [← hv] at h; exact h⟩
theorem s_idiv (hX : gCl cc o nL d MC MS rt ini sc Rt X) (hd : decode cc pc = .ok (.idiv, 1)) (hp : pc + 1 = q) (hv : x / y = v) (hne : ¬ y = 0) (h : X q lv (.int v :: st) sh M kc ks) : X pc lv (.int y :: .int x :: st) sh M kc ks := by
  subst hp
  exact hX.1 _ _ _ _ _ _ _ _ _ hd ⟨rfl, hne, by rw [← hv] at h; exact h⟩
theorem s_irem (hX : gCl cc o nL d MC MS rt ini sc Rt X) (hd : decode cc pc = .ok (.irem, 1)) (hp : pc + 1 = q) (hv : irm x y = v) (hne : ¬ y = 0) (h : X q lv (.int v :: st) sh M kc ks) : X pc lv (.int y :: .int x :: st) sh M kc ks := by
  subst hp
  exact hX.1 _ _ _ _ _ _ _ _ _ hd ⟨rfl, hne, by rw [← hv] at h; exact h⟩
theorem s_ladd (hX : gCl cc o nL d MC MS rt ini sc Rt X) (hd : decode cc pc = .ok (.ladd, 1)) (hp : pc + 1 = q) (hv : u + w = z) (h : X q lv (.long z :: st) sh M kc ks) : X pc lv (.long w :: .long u :: st) sh M kc ks := by
  subst hp
  exact hX.1 _ _ _ _ _ _ _ _ _ hd ⟨rfl, by rw [← hv] at h; exact h⟩
theorem s_lmul (hX : gCl cc o nL d MC MS rt ini sc Rt X) (hd : decode cc pc = .ok (.lmul, 1)) (hp : pc + 1 = q) (hv : u * w = z) (h : X q lv (.long z :: st) sh M kc ks) : X pc lv (.long w :: .long u :: st) sh M kc ks := by
  subst hp
  exact hX.1 _ _ _ _ _ _ _ _ _ hd ⟨rfl, by rw [← hv] at h; exact h⟩
theorem s_ldiv (hX : gCl cc o nL d MC MS rt ini sc Rt X) (hd : decode cc pc = .ok (.ldiv, 1)) (hp : pc + 1 = q) (hv : u / w = z) (hne : ¬ w = 0) (h : X q lv (.long z :: st) sh M kc ks) : X pc lv (.long w :: .long u :: st) sh M kc ks := by
  subst hp
  exact hX.1 _ _ _ _ _ _ _ _ _ hd ⟨rfl, hne, by rw [← hv] at h; exact h⟩
theorem s_lrem (hX : gCl cc o nL d MC MS rt ini sc Rt X) (hd : decode cc pc = .ok (.lrem, 1)) (hp : pc + 1 = q) (hv : lrm u w = z) (hne : ¬ w = 0) (h : X q lv (.long z :: st) sh M kc ks) : X pc lv (.long w :: .long u :: st) sh M kc ks := by
  subst hp
  exact hX.1 _ _ _ _ _ _ _ _ _ hd ⟨rfl, hne, by rw [← hv] at h; exact h⟩
theorem s_lcmp (hX : gCl cc o nL d MC MS rt ini sc Rt X) (hd : decode cc pc = .ok (.lcmp, 1)) (hp : pc + 1 = q) (hv : lg_cmp u w = v) (h : X q lv (.int v :: st) sh M kc ks) : X pc lv (.long w :: .long u :: st) sh M kc ks := by
  subst hp
  exact hX.1 _ _ _ _ _ _ _ _ _ hd ⟨rfl, by rw [← hv] at h; exact h⟩
theorem s_ineg (hX : gCl cc o nL d MC MS rt ini sc Rt X) (hd : decode cc pc = .ok (.ineg, 1)) (hp : pc + 1 = q) (hv : -x = v) (h : X q lv (.int v :: st) sh M kc ks) : X pc lv (.int x :: st) sh M kc ks := by
  subst hp
  exact hX.1 _ _ _ _ _ _ _ _ _ hd ⟨rfl, by rw [← hv] at h; exact h⟩
theorem s_i2l (hX : gCl cc o nL d MC MS rt ini sc Rt X) (hd : decode cc pc = .ok (.i2l, 1)) (hp : pc + 1 = q) (hv : x.toInt64 = z) (h : X q lv (.long z :: st) sh M kc ks) : X pc lv (.int x :: st) sh M kc ks := by
  subst hp
  exact hX.1 _ _ _ _ _ _ _ _ _ hd ⟨rfl, by rw [← hv] at h; exact h⟩
theorem s_i2b (hX : gCl cc o nL d MC MS rt ini sc Rt X) (hd : decode cc pc = .ok (.i2b, 1)) (hp : pc + 1 = q) (hv : x.toInt8.toInt32 = v) (h : X q lv (.int v :: st) sh M kc ks) : X pc lv (.int x :: st) sh M kc ks := by
  subst hp
  exact hX.1 _ _ _ _ _ _ _ _ _ hd ⟨rfl, by rw [← hv] at h; exact h⟩
theorem s_l2i (hX : gCl cc o nL d MC MS rt ini sc Rt X) (hd : decode cc pc = .ok (.l2i, 1)) (hp : pc + 1 = q) (hv : u.toInt32 = v) (h : X q lv (.int v :: st) sh M kc ks) : X pc lv (.long u :: st) sh M kc ks := by
  subst hp
  exact hX.1 _ _ _ _ _ _ _ _ _ hd ⟨rfl, by rw [← hv] at h; exact h⟩
theorem s_dup {a : Value} (hX : gCl cc o nL d MC MS rt ini sc Rt X) (hd : decode cc pc = .ok (.dup, 1)) (hp : pc + 1 = q) (hc : a.category = 1) (h : X q lv (a :: a :: st) sh M kc ks) : X pc lv (a :: st) sh M kc ks := by
  subst hp
  exact hX.1 _ _ _ _ _ _ _ _ _ hd ⟨rfl, hc, h⟩
theorem s_dup2 {a b : Value} (hX : gCl cc o nL d MC MS rt ini sc Rt X) (hd : decode cc pc = .ok (.dup2, 1)) (hp : pc + 1 = q) (hc : a.category = 1) (hb : b.category = 1) (h : X q lv (a :: b :: a :: b :: st) sh M kc ks) : X pc lv (a :: b :: st) sh M kc ks := by
  subst hp
  exact hX.1 _ _ _ _ _ _ _ _ _ hd ⟨rfl, ⟨hc, hb⟩, h⟩
theorem s_pop {a : Value} (hX : gCl cc o nL d MC MS rt ini sc Rt X) (hd : decode cc pc = .ok (.pop, 1)) (hp : pc + 1 = q) (hc : a.category = 1) (h : X q lv (st) sh M kc ks) : X pc lv (a :: st) sh M kc ks := by
  subst hp
  exact hX.1 _ _ _ _ _ _ _ _ _ hd ⟨rfl, hc, h⟩
theorem s_goto {off : Int} (hX : gCl cc o nL d MC MS rt ini sc Rt X) (hd : decode cc pc = .ok (.goto off, 3)) (hp : (pc : Int) + off = (q : Int)) (h : X q lv st sh M kc ks) : X pc lv st sh M kc ks := by
  refine hX.1 _ _ _ _ _ _ _ _ _ hd ⟨rfl, ?_, ?_⟩
  · rw [hp]; exact Int.natCast_nonneg q
  · rw [hp]; exact h
theorem s_if_eq {off : Int} {r : Nat} (hX : gCl cc o nL d MC MS rt ini sc Rt X) (hd : decode cc pc = .ok (.ifCond .eq off, 3)) (hp : pc + 3 = q) (ho : (pc : Int) + off = (r : Int)) (ht : x = 0 → X r lv st sh M kc ks) (hf : ¬ (x = 0) → X q lv st sh M kc ks) : X pc lv (.int x :: st) sh M kc ks := by
  subst hp
  refine hX.1 _ _ _ _ _ _ _ _ _ hd ⟨rfl, ?_, ?_, hf⟩
  · rw [ho]; exact Int.natCast_nonneg r
  · rw [ho]; exact ht
theorem s_if_eq_t {off : Int} {r : Nat} (hX : gCl cc o nL d MC MS rt ini sc Rt X) (hd : decode cc pc = .ok (.ifCond .eq off, 3)) (hp : pc + 3 = q) (ho : (pc : Int) + off = (r : Int)) (hc : x = 0) (h : X r lv st sh M kc ks) : X pc lv (.int x :: st) sh M kc ks := s_if_eq hX hd hp ho (fun _ => h) (fun z => absurd hc z)
theorem s_if_eq_f {off : Int} {r : Nat} (hX : gCl cc o nL d MC MS rt ini sc Rt X) (hd : decode cc pc = .ok (.ifCond .eq off, 3)) (hp : pc + 3 = q) (ho : (pc : Int) + off = (r : Int)) (hc : ¬ (x = 0)) (h : X q lv st sh M kc ks) : X pc lv (.int x :: st) sh M kc ks := s_if_eq hX hd hp ho (fun z => absurd z hc) (fun _ => h)
theorem s_icmp_eq {off : Int} {r : Nat} (hX : gCl cc o nL d MC MS rt ini sc Rt X) (hd : decode cc pc = .ok (.if_icmp .eq off, 3)) (hp : pc + 3 = q) (ho : (pc : Int) + off = (r : Int)) (ht : x = y → X r lv st sh M kc ks) (hf : ¬ (x = y) → X q lv st sh M kc ks) : X pc lv (.int y :: .int x :: st) sh M kc ks := by
  subst hp
  refine hX.1 _ _ _ _ _ _ _ _ _ hd ⟨rfl, ?_, ?_, hf⟩
  · rw [ho]; exact Int.natCast_nonneg r
  · rw [ho]; exact ht
theorem s_icmp_eq_t {off : Int} {r : Nat} (hX : gCl cc o nL d MC MS rt ini sc Rt X) (hd : decode cc pc = .ok (.if_icmp .eq off, 3)) (hp : pc + 3 = q) (ho : (pc : Int) + off = (r : Int)) (hc : x = y) (h : X r lv st sh M kc ks) : X pc lv (.int y :: .int x :: st) sh M kc ks := s_icmp_eq hX hd hp ho (fun _ => h) (fun z => absurd hc z)
theorem s_icmp_eq_f {off : Int} {r : Nat} (hX : gCl cc o nL d MC MS rt ini sc Rt X) (hd : decode cc pc = .ok (.if_icmp .eq off, 3)) (hp : pc + 3 = q) (ho : (pc : Int) + off = (r : Int)) (hc : ¬ (x = y)) (h : X q lv st sh M kc ks) : X pc lv (.int y :: .int x :: st) sh M kc ks := s_icmp_eq hX hd hp ho (fun z => absurd z hc) (fun _ => h)
theorem s_if_ne {off : Int} {r : Nat} (hX : gCl cc o nL d MC MS rt ini sc Rt X) (hd : decode cc pc = .ok (.ifCond .ne off, 3)) (hp : pc + 3 = q) (ho : (pc : Int) + off = (r : Int)) (ht : ¬ x = 0 → X r lv st sh M kc ks) (hf : ¬ (¬ x = 0) → X q lv st sh M kc ks) : X pc lv (.int x :: st) sh M kc ks := by
  subst hp
  refine hX.1 _ _ _ _ _ _ _ _ _ hd ⟨rfl, ?_, ?_, hf⟩
  · rw [ho]; exact Int.natCast_nonneg r
  · rw [ho]; exact ht
theorem s_if_ne_t {off : Int} {r : Nat} (hX : gCl cc o nL d MC MS rt ini sc Rt X) (hd : decode cc pc = .ok (.ifCond .ne off, 3)) (hp : pc + 3 = q) (ho : (pc : Int) + off = (r : Int)) (hc : ¬ x = 0) (h : X r lv st sh M kc ks) : X pc lv (.int x :: st) sh M kc ks := s_if_ne hX hd hp ho (fun _ => h) (fun z => absurd hc z)
theorem s_if_ne_f {off : Int} {r : Nat} (hX : gCl cc o nL d MC MS rt ini sc Rt X) (hd : decode cc pc = .ok (.ifCond .ne off, 3)) (hp : pc + 3 = q) (ho : (pc : Int) + off = (r : Int)) (hc : ¬ (¬ x = 0)) (h : X q lv st sh M kc ks) : X pc lv (.int x :: st) sh M kc ks := s_if_ne hX hd hp ho (fun z => absurd z hc) (fun _ => h)
theorem s_icmp_ne {off : Int} {r : Nat} (hX : gCl cc o nL d MC MS rt ini sc Rt X) (hd : decode cc pc = .ok (.if_icmp .ne off, 3)) (hp : pc + 3 = q) (ho : (pc : Int) + off = (r : Int)) (ht : ¬ x = y → X r lv st sh M kc ks) (hf : ¬ (¬ x = y) → X q lv st sh M kc ks) : X pc lv (.int y :: .int x :: st) sh M kc ks := by
  subst hp
  refine hX.1 _ _ _ _ _ _ _ _ _ hd ⟨rfl, ?_, ?_, hf⟩
  · rw [ho]; exact Int.natCast_nonneg r
  · rw [ho]; exact ht
theorem s_icmp_ne_t {off : Int} {r : Nat} (hX : gCl cc o nL d MC MS rt ini sc Rt X) (hd : decode cc pc = .ok (.if_icmp .ne off, 3)) (hp : pc + 3 = q) (ho : (pc : Int) + off = (r : Int)) (hc : ¬ x = y) (h : X r lv st sh M kc ks) : X pc lv (.int y :: .int x :: st) sh M kc ks := s_icmp_ne hX hd hp ho (fun _ => h) (fun z => absurd hc z)
theorem s_icmp_ne_f {off : Int} {r : Nat} (hX : gCl cc o nL d MC MS rt ini sc Rt X) (hd : decode cc pc = .ok (.if_icmp .ne off, 3)) (hp : pc + 3 = q) (ho : (pc : Int) + off = (r : Int)) (hc : ¬ (¬ x = y)) (h : X q lv st sh M kc ks) : X pc lv (.int y :: .int x :: st) sh M kc ks := s_icmp_ne hX hd hp ho (fun z => absurd z hc) (fun _ => h)
theorem s_if_lt {off : Int} {r : Nat} (hX : gCl cc o nL d MC MS rt ini sc Rt X) (hd : decode cc pc = .ok (.ifCond .lt off, 3)) (hp : pc + 3 = q) (ho : (pc : Int) + off = (r : Int)) (ht : x < 0 → X r lv st sh M kc ks) (hf : ¬ (x < 0) → X q lv st sh M kc ks) : X pc lv (.int x :: st) sh M kc ks := by
  subst hp
  refine hX.1 _ _ _ _ _ _ _ _ _ hd ⟨rfl, ?_, ?_, hf⟩
  · rw [ho]; exact Int.natCast_nonneg r
  · rw [ho]; exact ht
theorem s_if_lt_t {off : Int} {r : Nat} (hX : gCl cc o nL d MC MS rt ini sc Rt X) (hd : decode cc pc = .ok (.ifCond .lt off, 3)) (hp : pc + 3 = q) (ho : (pc : Int) + off = (r : Int)) (hc : x < 0) (h : X r lv st sh M kc ks) : X pc lv (.int x :: st) sh M kc ks := s_if_lt hX hd hp ho (fun _ => h) (fun z => absurd hc z)
theorem s_if_lt_f {off : Int} {r : Nat} (hX : gCl cc o nL d MC MS rt ini sc Rt X) (hd : decode cc pc = .ok (.ifCond .lt off, 3)) (hp : pc + 3 = q) (ho : (pc : Int) + off = (r : Int)) (hc : ¬ (x < 0)) (h : X q lv st sh M kc ks) : X pc lv (.int x :: st) sh M kc ks := s_if_lt hX hd hp ho (fun z => absurd z hc) (fun _ => h)
theorem s_icmp_lt {off : Int} {r : Nat} (hX : gCl cc o nL d MC MS rt ini sc Rt X) (hd : decode cc pc = .ok (.if_icmp .lt off, 3)) (hp : pc + 3 = q) (ho : (pc : Int) + off = (r : Int)) (ht : x < y → X r lv st sh M kc ks) (hf : ¬ (x < y) → X q lv st sh M kc ks) : X pc lv (.int y :: .int x :: st) sh M kc ks := by
  subst hp
  refine hX.1 _ _ _ _ _ _ _ _ _ hd ⟨rfl, ?_, ?_, hf⟩
  · rw [ho]; exact Int.natCast_nonneg r
  · rw [ho]; exact ht
theorem s_icmp_lt_t {off : Int} {r : Nat} (hX : gCl cc o nL d MC MS rt ini sc Rt X) (hd : decode cc pc = .ok (.if_icmp .lt off, 3)) (hp : pc + 3 = q) (ho : (pc : Int) + off = (r : Int)) (hc : x < y) (h : X r lv st sh M kc ks) : X pc lv (.int y :: .int x :: st) sh M kc ks := s_icmp_lt hX hd hp ho (fun _ => h) (fun z => absurd hc z)
theorem s_icmp_lt_f {off : Int} {r : Nat} (hX : gCl cc o nL d MC MS rt ini sc Rt X) (hd : decode cc pc = .ok (.if_icmp .lt off, 3)) (hp : pc + 3 = q) (ho : (pc : Int) + off = (r : Int)) (hc : ¬ (x < y)) (h : X q lv st sh M kc ks) : X pc lv (.int y :: .int x :: st) sh M kc ks := s_icmp_lt hX hd hp ho (fun z => absurd z hc) (fun _ => h)
theorem s_if_ge {off : Int} {r : Nat} (hX : gCl cc o nL d MC MS rt ini sc Rt X) (hd : decode cc pc = .ok (.ifCond .ge off, 3)) (hp : pc + 3 = q) (ho : (pc : Int) + off = (r : Int)) (ht : 0 ≤ x → X r lv st sh M kc ks) (hf : ¬ (0 ≤ x) → X q lv st sh M kc ks) : X pc lv (.int x :: st) sh M kc ks := by
  subst hp
  refine hX.1 _ _ _ _ _ _ _ _ _ hd ⟨rfl, ?_, ?_, hf⟩
  · rw [ho]; exact Int.natCast_nonneg r
  · rw [ho]; exact ht
theorem s_if_ge_t {off : Int} {r : Nat} (hX : gCl cc o nL d MC MS rt ini sc Rt X) (hd : decode cc pc = .ok (.ifCond .ge off, 3)) (hp : pc + 3 = q) (ho : (pc : Int) + off = (r : Int)) (hc : 0 ≤ x) (h : X r lv st sh M kc ks) : X pc lv (.int x :: st) sh M kc ks := s_if_ge hX hd hp ho (fun _ => h) (fun z => absurd hc z)
theorem s_if_ge_f {off : Int} {r : Nat} (hX : gCl cc o nL d MC MS rt ini sc Rt X) (hd : decode cc pc = .ok (.ifCond .ge off, 3)) (hp : pc + 3 = q) (ho : (pc : Int) + off = (r : Int)) (hc : ¬ (0 ≤ x)) (h : X q lv st sh M kc ks) : X pc lv (.int x :: st) sh M kc ks := s_if_ge hX hd hp ho (fun z => absurd z hc) (fun _ => h)
theorem s_icmp_ge {off : Int} {r : Nat} (hX : gCl cc o nL d MC MS rt ini sc Rt X) (hd : decode cc pc = .ok (.if_icmp .ge off, 3)) (hp : pc + 3 = q) (ho : (pc : Int) + off = (r : Int)) (ht : y ≤ x → X r lv st sh M kc ks) (hf : ¬ (y ≤ x) → X q lv st sh M kc ks) : X pc lv (.int y :: .int x :: st) sh M kc ks := by
  subst hp
  refine hX.1 _ _ _ _ _ _ _ _ _ hd ⟨rfl, ?_, ?_, hf⟩
  · rw [ho]; exact Int.natCast_nonneg r
  · rw [ho]; exact ht
theorem s_icmp_ge_t {off : Int} {r : Nat} (hX : gCl cc o nL d MC MS rt ini sc Rt X) (hd : decode cc pc = .ok (.if_icmp .ge off, 3)) (hp : pc + 3 = q) (ho : (pc : Int) + off = (r : Int)) (hc : y ≤ x) (h : X r lv st sh M kc ks) : X pc lv (.int y :: .int x :: st) sh M kc ks := s_icmp_ge hX hd hp ho (fun _ => h) (fun z => absurd hc z)
theorem s_icmp_ge_f {off : Int} {r : Nat} (hX : gCl cc o nL d MC MS rt ini sc Rt X) (hd : decode cc pc = .ok (.if_icmp .ge off, 3)) (hp : pc + 3 = q) (ho : (pc : Int) + off = (r : Int)) (hc : ¬ (y ≤ x)) (h : X q lv st sh M kc ks) : X pc lv (.int y :: .int x :: st) sh M kc ks := s_icmp_ge hX hd hp ho (fun z => absurd z hc) (fun _ => h)
theorem s_if_gt {off : Int} {r : Nat} (hX : gCl cc o nL d MC MS rt ini sc Rt X) (hd : decode cc pc = .ok (.ifCond .gt off, 3)) (hp : pc + 3 = q) (ho : (pc : Int) + off = (r : Int)) (ht : 0 < x → X r lv st sh M kc ks) (hf : ¬ (0 < x) → X q lv st sh M kc ks) : X pc lv (.int x :: st) sh M kc ks := by
  subst hp
  refine hX.1 _ _ _ _ _ _ _ _ _ hd ⟨rfl, ?_, ?_, hf⟩
  · rw [ho]; exact Int.natCast_nonneg r
  · rw [ho]; exact ht
theorem s_if_gt_t {off : Int} {r : Nat} (hX : gCl cc o nL d MC MS rt ini sc Rt X) (hd : decode cc pc = .ok (.ifCond .gt off, 3)) (hp : pc + 3 = q) (ho : (pc : Int) + off = (r : Int)) (hc : 0 < x) (h : X r lv st sh M kc ks) : X pc lv (.int x :: st) sh M kc ks := s_if_gt hX hd hp ho (fun _ => h) (fun z => absurd hc z)
theorem s_if_gt_f {off : Int} {r : Nat} (hX : gCl cc o nL d MC MS rt ini sc Rt X) (hd : decode cc pc = .ok (.ifCond .gt off, 3)) (hp : pc + 3 = q) (ho : (pc : Int) + off = (r : Int)) (hc : ¬ (0 < x)) (h : X q lv st sh M kc ks) : X pc lv (.int x :: st) sh M kc ks := s_if_gt hX hd hp ho (fun z => absurd z hc) (fun _ => h)
theorem s_icmp_gt {off : Int} {r : Nat} (hX : gCl cc o nL d MC MS rt ini sc Rt X) (hd : decode cc pc = .ok (.if_icmp .gt off, 3)) (hp : pc + 3 = q) (ho : (pc : Int) + off = (r : Int)) (ht : y < x → X r lv st sh M kc ks) (hf : ¬ (y < x) → X q lv st sh M kc ks) : X pc lv (.int y :: .int x :: st) sh M kc ks := by
  subst hp
  refine hX.1 _ _ _ _ _ _ _ _ _ hd ⟨rfl, ?_, ?_, hf⟩
  · rw [ho]; exact Int.natCast_nonneg r
  · rw [ho]; exact ht
theorem s_icmp_gt_t {off : Int} {r : Nat} (hX : gCl cc o nL d MC MS rt ini sc Rt X) (hd : decode cc pc = .ok (.if_icmp .gt off, 3)) (hp : pc + 3 = q) (ho : (pc : Int) + off = (r : Int)) (hc : y < x) (h : X r lv st sh M kc ks) : X pc lv (.int y :: .int x :: st) sh M kc ks := s_icmp_gt hX hd hp ho (fun _ => h) (fun z => absurd hc z)
theorem s_icmp_gt_f {off : Int} {r : Nat} (hX : gCl cc o nL d MC MS rt ini sc Rt X) (hd : decode cc pc = .ok (.if_icmp .gt off, 3)) (hp : pc + 3 = q) (ho : (pc : Int) + off = (r : Int)) (hc : ¬ (y < x)) (h : X q lv st sh M kc ks) : X pc lv (.int y :: .int x :: st) sh M kc ks := s_icmp_gt hX hd hp ho (fun z => absurd z hc) (fun _ => h)
theorem s_if_le {off : Int} {r : Nat} (hX : gCl cc o nL d MC MS rt ini sc Rt X) (hd : decode cc pc = .ok (.ifCond .le off, 3)) (hp : pc + 3 = q) (ho : (pc : Int) + off = (r : Int)) (ht : x ≤ 0 → X r lv st sh M kc ks) (hf : ¬ (x ≤ 0) → X q lv st sh M kc ks) : X pc lv (.int x :: st) sh M kc ks := by
  subst hp
  refine hX.1 _ _ _ _ _ _ _ _ _ hd ⟨rfl, ?_, ?_, hf⟩
  · rw [ho]; exact Int.natCast_nonneg r
  · rw [ho]; exact ht
theorem s_if_le_t {off : Int} {r : Nat} (hX : gCl cc o nL d MC MS rt ini sc Rt X) (hd : decode cc pc = .ok (.ifCond .le off, 3)) (hp : pc + 3 = q) (ho : (pc : Int) + off = (r : Int)) (hc : x ≤ 0) (h : X r lv st sh M kc ks) : X pc lv (.int x :: st) sh M kc ks := s_if_le hX hd hp ho (fun _ => h) (fun z => absurd hc z)
theorem s_if_le_f {off : Int} {r : Nat} (hX : gCl cc o nL d MC MS rt ini sc Rt X) (hd : decode cc pc = .ok (.ifCond .le off, 3)) (hp : pc + 3 = q) (ho : (pc : Int) + off = (r : Int)) (hc : ¬ (x ≤ 0)) (h : X q lv st sh M kc ks) : X pc lv (.int x :: st) sh M kc ks := s_if_le hX hd hp ho (fun z => absurd z hc) (fun _ => h)
theorem s_icmp_le {off : Int} {r : Nat} (hX : gCl cc o nL d MC MS rt ini sc Rt X) (hd : decode cc pc = .ok (.if_icmp .le off, 3)) (hp : pc + 3 = q) (ho : (pc : Int) + off = (r : Int)) (ht : x ≤ y → X r lv st sh M kc ks) (hf : ¬ (x ≤ y) → X q lv st sh M kc ks) : X pc lv (.int y :: .int x :: st) sh M kc ks := by
  subst hp
  refine hX.1 _ _ _ _ _ _ _ _ _ hd ⟨rfl, ?_, ?_, hf⟩
  · rw [ho]; exact Int.natCast_nonneg r
  · rw [ho]; exact ht
theorem s_icmp_le_t {off : Int} {r : Nat} (hX : gCl cc o nL d MC MS rt ini sc Rt X) (hd : decode cc pc = .ok (.if_icmp .le off, 3)) (hp : pc + 3 = q) (ho : (pc : Int) + off = (r : Int)) (hc : x ≤ y) (h : X r lv st sh M kc ks) : X pc lv (.int y :: .int x :: st) sh M kc ks := s_icmp_le hX hd hp ho (fun _ => h) (fun z => absurd hc z)
theorem s_icmp_le_f {off : Int} {r : Nat} (hX : gCl cc o nL d MC MS rt ini sc Rt X) (hd : decode cc pc = .ok (.if_icmp .le off, 3)) (hp : pc + 3 = q) (ho : (pc : Int) + off = (r : Int)) (hc : ¬ (x ≤ y)) (h : X q lv st sh M kc ks) : X pc lv (.int y :: .int x :: st) sh M kc ks := s_icmp_le hX hd hp ho (fun z => absurd z hc) (fun _ => h)
theorem s_table {df lo hi : Int} {offs : Array Int} {len : Nat} (hX : gCl cc o nL d MC MS rt ini sc Rt X) (hd : decode cc pc = .ok (.tableswitch df lo hi offs, len)) (hh : hi = lo + offs.toList.length - 1) (hdf : x.toInt < lo ∨ hi < x.toInt → gto X pc df lv st sh M kc ks) (hsw : gswT (fun off => gto X pc off lv st sh M kc ks) x lo offs.toList) : X pc lv (.int x :: st) sh M kc ks :=
  hX.1 _ _ _ _ _ _ _ _ _ hd ⟨hh, hdf, hsw⟩
theorem s_lookup {df : Int} {ps : Array (Int × Int)} {len : Nat} (hX : gCl cc o nL d MC MS rt ini sc Rt X) (hd : decode cc pc = .ok (.lookupswitch df ps, len)) (hs : (ps.toList.zip (ps.toList.drop 1)).all (fun (a, next) => a.1 < next.1) = true) (hsw : gswL (fun off => gto X pc off lv st sh M kc ks) x df ps.toList) : X pc lv (.int x :: st) sh M kc ks :=
  hX.1 _ _ _ _ _ _ _ _ _ hd ⟨hs, hsw⟩
theorem s_to {off : Int} {r : Nat} (ho : (pc : Int) + off = (r : Int)) (h : X r lv st sh M kc ks) : gto X pc off lv st sh M kc ks := by
  refine ⟨?_, ?_⟩
  · rw [ho]; exact Int.natCast_nonneg r
  · rw [ho]; exact h
/-- another name for what is on top -/
theorem s_topi (e : x = v) (h : X pc lv (.int v :: st) sh M kc ks) : X pc lv (.int x :: st) sh M kc ks := by rw [e]; exact h
theorem s_lv {lv' : List (Nat × Value)} (hX : gCl cc o nL d MC MS rt ini sc Rt X) (hl : ∀ q ∈ lv', q ∈ lv) (h : X pc lv' st sh M kc ks) : X pc lv st sh M kc ks := hX.2.1 _ _ _ _ _ _ _ _ hl h
theorem s_M {M' : gM} (hX : gCl cc o nL d MC MS rt ini sc Rt X) (hM : ∀ a e, sh[a]? = some e → gsame e (M a) (M' a)) (h : X pc lv st sh M' kc ks) : X pc lv st sh M kc ks := hX.2.2 _ _ _ _ _ _ _ _ hM h
theorem s_geti {i ci k t a : Nat} {fs : List (Option Value)} (hX : gCl cc o nL d MC MS rt ini sc Rt X) (hd : decode cc pc = .ok (.getfield i, 3)) (hp : pc + 3 = q) (hq : gfl o i = some (ci, k, t)) (ha : sh[a]? = some (.inl (ci, fs))) (hf : fs[k]? = some none) (h : X q lv (.int (M a k) :: st) sh M kc ks) : X pc lv (.ref a :: st) sh M kc ks := by
  subst hp
  exact hX.1 _ _ _ _ _ _ _ _ _ hd ⟨rfl, gfc_i hq (gpr_i (ggf_i ha hf h))⟩
theorem s_getr {i ci k t a : Nat} {fs : List (Option Value)} {b : Value} (hX : gCl cc o nL d MC MS rt ini sc Rt X) (hd : decode cc pc = .ok (.getfield i, 3)) (hp : pc + 3 = q) (hq : gfl o i = some (ci, k, t)) (ha : sh[a]? = some (.inl (ci, fs))) (hf : fs[k]? = some (some b)) (h : X q lv (b :: st) sh M kc ks) : X pc lv (.ref a :: st) sh M kc ks := by
  subst hp
  exact hX.1 _ _ _ _ _ _ _ _ _ hd ⟨rfl, gfc_i hq (gpr_i (ggf_i ha hf h))⟩
theorem s_puti {i ci k a : Nat} {fs : List (Option Value)} (hX : gCl cc o nL d MC MS rt ini sc Rt X) (hd : decode cc pc = .ok (.putfield i, 3)) (hp : pc + 3 = q) (hq : gfl o i = some (ci, k, 0)) (ha : sh[a]? = some (.inl (ci, fs))) (hf : fs[k]? = some none) (h : X q lv (st) sh (gsr M a (upd (M a) k x)) kc ks) : X pc lv (.int x :: .ref a :: st) sh M kc ks := by
  subst hp
  exact hX.1 _ _ _ _ _ _ _ _ _ hd ⟨rfl, gfc_i hq (by rw [if_pos (by decide)]; exact gpir_i (ggf_i ha hf ⟨rfl, (fun z => by cases z), h⟩))⟩
theorem s_putz {i ci k a : Nat} {fs : List (Option Value)} (hX : gCl cc o nL d MC MS rt ini sc Rt X) (hd : decode cc pc = .ok (.putfield i, 3)) (hp : pc + 3 = q) (hq : gfl o i = some (ci, k, 1)) (ha : sh[a]? = some (.inl (ci, fs))) (hf : fs[k]? = some none) (hb : x = 0 ∨ x = 1) (h : X q lv (st) sh (gsr M a (upd (M a) k x)) kc ks) : X pc lv (.int x :: .ref a :: st) sh M kc ks := by
  subst hp
  exact hX.1 _ _ _ _ _ _ _ _ _ hd ⟨rfl, gfc_i hq (by rw [if_pos (by decide)]; exact gpir_i (ggf_i ha hf ⟨rfl, (fun _ => hb), h⟩))⟩
theorem s_putr {i ci k t a : Nat} {fs : List (Option Value)} {f : Option Value} {b : Nat} {sh' : List gS} (hX : gCl cc o nL d MC MS rt ini sc Rt X) (hd : decode cc pc = .ok (.putfield i, 3)) (hp : pc + 3 = q) (hq : gfl o i = some (ci, k, t)) (ht : t = 2 ∨ (t = 3 ∧ ini = true ∧ ci = o)) (ha : sh[a]? = some (.inl (ci, fs))) (hf : fs[k]? = some f) (hs : sh.set a (.inl (ci, fs.set k (some (.ref b)))) = sh') (h : X q lv (st) sh' M kc ks) : X pc lv (.ref b :: .ref a :: st) sh M kc ks := by
  subst hp
  exact hX.1 _ _ _ _ _ _ _ _ _ hd ⟨rfl, by
    have ht2 : ¬ t < 2 := by omega
    refine gfc_i hq ?_
    rw [if_neg ht2]
    rw [← hs] at h
    refine gprr_i ⟨fun z => ?_, ggf_i ha hf h⟩
    rcases ht with w | w
    · omega
    · exact w.2⟩
theorem s_iald {a n k : Nat} (hX : gCl cc o nL d MC MS rt ini sc Rt X) (hd : decode cc pc = .ok (.iaload, 1)) (hp : pc + 1 = q) (ha : sh[a]? = some (.inr (.inl (0, n)))) (hk : x = nI k) (hn : k < n) (hb : n ≤ 1000) (h : X q lv (.int (M a k) :: st) sh M kc ks) : X pc lv (.int x :: .ref a :: st) sh M kc ks := by
  subst hp
  exact hX.1 _ _ _ _ _ _ _ _ _ hd ⟨rfl, by
    subst hk; refine gpir_i (gar_i ha ⟨vp_in_nI hn (by omega), ?_⟩); rw [nI_clamp (by omega)]; exact h⟩
theorem s_bald {a n k : Nat} (hX : gCl cc o nL d MC MS rt ini sc Rt X) (hd : decode cc pc = .ok (.baload, 1)) (hp : pc + 1 = q) (ha : sh[a]? = some (.inr (.inl (1, n)))) (hk : x = nI k) (hn : k < n) (hb : n ≤ 1000) (h : X q lv (.int (M a k) :: st) sh M kc ks) : X pc lv (.int x :: .ref a :: st) sh M kc ks := by
  subst hp
  exact hX.1 _ _ _ _ _ _ _ _ _ hd ⟨rfl, by
    subst hk; refine gpir_i (gar_i ha ⟨vp_in_nI hn (by omega), ?_⟩); rw [nI_clamp (by omega)]; exact h⟩
theorem s_aald {a k b : Nat} {l : List (Option Nat)} (hX : gCl cc o nL d MC MS rt ini sc Rt X) (hd : decode cc pc = .ok (.aaload, 1)) (hp : pc + 1 = q) (ha : sh[a]? = some (.inr (.inr l))) (hk : x = nI k) (hn : k < l.length) (hb : l.length ≤ 1000) (hl : l.getD k none = some b) (h : X q lv (.ref b :: st) sh M kc ks) : X pc lv (.int x :: .ref a :: st) sh M kc ks := by
  subst hp
  exact hX.1 _ _ _ _ _ _ _ _ _ hd ⟨rfl, by
    subst hk; refine gpir_i (gaq_i ha ⟨vp_in_nI hn (by omega), b, ?_, h⟩); rw [nI_clamp (by omega)]; exact hl⟩
theorem s_iast {a n k : Nat} (hX : gCl cc o nL d MC MS rt ini sc Rt X) (hd : decode cc pc = .ok (.iastore, 1)) (hp : pc + 1 = q) (ha : sh[a]? = some (.inr (.inl (0, n)))) (hk : x = nI k) (hn : k < n) (hb : n ≤ 1000) (h : X q lv (st) sh (gsr M a (upd (M a) k v)) kc ks) : X pc lv (.int v :: .int x :: .ref a :: st) sh M kc ks := by
  subst hp
  exact hX.1 _ _ _ _ _ _ _ _ _ hd ⟨rfl, by
    subst hk; refine gpiir_i (gar_i ha ⟨vp_in_nI hn (by omega), ?_⟩); rw [nI_clamp (by omega)]; exact h⟩
theorem s_bast {a n k : Nat} (hX : gCl cc o nL d MC MS rt ini sc Rt X) (hd : decode cc pc = .ok (.bastore, 1)) (hp : pc + 1 = q) (ha : sh[a]? = some (.inr (.inl (1, n)))) (hk : x = nI k) (hn : k < n) (hb : n ≤ 1000) (h : X q lv (st) sh (gsr M a (upd (M a) k v.toInt8.toInt32)) kc ks) : X pc lv (.int v :: .int x :: .ref a :: st) sh M kc ks := by
  subst hp
  exact hX.1 _ _ _ _ _ _ _ _ _ hd ⟨rfl, by
    subst hk; refine gpiir_i (gar_i ha ⟨vp_in_nI hn (by omega), ?_⟩); rw [nI_clamp (by omega)]; exact h⟩
theorem s_alen {a kd n : Nat} (hX : gCl cc o nL d MC MS rt ini sc Rt X) (hd : decode cc pc = .ok (.arraylength, 1)) (hp : pc + 1 = q) (ha : sh[a]? = some (.inr (.inl (kd, n)))) (hk : kd < 2) (h : X q lv (.int (nI n) :: st) sh M kc ks) : X pc lv (.ref a :: st) sh M kc ks := by
  subst hp
  exact hX.1 _ _ _ _ _ _ _ _ _ hd ⟨rfl, by unfold gpr; dsimp only; rw [ha]; exact ⟨hk, h⟩⟩
theorem s_qlen {a : Nat} {l : List (Option Nat)} (hX : gCl cc o nL d MC MS rt ini sc Rt X) (hd : decode cc pc = .ok (.arraylength, 1)) (hp : pc + 1 = q) (ha : sh[a]? = some (.inr (.inr l))) (h : X q lv (.int (nI l.length) :: st) sh M kc ks) : X pc lv (.ref a :: st) sh M kc ks := by
  subst hp
  exact hX.1 _ _ _ _ _ _ _ _ _ hd ⟨rfl, by unfold gpr; dsimp only; rw [ha]; exact h⟩
theorem s_cpy {i a0 a1 n0 n1 k0 k1 n : Nat} {qq : Nat × Nat × Nat × Nat} {sp dp m : Int32} (hX : gCl cc o nL d MC MS rt ini sc Rt X) (hd : decode cc pc = .ok (.invokestatic i, 3)) (hp : pc + 3 = q) (hq : glk o i = some (6, qq)) (h1 : 1 ≤ d) (hc : gcat st ≤ 8) (ha0 : sh[a0]? = some (.inr (.inl (0, n0)))) (ha1 : sh[a1]? = some (.inr (.inl (0, n1)))) (e0 : sp = nI k0) (e1 : dp = nI k1) (e2 : m = nI n) (g0 : k0 + n ≤ n0) (g1 : k1 + n ≤ n1) (b0 : n0 ≤ 1000) (b1 : n1 ≤ 1000)
    (h : X q lv st sh (gsr M a1 (va_cpy (M a0) (M a1) k0 k1 n)) kc ks) : X pc lv (.int m :: .int dp :: .ref a1 :: .int sp :: .ref a0 :: st) sh M kc ks := by
  subst hp
  refine hX.1 _ _ _ _ _ _ _ _ _ hd ⟨rfl, ?_⟩
  refine glc_i (b := qq.1) (c := qq.2.1) (d := qq.2.2.1) (e := qq.2.2.2) hq ?_
  rw [if_pos rfl]
  subst e0; subst e1; subst e2
  refine ⟨hc, h1, gar_i ha0 (gar_i ha1 ?_)⟩
  refine ⟨nI_pos (by omega), nI_pos (by omega), nI_pos (by omega), ?_, ?_, ?_⟩
  · rw [nI_clamp (by omega), nI_clamp (by omega)]; exact g0
  · rw [nI_clamp (by omega), nI_clamp (by omega)]; exact g1
  · rw [nI_clamp (by omega), nI_clamp (by omega), nI_clamp (by omega)]; exact h
theorem s_invv0_0 {i mi ci d' : Nat} {b : Nat} {fs : List (Option Value)} (hX : gCl cc o nL d MC MS rt ini sc Rt X) (hd : decode cc pc = .ok (.invokevirtual i, 3)) (hp : pc + 3 = q) (hq : glk o i = some (0, mi, 0, 0, ci)) (hrc : sh[b]? = some (.inl (ci, fs))) (hc : gcat st ≤ 8) (hb : kc ≤ MC ∧ ks ≤ MS) (hd' : d' + 1 ≤ d) (h : gC mi d' 0 0 [.ref b] sh M (fun v sh' M' => v = none ∧ X q lv st sh' M' kc ks)) : X pc lv (.ref b :: st) sh M kc ks := by
  subst hp
  refine hX.1 _ _ _ _ _ _ _ _ _ hd ⟨rfl, ?_⟩
  refine glc_i hq ?_
  refine ⟨rfl, by simp, ?_⟩
  show gcat st ≤ 8 ∧ grc sh b ci ∧ gCall d mi [.ref b] sh M kc ks MC MS (lv.map Prod.snd ++ st) (fun v sh' M' kc' ks' => gret 0 v (fun w => X (pc + 3) lv (w ++ st) sh' M' kc' ks'))
  exact ⟨hc, grc_i hrc, ⟨d', 0, 0, hd', by omega, by omega, Or.inl rfl, gC_mono (fun v sh' M' z => by obtain ⟨rfl, z⟩ := z; exact ⟨rfl, z⟩) h⟩⟩
theorem s_invv0_1 {i mi ci d' : Nat} {b : Nat} {fs : List (Option Value)} (hX : gCl cc o nL d MC MS rt ini sc Rt X) (hd : decode cc pc = .ok (.invokevirtual i, 3)) (hp : pc + 3 = q) (hq : glk o i = some (0, mi, 0, 1, ci)) (hrc : sh[b]? = some (.inl (ci, fs))) (hc : gcat st ≤ 8) (hb : kc ≤ MC ∧ ks ≤ MS) (hd' : d' + 1 ≤ d) (h : gC mi d' 0 0 [.ref b] sh M (fun v sh' M' => ∃ x, v = some (.int x) ∧ X q lv (.int x :: st) sh' M' kc ks)) : X pc lv (.ref b :: st) sh M kc ks := by
  subst hp
  refine hX.1 _ _ _ _ _ _ _ _ _ hd ⟨rfl, ?_⟩
  refine glc_i hq ?_
  refine ⟨rfl, by simp, ?_⟩
  show gcat st ≤ 8 ∧ grc sh b ci ∧ gCall d mi [.ref b] sh M kc ks MC MS (lv.map Prod.snd ++ st) (fun v sh' M' kc' ks' => gret 1 v (fun w => X (pc + 3) lv (w ++ st) sh' M' kc' ks'))
  exact ⟨hc, grc_i hrc, ⟨d', 0, 0, hd', by omega, by omega, Or.inl rfl, gC_mono (fun v sh' M' z => by obtain ⟨x, rfl, z⟩ := z; exact ⟨rfl, z⟩) h⟩⟩
theorem s_invv0_2 {i mi ci d' : Nat} {b : Nat} {fs : List (Option Value)} (hX : gCl cc o nL d MC MS rt ini sc Rt X) (hd : decode cc pc = .ok (.invokevirtual i, 3)) (hp : pc + 3 = q) (hq : glk o i = some (0, mi, 0, 2, ci)) (hrc : sh[b]? = some (.inl (ci, fs))) (hc : gcat st ≤ 8) (hb : kc ≤ MC ∧ ks ≤ MS) (hd' : d' + 1 ≤ d) (h : gC mi d' 0 0 [.ref b] sh M (fun v sh' M' => ∃ x, v = some (.long x) ∧ X q lv (.long x :: st) sh' M' kc ks)) : X pc lv (.ref b :: st) sh M kc ks := by
  subst hp
  refine hX.1 _ _ _ _ _ _ _ _ _ hd ⟨rfl, ?_⟩
  refine glc_i hq ?_
  refine ⟨rfl, by simp, ?_⟩
  show gcat st ≤ 8 ∧ grc sh b ci ∧ gCall d mi [.ref b] sh M kc ks MC MS (lv.map Prod.snd ++ st) (fun v sh' M' kc' ks' => gret 2 v (fun w => X (pc + 3) lv (w ++ st) sh' M' kc' ks'))
  exact ⟨hc, grc_i hrc, ⟨d', 0, 0, hd', by omega, by omega, Or.inl rfl, gC_mono (fun v sh' M' z => by obtain ⟨x, rfl, z⟩ := z; exact ⟨rfl, z⟩) h⟩⟩
theorem s_invv1_0 {i mi ci d' : Nat} {b : Nat} {fs : List (Option Value)} {a0 : Value} (hX : gCl cc o nL d MC MS rt ini sc Rt X) (hd : decode cc pc = .ok (.invokevirtual i, 3)) (hp : pc + 3 = q) (hq : glk o i = some (0, mi, 1, 0, ci)) (hrc : sh[b]? = some (.inl (ci, fs))) (hc : gcat st ≤ 8) (hb : kc ≤ MC ∧ ks ≤ MS) (hd' : d' + 1 ≤ d) (h : gC mi d' 0 0 [.ref b, a0] sh M (fun v sh' M' => v = none ∧ X q lv st sh' M' kc ks)) : X pc lv (a0 :: .ref b :: st) sh M kc ks := by
  subst hp
  refine hX.1 _ _ _ _ _ _ _ _ _ hd ⟨rfl, ?_⟩
  refine glc_i hq ?_
  refine ⟨rfl, by simp, ?_⟩
  show gcat st ≤ 8 ∧ grc sh b ci ∧ gCall d mi [.ref b, a0] sh M kc ks MC MS (lv.map Prod.snd ++ st) (fun v sh' M' kc' ks' => gret 0 v (fun w => X (pc + 3) lv (w ++ st) sh' M' kc' ks'))
  exact ⟨hc, grc_i hrc, ⟨d', 0, 0, hd', by omega, by omega, Or.inl rfl, gC_mono (fun v sh' M' z => by obtain ⟨rfl, z⟩ := z; exact ⟨rfl, z⟩) h⟩⟩
theorem s_invv1_1 {i mi ci d' : Nat} {b : Nat} {fs : List (Option Value)} {a0 : Value} (hX : gCl cc o nL d MC MS rt ini sc Rt X) (hd : decode cc pc = .ok (.invokevirtual i, 3)) (hp : pc + 3 = q) (hq : glk o i = some (0, mi, 1, 1, ci)) (hrc : sh[b]? = some (.inl (ci, fs))) (hc : gcat st ≤ 8) (hb : kc ≤ MC ∧ ks ≤ MS) (hd' : d' + 1 ≤ d) (h : gC mi d' 0 0 [.ref b, a0] sh M (fun v sh' M' => ∃ x, v = some (.int x) ∧ X q lv (.int x :: st) sh' M' kc ks)) : X pc lv (a0 :: .ref b :: st) sh M kc ks := by
  subst hp
  refine hX.1 _ _ _ _ _ _ _ _ _ hd ⟨rfl, ?_⟩
  refine glc_i hq ?_
  refine ⟨rfl, by simp, ?_⟩
  show gcat st ≤ 8 ∧ grc sh b ci ∧ gCall d mi [.ref b, a0] sh M kc ks MC MS (lv.map Prod.snd ++ st) (fun v sh' M' kc' ks' => gret 1 v (fun w => X (pc + 3) lv (w ++ st) sh' M' kc' ks'))
  exact ⟨hc, grc_i hrc, ⟨d', 0, 0, hd', by omega, by omega, Or.inl rfl, gC_mono (fun v sh' M' z => by obtain ⟨x, rfl, z⟩ := z; exact ⟨rfl, z⟩) h⟩⟩
theorem s_invv1_2 {i mi ci d' : Nat} {b : Nat} {fs : List (Option Value)} {a0 : Value} (hX : gCl cc o nL d MC MS rt ini sc Rt X) (hd : decode cc pc = .ok (.invokevirtual i, 3)) (hp : pc + 3 = q) (hq : glk o i = some (0, mi, 1, 2, ci)) (hrc : sh[b]? = some (.inl (ci, fs))) (hc : gcat st ≤ 8) (hb : kc ≤ MC ∧ ks ≤ MS) (hd' : d' + 1 ≤ d) (h : gC mi d' 0 0 [.ref b, a0] sh M (fun v sh' M' => ∃ x, v = some (.long x) ∧ X q lv (.long x :: st) sh' M' kc ks)) : X pc lv (a0 :: .ref b :: st) sh M kc ks := by
  subst hp
  refine hX.1 _ _ _ _ _ _ _ _ _ hd ⟨rfl, ?_⟩
  refine glc_i hq ?_
  refine ⟨rfl, by simp, ?_⟩
  show gcat st ≤ 8 ∧ grc sh b ci ∧ gCall d mi [.ref b, a0] sh M kc ks MC MS (lv.map Prod.snd ++ st) (fun v sh' M' kc' ks' => gret 2 v (fun w => X (pc + 3) lv (w ++ st) sh' M' kc' ks'))
  exact ⟨hc, grc_i hrc, ⟨d', 0, 0, hd', by omega, by omega, Or.inl rfl, gC_mono (fun v sh' M' z => by obtain ⟨x, rfl, z⟩ := z; exact ⟨rfl, z⟩) h⟩⟩
theorem s_invv2_0 {i mi ci d' : Nat} {b : Nat} {fs : List (Option Value)} {a0 a1 : Value} (hX : gCl cc o nL d MC MS rt ini sc Rt X) (hd : decode cc pc = .ok (.invokevirtual i, 3)) (hp : pc + 3 = q) (hq : glk o i = some (0, mi, 2, 0, ci)) (hrc : sh[b]? = some (.inl (ci, fs))) (hc : gcat st ≤ 8) (hb : kc ≤ MC ∧ ks ≤ MS) (hd' : d' + 1 ≤ d) (h : gC mi d' 0 0 [.ref b, a0, a1] sh M (fun v sh' M' => v = none ∧ X q lv st sh' M' kc ks)) : X pc lv (a1 :: a0 :: .ref b :: st) sh M kc ks := by
  subst hp
  refine hX.1 _ _ _ _ _ _ _ _ _ hd ⟨rfl, ?_⟩
  refine glc_i hq ?_
  refine ⟨rfl, by simp, ?_⟩
  show gcat st ≤ 8 ∧ grc sh b ci ∧ gCall d mi [.ref b, a0, a1] sh M kc ks MC MS (lv.map Prod.snd ++ st) (fun v sh' M' kc' ks' => gret 0 v (fun w => X (pc + 3) lv (w ++ st) sh' M' kc' ks'))
  exact ⟨hc, grc_i hrc, ⟨d', 0, 0, hd', by omega, by omega, Or.inl rfl, gC_mono (fun v sh' M' z => by obtain ⟨rfl, z⟩ := z; exact ⟨rfl, z⟩) h⟩⟩
theorem s_invv2_1 {i mi ci d' : Nat} {b : Nat} {fs : List (Option Value)} {a0 a1 : Value} (hX : gCl cc o nL d MC MS rt ini sc Rt X) (hd : decode cc pc = .ok (.invokevirtual i, 3)) (hp : pc + 3 = q) (hq : glk o i = some (0, mi, 2, 1, ci)) (hrc : sh[b]? = some (.inl (ci, fs))) (hc : gcat st ≤ 8) (hb : kc ≤ MC ∧ ks ≤ MS) (hd' : d' + 1 ≤ d) (h : gC mi d' 0 0 [.ref b, a0, a1] sh M (fun v sh' M' => ∃ x, v = some (.int x) ∧ X q lv (.int x :: st) sh' M' kc ks)) : X pc lv (a1 :: a0 :: .ref b :: st) sh M kc ks := by
  subst hp
  refine hX.1 _ _ _ _ _ _ _ _ _ hd ⟨rfl, ?_⟩
  refine glc_i hq ?_
  refine ⟨rfl, by simp, ?_⟩
  show gcat st ≤ 8 ∧ grc sh b ci ∧ gCall d mi [.ref b, a0, a1] sh M kc ks MC MS (lv.map Prod.snd ++ st) (fun v sh' M' kc' ks' => gret 1 v (fun w => X (pc + 3) lv (w ++ st) sh' M' kc' ks'))
  exact ⟨hc, grc_i hrc, ⟨d', 0, 0, hd', by omega, by omega, Or.inl rfl, gC_mono (fun v sh' M' z => by obtain ⟨x, rfl, z⟩ := z; exact ⟨rfl, z⟩) h⟩⟩
theorem s_invv2_2 {i mi ci d' : Nat} {b : Nat} {fs : List (Option Value)} {a0 a1 : Value} (hX : gCl cc o nL d MC MS rt ini sc Rt X) (hd : decode cc pc = .ok (.invokevirtual i, 3)) (hp : pc + 3 = q) (hq : glk o i = some (0, mi, 2, 2, ci)) (hrc : sh[b]? = some (.inl (ci, fs))) (hc : gcat st ≤ 8) (hb : kc ≤ MC ∧ ks ≤ MS) (hd' : d' + 1 ≤ d) (h : gC mi d' 0 0 [.ref b, a0, a1] sh M (fun v sh' M' => ∃ x, v = some (.long x) ∧ X q lv (.long x :: st) sh' M' kc ks)) : X pc lv (a1 :: a0 :: .ref b :: st) sh M kc ks := by
  subst hp
  refine hX.1 _ _ _ _ _ _ _ _ _ hd ⟨rfl, ?_⟩
  refine glc_i hq ?_
  refine ⟨rfl, by simp, ?_⟩
  show gcat st ≤ 8 ∧ grc sh b ci ∧ gCall d mi [.ref b, a0, a1] sh M kc ks MC MS (lv.map Prod.snd ++ st) (fun v sh' M' kc' ks' => gret 2 v (fun w => X (pc + 3) lv (w ++ st) sh' M' kc' ks'))
  exact ⟨hc, grc_i hrc, ⟨d', 0, 0, hd', by omega, by omega, Or.inl rfl, gC_mono (fun v sh' M' z => by obtain ⟨x, rfl, z⟩ := z; exact ⟨rfl, z⟩) h⟩⟩
theorem s_invv3_0 {i mi ci d' : Nat} {b : Nat} {fs : List (Option Value)} {a0 a1 a2 : Value} (hX : gCl cc o nL d MC MS rt ini sc Rt X) (hd : decode cc pc = .ok (.invokevirtual i, 3)) (hp : pc + 3 = q) (hq : glk o i = some (0, mi, 3, 0, ci)) (hrc : sh[b]? = some (.inl (ci, fs))) (hc : gcat st ≤ 8) (hb : kc ≤ MC ∧ ks ≤ MS) (hd' : d' + 1 ≤ d) (h : gC mi d' 0 0 [.ref b, a0, a1, a2] sh M (fun v sh' M' => v = none ∧ X q lv st sh' M' kc ks)) : X pc lv (a2 :: a1 :: a0 :: .ref b :: st) sh M kc ks := by
  subst hp
  refine hX.1 _ _ _ _ _ _ _ _ _ hd ⟨rfl, ?_⟩
  refine glc_i hq ?_
  refine ⟨rfl, by simp, ?_⟩
  show gcat st ≤ 8 ∧ grc sh b ci ∧ gCall d mi [.ref b, a0, a1, a2] sh M kc ks MC MS (lv.map Prod.snd ++ st) (fun v sh' M' kc' ks' => gret 0 v (fun w => X (pc + 3) lv (w ++ st) sh' M' kc' ks'))
  exact ⟨hc, grc_i hrc, ⟨d', 0, 0, hd', by omega, by omega, Or.inl rfl, gC_mono (fun v sh' M' z => by obtain ⟨rfl, z⟩ := z; exact ⟨rfl, z⟩) h⟩⟩
theorem s_invv3_1 {i mi ci d' : Nat} {b : Nat} {fs : List (Option Value)} {a0 a1 a2 : Value} (hX : gCl cc o nL d MC MS rt ini sc Rt X) (hd : decode cc pc = .ok (.invokevirtual i, 3)) (hp : pc + 3 = q) (hq : glk o i = some (0, mi, 3, 1, ci)) (hrc : sh[b]? = some (.inl (ci, fs))) (hc : gcat st ≤ 8) (hb : kc ≤ MC ∧ ks ≤ MS) (hd' : d' + 1 ≤ d) (h : gC mi d' 0 0 [.ref b, a0, a1, a2] sh M (fun v sh' M' => ∃ x, v = some (.int x) ∧ X q lv (.int x :: st) sh' M' kc ks)) : X pc lv (a2 :: a1 :: a0 :: .ref b :: st) sh M kc ks := by
  subst hp
  refine hX.1 _ _ _ _ _ _ _ _ _ hd ⟨rfl, ?_⟩
  refine glc_i hq ?_
  refine ⟨rfl, by simp, ?_⟩
  show gcat st ≤ 8 ∧ grc sh b ci ∧ gCall d mi [.ref b, a0, a1, a2] sh M kc ks MC MS (lv.map Prod.snd ++ st) (fun v sh' M' kc' ks' => gret 1 v (fun w => X (pc + 3) lv (w ++ st) sh' M' kc' ks'))
  exact ⟨hc, grc_i hrc, ⟨d', 0, 0, hd', by omega, by omega, Or.inl rfl, gC_mono (fun v sh' M' z => by obtain ⟨x, rfl, z⟩ := z; exact ⟨rfl, z⟩) h⟩⟩
theorem s_invv3_2 {i mi ci d' : Nat} {b : Nat} {fs : List (Option Value)} {a0 a1 a2 : Value} (hX : gCl cc o nL d MC MS rt ini sc Rt X) (hd : decode cc pc = .ok (.invokevirtual i, 3)) (hp : pc + 3 = q) (hq : glk o i = some (0, mi, 3, 2, ci)) (hrc : sh[b]? = some (.inl (ci, fs))) (hc : gcat st ≤ 8) (hb : kc ≤ MC ∧ ks ≤ MS) (hd' : d' + 1 ≤ d) (h : gC mi d' 0 0 [.ref b, a0, a1, a2] sh M (fun v sh' M' => ∃ x, v = some (.long x) ∧ X q lv (.long x :: st) sh' M' kc ks)) : X pc lv (a2 :: a1 :: a0 :: .ref b :: st) sh M kc ks := by
  subst hp
  refine hX.1 _ _ _ _ _ _ _ _ _ hd ⟨rfl, ?_⟩
  refine glc_i hq ?_
  refine ⟨rfl, by simp, ?_⟩
  show gcat st ≤ 8 ∧ grc sh b ci ∧ gCall d mi [.ref b, a0, a1, a2] sh M kc ks MC MS (lv.map Prod.snd ++ st) (fun v sh' M' kc' ks' => gret 2 v (fun w => X (pc + 3) lv (w ++ st) sh' M' kc' ks'))
  exact ⟨hc, grc_i hrc, ⟨d', 0, 0, hd', by omega, by omega, Or.inl rfl, gC_mono (fun v sh' M' z => by obtain ⟨x, rfl, z⟩ := z; exact ⟨rfl, z⟩) h⟩⟩
theorem s_invv4_0 {i mi ci d' : Nat} {b : Nat} {fs : List (Option Value)} {a0 a1 a2 a3 : Value} (hX : gCl cc o nL d MC MS rt ini sc Rt X) (hd : decode cc pc = .ok (.invokevirtual i, 3)) (hp : pc + 3 = q) (hq : glk o i = some (0, mi, 4, 0, ci)) (hrc : sh[b]? = some (.inl (ci, fs))) (hc : gcat st ≤ 8) (hb : kc ≤ MC ∧ ks ≤ MS) (hd' : d' + 1 ≤ d) (h : gC mi d' 0 0 [.ref b, a0, a1, a2, a3] sh M (fun v sh' M' => v = none ∧ X q lv st sh' M' kc ks)) : X pc lv (a3 :: a2 :: a1 :: a0 :: .ref b :: st) sh M kc ks := by
  subst hp
  refine hX.1 _ _ _ _ _ _ _ _ _ hd ⟨rfl, ?_⟩
  refine glc_i hq ?_
  refine ⟨rfl, by simp, ?_⟩
  show gcat st ≤ 8 ∧ grc sh b ci ∧ gCall d mi [.ref b, a0, a1, a2, a3] sh M kc ks MC MS (lv.map Prod.snd ++ st) (fun v sh' M' kc' ks' => gret 0 v (fun w => X (pc + 3) lv (w ++ st) sh' M' kc' ks'))
  exact ⟨hc, grc_i hrc, ⟨d', 0, 0, hd', by omega, by omega, Or.inl rfl, gC_mono (fun v sh' M' z => by obtain ⟨rfl, z⟩ := z; exact ⟨rfl, z⟩) h⟩⟩
theorem s_invv4_1 {i mi ci d' : Nat} {b : Nat} {fs : List (Option Value)} {a0 a1 a2 a3 : Value} (hX : gCl cc o nL d MC MS rt ini sc Rt X) (hd : decode cc pc = .ok (.invokevirtual i, 3)) (hp : pc + 3 = q) (hq : glk o i = some (0, mi, 4, 1, ci)) (hrc : sh[b]? = some (.inl (ci, fs))) (hc : gcat st ≤ 8) (hb : kc ≤ MC ∧ ks ≤ MS) (hd' : d' + 1 ≤ d) (h : gC mi d' 0 0 [.ref b, a0, a1, a2, a3] sh M (fun v sh' M' => ∃ x, v = some (.int x) ∧ X q lv (.int x :: st) sh' M' kc ks)) : X pc lv (a3 :: a2 :: a1 :: a0 :: .ref b :: st) sh M kc ks := by
  subst hp
  refine hX.1 _ _ _ _ _ _ _ _ _ hd ⟨rfl, ?_⟩
  refine glc_i hq ?_
  refine ⟨rfl, by simp, ?_⟩
  show gcat st ≤ 8 ∧ grc sh b ci ∧ gCall d mi [.ref b, a0, a1, a2, a3] sh M kc ks MC MS (lv.map Prod.snd ++ st) (fun v sh' M' kc' ks' => gret 1 v (fun w => X (pc + 3) lv (w ++ st) sh' M' kc' ks'))
  exact ⟨hc, grc_i hrc, ⟨d', 0, 0, hd', by omega, by omega, Or.inl rfl, gC_mono (fun v sh' M' z => by obtain ⟨x, rfl, z⟩ := z; exact ⟨rfl, z⟩) h⟩⟩
theorem s_invv4_2 {i mi ci d' : Nat} {b : Nat} {fs : List (Option Value)} {a0 a1 a2 a3 : Value} (hX : gCl cc o nL d MC MS rt ini sc Rt X) (hd : decode cc pc = .ok (.invokevirtual i, 3)) (hp : pc + 3 = q) (hq : glk o i = some (0, mi, 4, 2, ci)) (hrc : sh[b]? = some (.inl (ci, fs))) (hc : gcat st ≤ 8) (hb : kc ≤ MC ∧ ks ≤ MS) (hd' : d' + 1 ≤ d) (h : gC mi d' 0 0 [.ref b, a0, a1, a2, a3] sh M (fun v sh' M' => ∃ x, v = some (.long x) ∧ X q lv (.long x :: st) sh' M' kc ks)) : X pc lv (a3 :: a2 :: a1 :: a0 :: .ref b :: st) sh M kc ks := by
  subst hp
  refine hX.1 _ _ _ _ _ _ _ _ _ hd ⟨rfl, ?_⟩
  refine glc_i hq ?_
  refine ⟨rfl, by simp, ?_⟩
  show gcat st ≤ 8 ∧ grc sh b ci ∧ gCall d mi [.ref b, a0, a1, a2, a3] sh M kc ks MC MS (lv.map Prod.snd ++ st) (fun v sh' M' kc' ks' => gret 2 v (fun w => X (pc + 3) lv (w ++ st) sh' M' kc' ks'))
  exact ⟨hc, grc_i hrc, ⟨d', 0, 0, hd', by omega, by omega, Or.inl rfl, gC_mono (fun v sh' M' z => by obtain ⟨x, rfl, z⟩ := z; exact ⟨rfl, z⟩) h⟩⟩
theorem s_invv5_0 {i mi ci d' : Nat} {b : Nat} {fs : List (Option Value)} {a0 a1 a2 a3 a4 : Value} (hX : gCl cc o nL d MC MS rt ini sc Rt X) (hd : decode cc pc = .ok (.invokevirtual i, 3)) (hp : pc + 3 = q) (hq : glk o i = some (0, mi, 5, 0, ci)) (hrc : sh[b]? = some (.inl (ci, fs))) (hc : gcat st ≤ 8) (hb : kc ≤ MC ∧ ks ≤ MS) (hd' : d' + 1 ≤ d) (h : gC mi d' 0 0 [.ref b, a0, a1, a2, a3, a4] sh M (fun v sh' M' => v = none ∧ X q lv st sh' M' kc ks)) : X pc lv (a4 :: a3 :: a2 :: a1 :: a0 :: .ref b :: st) sh M kc ks := by
  subst hp
  refine hX.1 _ _ _ _ _ _ _ _ _ hd ⟨rfl, ?_⟩
  refine glc_i hq ?_
  refine ⟨rfl, by simp, ?_⟩
  show gcat st ≤ 8 ∧ grc sh b ci ∧ gCall d mi [.ref b, a0, a1, a2, a3, a4] sh M kc ks MC MS (lv.map Prod.snd ++ st) (fun v sh' M' kc' ks' => gret 0 v (fun w => X (pc + 3) lv (w ++ st) sh' M' kc' ks'))
  exact ⟨hc, grc_i hrc, ⟨d', 0, 0, hd', by omega, by omega, Or.inl rfl, gC_mono (fun v sh' M' z => by obtain ⟨rfl, z⟩ := z; exact ⟨rfl, z⟩) h⟩⟩
theorem s_invv5_1 {i mi ci d' : Nat} {b : Nat} {fs : List (Option Value)} {a0 a1 a2 a3 a4 : Value} (hX : gCl cc o nL d MC MS rt ini sc Rt X) (hd : decode cc pc = .ok (.invokevirtual i, 3)) (hp : pc + 3 = q) (hq : glk o i = some (0, mi, 5, 1, ci)) (hrc : sh[b]? = some (.inl (ci, fs))) (hc : gcat st ≤ 8) (hb : kc ≤ MC ∧ ks ≤ MS) (hd' : d' + 1 ≤ d) (h : gC mi d' 0 0 [.ref b, a0, a1, a2, a3, a4] sh M (fun v sh' M' => ∃ x, v = some (.int x) ∧ X q lv (.int x :: st) sh' M' kc ks)) : X pc lv (a4 :: a3 :: a2 :: a1 :: a0 :: .ref b :: st) sh M kc ks := by
  subst hp
  refine hX.1 _ _ _ _ _ _ _ _ _ hd ⟨rfl, ?_⟩
  refine glc_i hq ?_
  refine ⟨rfl, by simp, ?_⟩
  show gcat st ≤ 8 ∧ grc sh b ci ∧ gCall d mi [.ref b, a0, a1, a2, a3, a4] sh M kc ks MC MS (lv.map Prod.snd ++ st) (fun v sh' M' kc' ks' => gret 1 v (fun w => X (pc + 3) lv (w ++ st) sh' M' kc' ks'))
  exact ⟨hc, grc_i hrc, ⟨d', 0, 0, hd', by omega, by omega, Or.inl rfl, gC_mono (fun v sh' M' z => by obtain ⟨x, rfl, z⟩ := z; exact ⟨rfl, z⟩) h⟩⟩
theorem s_invv5_2 {i mi ci d' : Nat} {b : Nat} {fs : List (Option Value)} {a0 a1 a2 a3 a4 : Value} (hX : gCl cc o nL d MC MS rt ini sc Rt X) (hd : decode cc pc = .ok (.invokevirtual i, 3)) (hp : pc + 3 = q) (hq : glk o i = some (0, mi, 5, 2, ci)) (hrc : sh[b]? = some (.inl (ci, fs))) (hc : gcat st ≤ 8) (hb : kc ≤ MC ∧ ks ≤ MS) (hd' : d' + 1 ≤ d) (h : gC mi d' 0 0 [.ref b, a0, a1, a2, a3, a4] sh M (fun v sh' M' => ∃ x, v = some (.long x) ∧ X q lv (.long x :: st) sh' M' kc ks)) : X pc lv (a4 :: a3 :: a2 :: a1 :: a0 :: .ref b :: st) sh M kc ks := by
  subst hp
  refine hX.1 _ _ _ _ _ _ _ _ _ hd ⟨rfl, ?_⟩
  refine glc_i hq ?_
  refine ⟨rfl, by simp, ?_⟩
  show gcat st ≤ 8 ∧ grc sh b ci ∧ gCall d mi [.ref b, a0, a1, a2, a3, a4] sh M kc ks MC MS (lv.map Prod.snd ++ st) (fun v sh' M' kc' ks' => gret 2 v (fun w => X (pc + 3) lv (w ++ st) sh' M' kc' ks'))
  exact ⟨hc, grc_i hrc, ⟨d', 0, 0, hd', by omega, by omega, Or.inl rfl, gC_mono (fun v sh' M' z => by obtain ⟨x, rfl, z⟩ := z; exact ⟨rfl, z⟩) h⟩⟩
theorem s_invv6_0 {i mi ci d' : Nat} {b : Nat} {fs : List (Option Value)} {a0 a1 a2 a3 a4 a5 : Value} (hX : gCl cc o nL d MC MS rt ini sc Rt X) (hd : decode cc pc = .ok (.invokevirtual i, 3)) (hp : pc + 3 = q) (hq : glk o i = some (0, mi, 6, 0, ci)) (hrc : sh[b]? = some (.inl (ci, fs))) (hc : gcat st ≤ 8) (hb : kc ≤ MC ∧ ks ≤ MS) (hd' : d' + 1 ≤ d) (h : gC mi d' 0 0 [.ref b, a0, a1, a2, a3, a4, a5] sh M (fun v sh' M' => v = none ∧ X q lv st sh' M' kc ks)) : X pc lv (a5 :: a4 :: a3 :: a2 :: a1 :: a0 :: .ref b :: st) sh M kc ks := by
  subst hp
  refine hX.1 _ _ _ _ _ _ _ _ _ hd ⟨rfl, ?_⟩
  refine glc_i hq ?_
  refine ⟨rfl, by simp, ?_⟩
  show gcat st ≤ 8 ∧ grc sh b ci ∧ gCall d mi [.ref b, a0, a1, a2, a3, a4, a5] sh M kc ks MC MS (lv.map Prod.snd ++ st) (fun v sh' M' kc' ks' => gret 0 v (fun w => X (pc + 3) lv (w ++ st) sh' M' kc' ks'))
  exact ⟨hc, grc_i hrc, ⟨d', 0, 0, hd', by omega, by omega, Or.inl rfl, gC_mono (fun v sh' M' z => by obtain ⟨rfl, z⟩ := z; exact ⟨rfl, z⟩) h⟩⟩
theorem s_invv6_1 {i mi ci d' : Nat} {b : Nat} {fs : List (Option Value)} {a0 a1 a2 a3 a4 a5 : Value} (hX : gCl cc o nL d MC MS rt ini sc Rt X) (hd : decode cc pc = .ok (.invokevirtual i, 3)) (hp : pc + 3 = q) (hq : glk o i = some (0, mi, 6, 1, ci)) (hrc : sh[b]? = some (.inl (ci, fs))) (hc : gcat st ≤ 8) (hb : kc ≤ MC ∧ ks ≤ MS) (hd' : d' + 1 ≤ d) (h : gC mi d' 0 0 [.ref b, a0, a1, a2, a3, a4, a5] sh M (fun v sh' M' => ∃ x, v = some (.int x) ∧ X q lv (.int x :: st) sh' M' kc ks)) : X pc lv (a5 :: a4 :: a3 :: a2 :: a1 :: a0 :: .ref b :: st) sh M kc ks := by
  subst hp
  refine hX.1 _ _ _ _ _ _ _ _ _ hd ⟨rfl, ?_⟩
  refine glc_i hq ?_
  refine ⟨rfl, by simp, ?_⟩
  show gcat st ≤ 8 ∧ grc sh b ci ∧ gCall d mi [.ref b, a0, a1, a2, a3, a4, a5] sh M kc ks MC MS (lv.map Prod.snd ++ st) (fun v sh' M' kc' ks' => gret 1 v (fun w => X (pc + 3) lv (w ++ st) sh' M' kc' ks'))
  exact ⟨hc, grc_i hrc, ⟨d', 0, 0, hd', by omega, by omega, Or.inl rfl, gC_mono (fun v sh' M' z => by obtain ⟨x, rfl, z⟩ := z; exact ⟨rfl, z⟩) h⟩⟩
theorem s_invv6_2 {i mi ci d' : Nat} {b : Nat} {fs : List (Option Value)} {a0 a1 a2 a3 a4 a5 : Value} (hX : gCl cc o nL d MC MS rt ini sc Rt X) (hd : decode cc pc = .ok (.invokevirtual i, 3)) (hp : pc + 3 = q) (hq : glk o i = some (0, mi, 6, 2, ci)) (hrc : sh[b]? = some (.inl (ci, fs))) (hc : gcat st ≤ 8) (hb : kc ≤ MC ∧ ks ≤ MS) (hd' : d' + 1 ≤ d) (h : gC mi d' 0 0 [.ref b, a0, a1, a2, a3, a4, a5] sh M (fun v sh' M' => ∃ x, v = some (.long x) ∧ X q lv (.long x :: st) sh' M' kc ks)) : X pc lv (a5 :: a4 :: a3 :: a2 :: a1 :: a0 :: .ref b :: st) sh M kc ks := by
  subst hp
  refine hX.1 _ _ _ _ _ _ _ _ _ hd ⟨rfl, ?_⟩
  refine glc_i hq ?_
  refine ⟨rfl, by simp, ?_⟩
  show gcat st ≤ 8 ∧ grc sh b ci ∧ gCall d mi [.ref b, a0, a1, a2, a3, a4, a5] sh M kc ks MC MS (lv.map Prod.snd ++ st) (fun v sh' M' kc' ks' => gret 2 v (fun w => X (pc + 3) lv (w ++ st) sh' M' kc' ks'))
  exact ⟨hc, grc_i hrc, ⟨d', 0, 0, hd', by omega, by omega, Or.inl rfl, gC_mono (fun v sh' M' z => by obtain ⟨x, rfl, z⟩ := z; exact ⟨rfl, z⟩) h⟩⟩
theorem s_invs1_0 {i mi ci d' : Nat} {kd : Nat} {a0 : Value} (hX : gCl cc o nL d MC MS rt ini sc Rt X) (hd : decode cc pc = .ok (.invokestatic i, 3)) (hp : pc + 3 = q) (hq : glk o i = some (kd, mi, 1, 0, ci)) (hkd : kd = 1 ∨ kd = 3) (hc : gcat st ≤ 8) (hb : kc ≤ MC ∧ ks ≤ MS) (hd' : d' + 1 ≤ d) (h : gC mi d' 0 0 [a0] sh M (fun v sh' M' => v = none ∧ X q lv st sh' M' kc ks)) : X pc lv (a0 :: st) sh M kc ks := by
  subst hp
  refine hX.1 _ _ _ _ _ _ _ _ _ hd ⟨rfl, ?_⟩
  refine glc_i hq ?_
  rw [if_neg (show ¬ kd = 6 by omega)]
  refine ⟨hkd, by simp, ?_⟩
  show gcat st ≤ 8 ∧ gCall d mi [a0] sh M kc ks MC MS (lv.map Prod.snd ++ st) (fun v sh' M' kc' ks' => gret 0 v (fun w => X (pc + 3) lv (w ++ st) sh' M' kc' ks'))
  exact ⟨hc, ⟨d', 0, 0, hd', by omega, by omega, Or.inl rfl, gC_mono (fun v sh' M' z => by obtain ⟨rfl, z⟩ := z; exact ⟨rfl, z⟩) h⟩⟩
theorem s_invs1_1 {i mi ci d' : Nat} {kd : Nat} {a0 : Value} (hX : gCl cc o nL d MC MS rt ini sc Rt X) (hd : decode cc pc = .ok (.invokestatic i, 3)) (hp : pc + 3 = q) (hq : glk o i = some (kd, mi, 1, 1, ci)) (hkd : kd = 1 ∨ kd = 3) (hc : gcat st ≤ 8) (hb : kc ≤ MC ∧ ks ≤ MS) (hd' : d' + 1 ≤ d) (h : gC mi d' 0 0 [a0] sh M (fun v sh' M' => ∃ x, v = some (.int x) ∧ X q lv (.int x :: st) sh' M' kc ks)) : X pc lv (a0 :: st) sh M kc ks := by
  subst hp
  refine hX.1 _ _ _ _ _ _ _ _ _ hd ⟨rfl, ?_⟩
  refine glc_i hq ?_
  rw [if_neg (show ¬ kd = 6 by omega)]
  refine ⟨hkd, by simp, ?_⟩
  show gcat st ≤ 8 ∧ gCall d mi [a0] sh M kc ks MC MS (lv.map Prod.snd ++ st) (fun v sh' M' kc' ks' => gret 1 v (fun w => X (pc + 3) lv (w ++ st) sh' M' kc' ks'))
  exact ⟨hc, ⟨d', 0, 0, hd', by omega, by omega, Or.inl rfl, gC_mono (fun v sh' M' z => by obtain ⟨x, rfl, z⟩ := z; exact ⟨rfl, z⟩) h⟩⟩
theorem s_invs1_2 {i mi ci d' : Nat} {kd : Nat} {a0 : Value} (hX : gCl cc o nL d MC MS rt ini sc Rt X) (hd : decode cc pc = .ok (.invokestatic i, 3)) (hp : pc + 3 = q) (hq : glk o i = some (kd, mi, 1, 2, ci)) (hkd : kd = 1 ∨ kd = 3) (hc : gcat st ≤ 8) (hb : kc ≤ MC ∧ ks ≤ MS) (hd' : d' + 1 ≤ d) (h : gC mi d' 0 0 [a0] sh M (fun v sh' M' => ∃ x, v = some (.long x) ∧ X q lv (.long x :: st) sh' M' kc ks)) : X pc lv (a0 :: st) sh M kc ks := by
  subst hp
  refine hX.1 _ _ _ _ _ _ _ _ _ hd ⟨rfl, ?_⟩
  refine glc_i hq ?_
  rw [if_neg (show ¬ kd = 6 by omega)]
  refine ⟨hkd, by simp, ?_⟩
  show gcat st ≤ 8 ∧ gCall d mi [a0] sh M kc ks MC MS (lv.map Prod.snd ++ st) (fun v sh' M' kc' ks' => gret 2 v (fun w => X (pc + 3) lv (w ++ st) sh' M' kc' ks'))
  exact ⟨hc, ⟨d', 0, 0, hd', by omega, by omega, Or.inl rfl, gC_mono (fun v sh' M' z => by obtain ⟨x, rfl, z⟩ := z; exact ⟨rfl, z⟩) h⟩⟩
theorem s_invs2_0 {i mi ci d' : Nat} {kd : Nat} {a0 a1 : Value} (hX : gCl cc o nL d MC MS rt ini sc Rt X) (hd : decode cc pc = .ok (.invokestatic i, 3)) (hp : pc + 3 = q) (hq : glk o i = some (kd, mi, 2, 0, ci)) (hkd : kd = 1 ∨ kd = 3) (hc : gcat st ≤ 8) (hb : kc ≤ MC ∧ ks ≤ MS) (hd' : d' + 1 ≤ d) (h : gC mi d' 0 0 [a0, a1] sh M (fun v sh' M' => v = none ∧ X q lv st sh' M' kc ks)) : X pc lv (a1 :: a0 :: st) sh M kc ks := by
  subst hp
  refine hX.1 _ _ _ _ _ _ _ _ _ hd ⟨rfl, ?_⟩
  refine glc_i hq ?_
  rw [if_neg (show ¬ kd = 6 by omega)]
  refine ⟨hkd, by simp, ?_⟩
  show gcat st ≤ 8 ∧ gCall d mi [a0, a1] sh M kc ks MC MS (lv.map Prod.snd ++ st) (fun v sh' M' kc' ks' => gret 0 v (fun w => X (pc + 3) lv (w ++ st) sh' M' kc' ks'))
  exact ⟨hc, ⟨d', 0, 0, hd', by omega, by omega, Or.inl rfl, gC_mono (fun v sh' M' z => by obtain ⟨rfl, z⟩ := z; exact ⟨rfl, z⟩) h⟩⟩
theorem s_invs2_1 {i mi ci d' : Nat} {kd : Nat} {a0 a1 : Value} (hX : gCl cc o nL d MC MS rt ini sc Rt X) (hd : decode cc pc = .ok (.invokestatic i, 3)) (hp : pc + 3 = q) (hq : glk o i = some (kd, mi, 2, 1, ci)) (hkd : kd = 1 ∨ kd = 3) (hc : gcat st ≤ 8) (hb : kc ≤ MC ∧ ks ≤ MS) (hd' : d' + 1 ≤ d) (h : gC mi d' 0 0 [a0, a1] sh M (fun v sh' M' => ∃ x, v = some (.int x) ∧ X q lv (.int x :: st) sh' M' kc ks)) : X pc lv (a1 :: a0 :: st) sh M kc ks := by
  subst hp
  refine hX.1 _ _ _ _ _ _ _ _ _ hd ⟨rfl, ?_⟩
  refine glc_i hq ?_
  rw [if_neg (show ¬ kd = 6 by omega)]
  refine ⟨hkd, by simp, ?_⟩
  show gcat st ≤ 8 ∧ gCall d mi [a0, a1] sh M kc ks MC MS (lv.map Prod.snd ++ st) (fun v sh' M' kc' ks' => gret 1 v (fun w => X (pc + 3) lv (w ++ st) sh' M' kc' ks'))
  exact ⟨hc, ⟨d', 0, 0, hd', by omega, by omega, Or.inl rfl, gC_mono (fun v sh' M' z => by obtain ⟨x, rfl, z⟩ := z; exact ⟨rfl, z⟩) h⟩⟩
theorem s_invs2_2 {i mi ci d' : Nat} {kd : Nat} {a0 a1 : Value} (hX : gCl cc o nL d MC MS rt ini sc Rt X) (hd : decode cc pc = .ok (.invokestatic i, 3)) (hp : pc + 3 = q) (hq : glk o i = some (kd, mi, 2, 2, ci)) (hkd : kd = 1 ∨ kd = 3) (hc : gcat st ≤ 8) (hb : kc ≤ MC ∧ ks ≤ MS) (hd' : d' + 1 ≤ d) (h : gC mi d' 0 0 [a0, a1] sh M (fun v sh' M' => ∃ x, v = some (.long x) ∧ X q lv (.long x :: st) sh' M' kc ks)) : X pc lv (a1 :: a0 :: st) sh M kc ks := by
  subst hp
  refine hX.1 _ _ _ _ _ _ _ _ _ hd ⟨rfl, ?_⟩
  refine glc_i hq ?_
  rw [if_neg (show ¬ kd = 6 by omega)]
  refine ⟨hkd, by simp, ?_⟩
  show gcat st ≤ 8 ∧ gCall d mi [a0, a1] sh M kc ks MC MS (lv.map Prod.snd ++ st) (fun v sh' M' kc' ks' => gret 2 v (fun w => X (pc + 3) lv (w ++ st) sh' M' kc' ks'))
  exact ⟨hc, ⟨d', 0, 0, hd', by omega, by omega, Or.inl rfl, gC_mono (fun v sh' M' z => by obtain ⟨x, rfl, z⟩ := z; exact ⟨rfl, z⟩) h⟩⟩
theorem s_invs3_0 {i mi ci d' : Nat} {kd : Nat} {a0 a1 a2 : Value} (hX : gCl cc o nL d MC MS rt ini sc Rt X) (hd : decode cc pc = .ok (.invokestatic i, 3)) (hp : pc + 3 = q) (hq : glk o i = some (kd, mi, 3, 0, ci)) (hkd : kd = 1 ∨ kd = 3) (hc : gcat st ≤ 8) (hb : kc ≤ MC ∧ ks ≤ MS) (hd' : d' + 1 ≤ d) (h : gC mi d' 0 0 [a0, a1, a2] sh M (fun v sh' M' => v = none ∧ X q lv st sh' M' kc ks)) : X pc lv (a2 :: a1 :: a0 :: st) sh M kc ks := by
  subst hp
  refine hX.1 _ _ _ _ _ _ _ _ _ hd ⟨rfl, ?_⟩
  refine glc_i hq ?_
  rw [if_neg (show ¬ kd = 6 by omega)]
  refine ⟨hkd, by simp, ?_⟩
  show gcat st ≤ 8 ∧ gCall d mi [a0, a1, a2] sh M kc ks MC MS (lv.map Prod.snd ++ st) (fun v sh' M' kc' ks' => gret 0 v (fun w => X (pc + 3) lv (w ++ st) sh' M' kc' ks'))
  exact ⟨hc, ⟨d', 0, 0, hd', by omega, by omega, Or.inl rfl, gC_mono (fun v sh' M' z => by obtain ⟨rfl, z⟩ := z; exact ⟨rfl, z⟩) h⟩⟩
theorem s_invs3_1 {i mi ci d' : Nat} {kd : Nat} {a0 a1 a2 : Value} (hX : gCl cc o nL d MC MS rt ini sc Rt X) (hd : decode cc pc = .ok (.invokestatic i, 3)) (hp : pc + 3 = q) (hq : glk o i = some (kd, mi, 3, 1, ci)) (hkd : kd = 1 ∨ kd = 3) (hc : gcat st ≤ 8) (hb : kc ≤ MC ∧ ks ≤ MS) (hd' : d' + 1 ≤ d) (h : gC mi d' 0 0 [a0, a1, a2] sh M (fun v sh' M' => ∃ x, v = some (.int x) ∧ X q lv (.int x :: st) sh' M' kc ks)) : X pc lv (a2 :: a1 :: a0 :: st) sh M kc ks := by
  subst hp
  refine hX.1 _ _ _ _ _ _ _ _ _ hd ⟨rfl, ?_⟩
  refine glc_i hq ?_
  rw [if_neg (show ¬ kd = 6 by omega)]
  refine ⟨hkd, by simp, ?_⟩
  show gcat st ≤ 8 ∧ gCall d mi [a0, a1, a2] sh M kc ks MC MS (lv.map Prod.snd ++ st) (fun v sh' M' kc' ks' => gret 1 v (fun w => X (pc + 3) lv (w ++ st) sh' M' kc' ks'))
  exact ⟨hc, ⟨d', 0, 0, hd', by omega, by omega, Or.inl rfl, gC_mono (fun v sh' M' z => by obtain ⟨x, rfl, z⟩ := z; exact ⟨rfl, z⟩) h⟩⟩
theorem s_invs3_2 {i mi ci d' : Nat} {kd : Nat} {a0 a1 a2 : Value} (hX : gCl cc o nL d MC MS rt ini sc Rt X) (hd : decode cc pc = .ok (.invokestatic i, 3)) (hp : pc + 3 = q) (hq : glk o i = some (kd, mi, 3, 2, ci)) (hkd : kd = 1 ∨ kd = 3) (hc : gcat st ≤ 8) (hb : kc ≤ MC ∧ ks ≤ MS) (hd' : d' + 1 ≤ d) (h : gC mi d' 0 0 [a0, a1, a2] sh M (fun v sh' M' => ∃ x, v = some (.long x) ∧ X q lv (.long x :: st) sh' M' kc ks)) : X pc lv (a2 :: a1 :: a0 :: st) sh M kc ks := by
  subst hp
  refine hX.1 _ _ _ _ _ _ _ _ _ hd ⟨rfl, ?_⟩
  refine glc_i hq ?_
  rw [if_neg (show ¬ kd = 6 by omega)]
  refine ⟨hkd, by simp, ?_⟩
  show gcat st ≤ 8 ∧ gCall d mi [a0, a1, a2] sh M kc ks MC MS (lv.map Prod.snd ++ st) (fun v sh' M' kc' ks' => gret 2 v (fun w => X (pc + 3) lv (w ++ st) sh' M' kc' ks'))
  exact ⟨hc, ⟨d', 0, 0, hd', by omega, by omega, Or.inl rfl, gC_mono (fun v sh' M' z => by obtain ⟨x, rfl, z⟩ := z; exact ⟨rfl, z⟩) h⟩⟩
theorem s_invs4_0 {i mi ci d' : Nat} {kd : Nat} {a0 a1 a2 a3 : Value} (hX : gCl cc o nL d MC MS rt ini sc Rt X) (hd : decode cc pc = .ok (.invokestatic i, 3)) (hp : pc + 3 = q) (hq : glk o i = some (kd, mi, 4, 0, ci)) (hkd : kd = 1 ∨ kd = 3) (hc : gcat st ≤ 8) (hb : kc ≤ MC ∧ ks ≤ MS) (hd' : d' + 1 ≤ d) (h : gC mi d' 0 0 [a0, a1, a2, a3] sh M (fun v sh' M' => v = none ∧ X q lv st sh' M' kc ks)) : X pc lv (a3 :: a2 :: a1 :: a0 :: st) sh M kc ks := by
  subst hp
  refine hX.1 _ _ _ _ _ _ _ _ _ hd ⟨rfl, ?_⟩
  refine glc_i hq ?_
  rw [if_neg (show ¬ kd = 6 by omega)]
  refine ⟨hkd, by simp, ?_⟩
  show gcat st ≤ 8 ∧ gCall d mi [a0, a1, a2, a3] sh M kc ks MC MS (lv.map Prod.snd ++ st) (fun v sh' M' kc' ks' => gret 0 v (fun w => X (pc + 3) lv (w ++ st) sh' M' kc' ks'))
  exact ⟨hc, ⟨d', 0, 0, hd', by omega, by omega, Or.inl rfl, gC_mono (fun v sh' M' z => by obtain ⟨rfl, z⟩ := z; exact ⟨rfl, z⟩) h⟩⟩
theorem s_invs4_1 {i mi ci d' : Nat} {kd : Nat} {a0 a1 a2 a3 : Value} (hX : gCl cc o nL d MC MS rt ini sc Rt X) (hd : decode cc pc = .ok (.invokestatic i, 3)) (hp : pc + 3 = q) (hq : glk o i = some (kd, mi, 4, 1, ci)) (hkd : kd = 1 ∨ kd = 3) (hc : gcat st ≤ 8) (hb : kc ≤ MC ∧ ks ≤ MS) (hd' : d' + 1 ≤ d) (h : gC mi d' 0 0 [a0, a1, a2, a3] sh M (fun v sh' M' => ∃ x, v = some (.int x) ∧ X q lv (.int x :: st) sh' M' kc ks)) : X pc lv (a3 :: a2 :: a1 :: a0 :: st) sh M kc ks := by
  subst hp
  refine hX.1 _ _ _ _ _ _ _ _ _ hd ⟨rfl, ?_⟩
  refine glc_i hq ?_
  rw [if_neg (show ¬ kd = 6 by omega)]
  refine ⟨hkd, by simp, ?_⟩
  show gcat st ≤ 8 ∧ gCall d mi [a0, a1, a2, a3] sh M kc ks MC MS (lv.map Prod.snd ++ st) (fun v sh' M' kc' ks' => gret 1 v (fun w => X (pc + 3) lv (w ++ st) sh' M' kc' ks'))
  exact ⟨hc, ⟨d', 0, 0, hd', by omega, by omega, Or.inl rfl, gC_mono (fun v sh' M' z => by obtain ⟨x, rfl, z⟩ := z; exact ⟨rfl, z⟩) h⟩⟩
theorem s_invs4_2 {i mi ci d' : Nat} {kd : Nat} {a0 a1 a2 a3 : Value} (hX : gCl cc o nL d MC MS rt ini sc Rt X) (hd : decode cc pc = .ok (.invokestatic i, 3)) (hp : pc + 3 = q) (hq : glk o i = some (kd, mi, 4, 2, ci)) (hkd : kd = 1 ∨ kd = 3) (hc : gcat st ≤ 8) (hb : kc ≤ MC ∧ ks ≤ MS) (hd' : d' + 1 ≤ d) (h : gC mi d' 0 0 [a0, a1, a2, a3] sh M (fun v sh' M' => ∃ x, v = some (.long x) ∧ X q lv (.long x :: st) sh' M' kc ks)) : X pc lv (a3 :: a2 :: a1 :: a0 :: st) sh M kc ks := by
  subst hp
  refine hX.1 _ _ _ _ _ _ _ _ _ hd ⟨rfl, ?_⟩
  refine glc_i hq ?_
  rw [if_neg (show ¬ kd = 6 by omega)]
  refine ⟨hkd, by simp, ?_⟩
  show gcat st ≤ 8 ∧ gCall d mi [a0, a1, a2, a3] sh M kc ks MC MS (lv.map Prod.snd ++ st) (fun v sh' M' kc' ks' => gret 2 v (fun w => X (pc + 3) lv (w ++ st) sh' M' kc' ks'))
  exact ⟨hc, ⟨d', 0, 0, hd', by omega, by omega, Or.inl rfl, gC_mono (fun v sh' M' z => by obtain ⟨x, rfl, z⟩ := z; exact ⟨rfl, z⟩) h⟩⟩
theorem s_invs5_0 {i mi ci d' : Nat} {kd : Nat} {a0 a1 a2 a3 a4 : Value} (hX : gCl cc o nL d MC MS rt ini sc Rt X) (hd : decode cc pc = .ok (.invokestatic i, 3)) (hp : pc + 3 = q) (hq : glk o i = some (kd, mi, 5, 0, ci)) (hkd : kd = 1 ∨ kd = 3) (hc : gcat st ≤ 8) (hb : kc ≤ MC ∧ ks ≤ MS) (hd' : d' + 1 ≤ d) (h : gC mi d' 0 0 [a0, a1, a2, a3, a4] sh M (fun v sh' M' => v = none ∧ X q lv st sh' M' kc ks)) : X pc lv (a4 :: a3 :: a2 :: a1 :: a0 :: st) sh M kc ks := by
  subst hp
  refine hX.1 _ _ _ _ _ _ _ _ _ hd ⟨rfl, ?_⟩
  refine glc_i hq ?_
  rw [if_neg (show ¬ kd = 6 by omega)]
  refine ⟨hkd, by simp, ?_⟩
  show gcat st ≤ 8 ∧ gCall d mi [a0, a1, a2, a3, a4] sh M kc ks MC MS (lv.map Prod.snd ++ st) (fun v sh' M' kc' ks' => gret 0 v (fun w => X (pc + 3) lv (w ++ st) sh' M' kc' ks'))
  exact ⟨hc, ⟨d', 0, 0, hd', by omega, by omega, Or.inl rfl, gC_mono (fun v sh' M' z => by obtain ⟨rfl, z⟩ := z; exact ⟨rfl, z⟩) h⟩⟩
theorem s_invs5_1 {i mi ci d' : Nat} {kd : Nat} {a0 a1 a2 a3 a4 : Value} (hX : gCl cc o nL d MC MS rt ini sc Rt X) (hd : decode cc pc = .ok (.invokestatic i, 3)) (hp : pc + 3 = q) (hq : glk o i = some (kd, mi, 5, 1, ci)) (hkd : kd = 1 ∨ kd = 3) (hc : gcat st ≤ 8) (hb : kc ≤ MC ∧ ks ≤ MS) (hd' : d' + 1 ≤ d) (h : gC mi d' 0 0 [a0, a1, a2, a3, a4] sh M (fun v sh' M' => ∃ x, v = some (.int x) ∧ X q lv (.int x :: st) sh' M' kc ks)) : X pc lv (a4 :: a3 :: a2 :: a1 :: a0 :: st) sh M kc ks := by
  subst hp
  refine hX.1 _ _ _ _ _ _ _ _ _ hd ⟨rfl, ?_⟩
  refine glc_i hq ?_
  rw [if_neg (show ¬ kd = 6 by omega)]
  refine ⟨hkd, by simp, ?_⟩
  show gcat st ≤ 8 ∧ gCall d mi [a0, a1, a2, a3, a4] sh M kc ks MC MS (lv.map Prod.snd ++ st) (fun v sh' M' kc' ks' => gret 1 v (fun w => X (pc + 3) lv (w ++ st) sh' M' kc' ks'))
  exact ⟨hc, ⟨d', 0, 0, hd', by omega, by omega, Or.inl rfl, gC_mono (fun v sh' M' z => by obtain ⟨x, rfl, z⟩ := z; exact ⟨rfl, z⟩) h⟩⟩
theorem s_invs5_2 {i mi ci d' : Nat} {kd : Nat} {a0 a1 a2 a3 a4 : Value} (hX : gCl cc o nL d MC MS rt ini sc Rt X) (hd : decode cc pc = .ok (.invokestatic i, 3)) (hp : pc + 3 = q) (hq : glk o i = some (kd, mi, 5, 2, ci)) (hkd : kd = 1 ∨ kd = 3) (hc : gcat st ≤ 8) (hb : kc ≤ MC ∧ ks ≤ MS) (hd' : d' + 1 ≤ d) (h : gC mi d' 0 0 [a0, a1, a2, a3, a4] sh M (fun v sh' M' => ∃ x, v = some (.long x) ∧ X q lv (.long x :: st) sh' M' kc ks)) : X pc lv (a4 :: a3 :: a2 :: a1 :: a0 :: st) sh M kc ks := by
  subst hp
  refine hX.1 _ _ _ _ _ _ _ _ _ hd ⟨rfl, ?_⟩
  refine glc_i hq ?_
  rw [if_neg (show ¬ kd = 6 by omega)]
  refine ⟨hkd, by simp, ?_⟩
  show gcat st ≤ 8 ∧ gCall d mi [a0, a1, a2, a3, a4] sh M kc ks MC MS (lv.map Prod.snd ++ st) (fun v sh' M' kc' ks' => gret 2 v (fun w => X (pc + 3) lv (w ++ st) sh' M' kc' ks'))
  exact ⟨hc, ⟨d', 0, 0, hd', by omega, by omega, Or.inl rfl, gC_mono (fun v sh' M' z => by obtain ⟨x, rfl, z⟩ := z; exact ⟨rfl, z⟩) h⟩⟩
theorem s_invs6_0 {i mi ci d' : Nat} {kd : Nat} {a0 a1 a2 a3 a4 a5 : Value} (hX : gCl cc o nL d MC MS rt ini sc Rt X) (hd : decode cc pc = .ok (.invokestatic i, 3)) (hp : pc + 3 = q) (hq : glk o i = some (kd, mi, 6, 0, ci)) (hkd : kd = 1 ∨ kd = 3) (hc : gcat st ≤ 8) (hb : kc ≤ MC ∧ ks ≤ MS) (hd' : d' + 1 ≤ d) (h : gC mi d' 0 0 [a0, a1, a2, a3, a4, a5] sh M (fun v sh' M' => v = none ∧ X q lv st sh' M' kc ks)) : X pc lv (a5 :: a4 :: a3 :: a2 :: a1 :: a0 :: st) sh M kc ks := by
  subst hp
  refine hX.1 _ _ _ _ _ _ _ _ _ hd ⟨rfl, ?_⟩
  refine glc_i hq ?_
  rw [if_neg (show ¬ kd = 6 by omega)]
  refine ⟨hkd, by simp, ?_⟩
  show gcat st ≤ 8 ∧ gCall d mi [a0, a1, a2, a3, a4, a5] sh M kc ks MC MS (lv.map Prod.snd ++ st) (fun v sh' M' kc' ks' => gret 0 v (fun w => X (pc + 3) lv (w ++ st) sh' M' kc' ks'))
  exact ⟨hc, ⟨d', 0, 0, hd', by omega, by omega, Or.inl rfl, gC_mono (fun v sh' M' z => by obtain ⟨rfl, z⟩ := z; exact ⟨rfl, z⟩) h⟩⟩
theorem s_invs6_1 {i mi ci d' : Nat} {kd : Nat} {a0 a1 a2 a3 a4 a5 : Value} (hX : gCl cc o nL d MC MS rt ini sc Rt X) (hd : decode cc pc = .ok (.invokestatic i, 3)) (hp : pc + 3 = q) (hq : glk o i = some (kd, mi, 6, 1, ci)) (hkd : kd = 1 ∨ kd = 3) (hc : gcat st ≤ 8) (hb : kc ≤ MC ∧ ks ≤ MS) (hd' : d' + 1 ≤ d) (h : gC mi d' 0 0 [a0, a1, a2, a3, a4, a5] sh M (fun v sh' M' => ∃ x, v = some (.int x) ∧ X q lv (.int x :: st) sh' M' kc ks)) : X pc lv (a5 :: a4 :: a3 :: a2 :: a1 :: a0 :: st) sh M kc ks := by
  subst hp
  refine hX.1 _ _ _ _ _ _ _ _ _ hd ⟨rfl, ?_⟩
  refine glc_i hq ?_
  rw [if_neg (show ¬ kd = 6 by omega)]
  refine ⟨hkd, by simp, ?_⟩
  show gcat st ≤ 8 ∧ gCall d mi [a0, a1, a2, a3, a4, a5] sh M kc ks MC MS (lv.map Prod.snd ++ st) (fun v sh' M' kc' ks' => gret 1 v (fun w => X (pc + 3) lv (w ++ st) sh' M' kc' ks'))
  exact ⟨hc, ⟨d', 0, 0, hd', by omega, by omega, Or.inl rfl, gC_mono (fun v sh' M' z => by obtain ⟨x, rfl, z⟩ := z; exact ⟨rfl, z⟩) h⟩⟩
theorem s_invs6_2 {i mi ci d' : Nat} {kd : Nat} {a0 a1 a2 a3 a4 a5 : Value} (hX : gCl cc o nL d MC MS rt ini sc Rt X) (hd : decode cc pc = .ok (.invokestatic i, 3)) (hp : pc + 3 = q) (hq : glk o i = some (kd, mi, 6, 2, ci)) (hkd : kd = 1 ∨ kd = 3) (hc : gcat st ≤ 8) (hb : kc ≤ MC ∧ ks ≤ MS) (hd' : d' + 1 ≤ d) (h : gC mi d' 0 0 [a0, a1, a2, a3, a4, a5] sh M (fun v sh' M' => ∃ x, v = some (.long x) ∧ X q lv (.long x :: st) sh' M' kc ks)) : X pc lv (a5 :: a4 :: a3 :: a2 :: a1 :: a0 :: st) sh M kc ks := by
  subst hp
  refine hX.1 _ _ _ _ _ _ _ _ _ hd ⟨rfl, ?_⟩
  refine glc_i hq ?_
  rw [if_neg (show ¬ kd = 6 by omega)]
  refine ⟨hkd, by simp, ?_⟩
  show gcat st ≤ 8 ∧ gCall d mi [a0, a1, a2, a3, a4, a5] sh M kc ks MC MS (lv.map Prod.snd ++ st) (fun v sh' M' kc' ks' => gret 2 v (fun w => X (pc + 3) lv (w ++ st) sh' M' kc' ks'))
  exact ⟨hc, ⟨d', 0, 0, hd', by omega, by omega, Or.inl rfl, gC_mono (fun v sh' M' z => by obtain ⟨x, rfl, z⟩ := z; exact ⟨rfl, z⟩) h⟩⟩
theorem s_iret (hX : gCl cc o nL d MC MS rt ini sc Rt X) (hd : decode cc pc = .ok (.ireturn, 1)) (hr : rt = 1 ∨ (rt = 2 ∧ (x = 0 ∨ x = 1))) (h : Rt (some (.int x)) sh M kc ks) : X pc lv [.int x] sh M kc ks := hX.1 _ _ _ _ _ _ _ _ _ hd ⟨rfl, rfl, hr, h⟩
theorem s_lret (hX : gCl cc o nL d MC MS rt ini sc Rt X) (hd : decode cc pc = .ok (.lreturn, 1)) (hr : rt = 3) (h : Rt (some (.long u)) sh M kc ks) : X pc lv [.long u] sh M kc ks := hX.1 _ _ _ _ _ _ _ _ _ hd ⟨rfl, rfl, hr, h⟩
theorem s_ret (hX : gCl cc o nL d MC MS rt ini sc Rt X) (hd : decode cc pc = .ok (.return_, 1)) (hr : rt = 0) (h : Rt none sh M kc ks) : X pc lv [] sh M kc ks := hX.1 _ _ _ _ _ _ _ _ _ hd ⟨rfl, rfl, hr, h⟩
theorem s_nif_eq {off : Int} {r a b : Nat} (hX : gCl cc o nL d MC MS rt ini sc Rt X) (hd : decode cc pc = .ok (.ifCond .eq off, 3)) (hp : pc + 3 = q) (ho : (pc : Int) + off = (r : Int)) (ex : x = nI a) (ey : (0 : Int32) = nI b) (ha : a < 2 ^ 31) (hb : b < 2 ^ 31) (ht : a = b → X r lv st sh M kc ks) (hf : ¬ (a = b) → X q lv st sh M kc ks) : X pc lv (.int x :: st) sh M kc ks := by
  subst ex
  have key := (nI_eq ha hb)
  rw [← ey] at key
  exact s_if_eq hX hd hp ho (fun z => ht (key.mp z)) (fun z => hf (fun w => z (key.mpr w)))
theorem s_nicmp_eq {off : Int} {r a b : Nat} (hX : gCl cc o nL d MC MS rt ini sc Rt X) (hd : decode cc pc = .ok (.if_icmp .eq off, 3)) (hp : pc + 3 = q) (ho : (pc : Int) + off = (r : Int)) (ex : x = nI a) (ey : y = nI b) (ha : a < 2 ^ 31) (hb : b < 2 ^ 31) (ht : a = b → X r lv st sh M kc ks) (hf : ¬ (a = b) → X q lv st sh M kc ks) : X pc lv (.int y :: .int x :: st) sh M kc ks := by
  subst ex
  have key := (nI_eq ha hb)
  rw [← ey] at key
  exact s_icmp_eq hX hd hp ho (fun z => ht (key.mp z)) (fun z => hf (fun w => z (key.mpr w)))
theorem s_nif_ne {off : Int} {r a b : Nat} (hX : gCl cc o nL d MC MS rt ini sc Rt X) (hd : decode cc pc = .ok (.ifCond .ne off, 3)) (hp : pc + 3 = q) (ho : (pc : Int) + off = (r : Int)) (ex : x = nI a) (ey : (0 : Int32) = nI b) (ha : a < 2 ^ 31) (hb : b < 2 ^ 31) (ht : ¬ a = b → X r lv st sh M kc ks) (hf : ¬ (¬ a = b) → X q lv st sh M kc ks) : X pc lv (.int x :: st) sh M kc ks := by
  subst ex
  have key := (not_congr (nI_eq ha hb))
  rw [← ey] at key
  exact s_if_ne hX hd hp ho (fun z => ht (key.mp z)) (fun z => hf (fun w => z (key.mpr w)))
theorem s_nicmp_ne {off : Int} {r a b : Nat} (hX : gCl cc o nL d MC MS rt ini sc Rt X) (hd : decode cc pc = .ok (.if_icmp .ne off, 3)) (hp : pc + 3 = q) (ho : (pc : Int) + off = (r : Int)) (ex : x = nI a) (ey : y = nI b) (ha : a < 2 ^ 31) (hb : b < 2 ^ 31) (ht : ¬ a = b → X r lv st sh M kc ks) (hf : ¬ (¬ a = b) → X q lv st sh M kc ks) : X pc lv (.int y :: .int x :: st) sh M kc ks := by
  subst ex
  have key := (not_congr (nI_eq ha hb))
  rw [← ey] at key
  exact s_icmp_ne hX hd hp ho (fun z => ht (key.mp z)) (fun z => hf (fun w => z (key.mpr w)))
theorem s_nif_lt {off : Int} {r a b : Nat} (hX : gCl cc o nL d MC MS rt ini sc Rt X) (hd : decode cc pc = .ok (.ifCond .lt off, 3)) (hp : pc + 3 = q) (ho : (pc : Int) + off = (r : Int)) (ex : x = nI a) (ey : (0 : Int32) = nI b) (ha : a < 2 ^ 31) (hb : b < 2 ^ 31) (ht : a < b → X r lv st sh M kc ks) (hf : ¬ (a < b) → X q lv st sh M kc ks) : X pc lv (.int x :: st) sh M kc ks := by
  subst ex
  have key := (nI_ltI ha hb)
  rw [← ey] at key
  exact s_if_lt hX hd hp ho (fun z => ht (key.mp z)) (fun z => hf (fun w => z (key.mpr w)))
theorem s_nicmp_lt {off : Int} {r a b : Nat} (hX : gCl cc o nL d MC MS rt ini sc Rt X) (hd : decode cc pc = .ok (.if_icmp .lt off, 3)) (hp : pc + 3 = q) (ho : (pc : Int) + off = (r : Int)) (ex : x = nI a) (ey : y = nI b) (ha : a < 2 ^ 31) (hb : b < 2 ^ 31) (ht : a < b → X r lv st sh M kc ks) (hf : ¬ (a < b) → X q lv st sh M kc ks) : X pc lv (.int y :: .int x :: st) sh M kc ks := by
  subst ex
  have key := (nI_ltI ha hb)
  rw [← ey] at key
  exact s_icmp_lt hX hd hp ho (fun z => ht (key.mp z)) (fun z => hf (fun w => z (key.mpr w)))
theorem s_nif_ge {off : Int} {r a b : Nat} (hX : gCl cc o nL d MC MS rt ini sc Rt X) (hd : decode cc pc = .ok (.ifCond .ge off, 3)) (hp : pc + 3 = q) (ho : (pc : Int) + off = (r : Int)) (ex : x = nI a) (ey : (0 : Int32) = nI b) (ha : a < 2 ^ 31) (hb : b < 2 ^ 31) (ht : b ≤ a → X r lv st sh M kc ks) (hf : ¬ (b ≤ a) → X q lv st sh M kc ks) : X pc lv (.int x :: st) sh M kc ks := by
  subst ex
  have key := (nI_leI hb ha)
  rw [← ey] at key
  exact s_if_ge hX hd hp ho (fun z => ht (key.mp z)) (fun z => hf (fun w => z (key.mpr w)))
theorem s_nicmp_ge {off : Int} {r a b : Nat} (hX : gCl cc o nL d MC MS rt ini sc Rt X) (hd : decode cc pc = .ok (.if_icmp .ge off, 3)) (hp : pc + 3 = q) (ho : (pc : Int) + off = (r : Int)) (ex : x = nI a) (ey : y = nI b) (ha : a < 2 ^ 31) (hb : b < 2 ^ 31) (ht : b ≤ a → X r lv st sh M kc ks) (hf : ¬ (b ≤ a) → X q lv st sh M kc ks) : X pc lv (.int y :: .int x :: st) sh M kc ks := by
  subst ex
  have key := (nI_leI hb ha)
  rw [← ey] at key
  exact s_icmp_ge hX hd hp ho (fun z => ht (key.mp z)) (fun z => hf (fun w => z (key.mpr w)))
theorem s_nif_gt {off : Int} {r a b : Nat} (hX : gCl cc o nL d MC MS rt ini sc Rt X) (hd : decode cc pc = .ok (.ifCond .gt off, 3)) (hp : pc + 3 = q) (ho : (pc : Int) + off = (r : Int)) (ex : x = nI a) (ey : (0 : Int32) = nI b) (ha : a < 2 ^ 31) (hb : b < 2 ^ 31) (ht : b < a → X r lv st sh M kc ks) (hf : ¬ (b < a) → X q lv st sh M kc ks) : X pc lv (.int x :: st) sh M kc ks := by
  subst ex
  have key := (nI_ltI hb ha)
  rw [← ey] at key
  exact s_if_gt hX hd hp ho (fun z => ht (key.mp z)) (fun z => hf (fun w => z (key.mpr w)))
theorem s_nicmp_gt {off : Int} {r a b : Nat} (hX : gCl cc o nL d MC MS rt ini sc Rt X) (hd : decode cc pc = .ok (.if_icmp .gt off, 3)) (hp : pc + 3 = q) (ho : (pc : Int) + off = (r : Int)) (ex : x = nI a) (ey : y = nI b) (ha : a < 2 ^ 31) (hb : b < 2 ^ 31) (ht : b < a → X r lv st sh M kc ks) (hf : ¬ (b < a) → X q lv st sh M kc ks) : X pc lv (.int y :: .int x :: st) sh M kc ks := by
  subst ex
  have key := (nI_ltI hb ha)
  rw [← ey] at key
  exact s_icmp_gt hX hd hp ho (fun z => ht (key.mp z)) (fun z => hf (fun w => z (key.mpr w)))
theorem s_nif_le {off : Int} {r a b : Nat} (hX : gCl cc o nL d MC MS rt ini sc Rt X) (hd : decode cc pc = .ok (.ifCond .le off, 3)) (hp : pc + 3 = q) (ho : (pc : Int) + off = (r : Int)) (ex : x = nI a) (ey : (0 : Int32) = nI b) (ha : a < 2 ^ 31) (hb : b < 2 ^ 31) (ht : a ≤ b → X r lv st sh M kc ks) (hf : ¬ (a ≤ b) → X q lv st sh M kc ks) : X pc lv (.int x :: st) sh M kc ks := by
  subst ex
  have key := (nI_leI ha hb)
  rw [← ey] at key
  exact s_if_le hX hd hp ho (fun z => ht (key.mp z)) (fun z => hf (fun w => z (key.mpr w)))
theorem s_nicmp_le {off : Int} {r a b : Nat} (hX : gCl cc o nL d MC MS rt ini sc Rt X) (hd : decode cc pc = .ok (.if_icmp .le off, 3)) (hp : pc + 3 = q) (ho : (pc : Int) + off = (r : Int)) (ex : x = nI a) (ey : y = nI b) (ha : a < 2 ^ 31) (hb : b < 2 ^ 31) (ht : a ≤ b → X r lv st sh M kc ks) (hf : ¬ (a ≤ b) → X q lv st sh M kc ks) : X pc lv (.int y :: .int x :: st) sh M kc ks := by
  subst ex
  have key := (nI_leI ha hb)
  rw [← ey] at key
  exact s_icmp_le hX hd hp ho (fun z => ht (key.mp z)) (fun z => hf (fun w => z (key.mpr w)))
end SR
end
section
/-! THE NUMBERS: a town, what a deed costs a person, over Nat -/
/-- persons, deeds, price; kinds, rations, costs, worths, the plan -/
abbrev gT : Type := Nat × Nat × Nat × (Nat → Nat) × (Nat → Nat) × (Nat → Nat) × (Nat → Nat) × (Nat → Int32)
def gT.P (T : gT) : Nat := T.1
def gT.D (T : gT) : Nat := T.2.1
def gT.pr (T : gT) : Nat := T.2.2.1
def gT.kd (T : gT) : Nat → Nat := T.2.2.2.1
def gT.ra (T : gT) : Nat → Nat := T.2.2.2.2.1
def gT.co (T : gT) : Nat → Nat := T.2.2.2.2.2.1
def gT.wo (T : gT) : Nat → Nat := T.2.2.2.2.2.2.1
def gT.pl (T : gT) : Nat → Int32 := T.2.2.2.2.2.2.2
/-- a good town -/
def gT.ok (T : gT) : Prop := T.P ≤ 6 ∧ T.D ≤ 6 ∧ T.pr ≤ 9 ∧ (∀ i, i < T.P → T.kd i ≤ 4) ∧ (∀ j, j < 3 * T.P → T.ra j ≤ 9) ∧ (∀ j, j < 3 * T.D → T.co j ≤ 4) ∧ (∀ k, k < T.D → T.wo k ≤ 9) ∧ (∀ j, j < 7 * T.P → T.pl j = -4 ∨ ∃ k, k < T.D ∧ T.pl j = nI k)
/-- the shape of a Town at t -/
def isTown (sh : List gS) (t : Nat) : Prop := sh[t]? = some (.inl (4, [some (.ref (t + 1)), some (.ref (t + 2)), some (.ref (t + 3)), some (.ref (t + 4)), some (.ref (t + 5)), some (.ref (t + 6)), none, none, none])) ∧ sh[t + 1]? = some (.inr (.inl (0, 6))) ∧ sh[t + 2]? = some (.inr (.inl (0, 18))) ∧ sh[t + 3]? = some (.inr (.inl (0, 18))) ∧ sh[t + 4]? = some (.inr (.inl (0, 6))) ∧ sh[t + 5]? = some (.inr (.inl (0, 42))) ∧ sh[t + 6]? = some (.inr (.inl (0, 3)))
/-- what a Town at t holds -/
def TWN (M : gM) (t : Nat) (T : gT) : Prop := M t 6 = nI T.P ∧ M t 7 = nI T.D ∧ M t 8 = nI T.pr ∧ (∀ i, i < T.P → M (t + 1) i = nI (T.kd i)) ∧ (∀ j, j < 3 * T.P → M (t + 2) j = nI (T.ra j)) ∧ (∀ j, j < 3 * T.D → M (t + 3) j = nI (T.co j)) ∧ (∀ k, k < T.D → M (t + 4) k = nI (T.wo k)) ∧ (∀ j, j < 7 * T.P → M (t + 5) j = T.pl j)
theorem TWN.keep {M M' : gM} {t : Nat} {T : gT} (h : TWN M t T) (hM : ∀ c, t ≤ c → c ≤ t + 5 → M' c = M c) : TWN M' t T := by
  obtain ⟨h1, h2, h3, h4, h5, h6, h7, h8⟩ := h
  unfold TWN
  rw [hM t (by omega) (by omega), hM (t + 1) (by omega) (by omega), hM (t + 2) (by omega) (by omega), hM (t + 3) (by omega) (by omega), hM (t + 4) (by omega) (by omega), hM (t + 5) (by omega) (by omega)]
  exact ⟨h1, h2, h3, h4, h5, h6, h7, h8⟩
/-- the cost of a deed (of three sorts) for one of kind kd -/
def pcs (kd : Nat) (c : Nat → Nat) : Nat → Nat := fun s =>
  if kd = 3 ∧ 1 < c 0 + c 1 + c 2 then (if 0 < c 0 then (if s = 0 then c 0 - 1 else c s) else if 0 < c 1 then (if s = 1 then c 1 - 1 else c s) else (if s = 2 then c 2 - 1 else c s)) else c s
/-- how many are wanting, of the first n sorts -/
def lck (c h : Nat → Nat) : Nat → Nat
  | 0 => 0
  | n + 1 => lck c h n + (c n - h n)
/-- the richest sort behind the cost -/
def rich (c h : Nat → Nat) : Nat := if h 0 - c 0 < h 1 - c 1 then (if h 1 - c 1 < h 2 - c 2 then 2 else 1) else (if h 0 - c 0 < h 2 - c 2 then 2 else 0)
def mnc (c h : Nat → Nat) : Nat → Nat := fun s => if h s < c s then h s else c s
def canC (kd : Nat) (c h : Nat → Nat) : Bool := decide (lck c h 3 = 0) || (decide (lck c h 3 = 1) && decide (kd = 4) && decide (2 ≤ h (rich (mnc c h) h) - mnc c h (rich (mnc c h) h)))
def payC (c h : Nat → Nat) : Nat → Nat := fun s => if lck c h 3 = 0 then c s else if s = rich (mnc c h) h then mnc c h s + 2 else mnc c h s
/-- the cost of deed k to person i -/
def gT.cs (T : gT) (i k : Nat) : Nat → Nat := pcs (T.kd i) (fun s => T.co (3 * k + s))
/-- whether person i, who has h, can do deed k -/
def gT.can (T : gT) (i k : Nat) (h : Nat → Nat) : Bool := canC (T.kd i) (T.cs i k) h
def gT.pay (T : gT) (i k : Nat) (h : Nat → Nat) : Nat → Nat := payC (T.cs i k) h
theorem gsr_gsr (M : gM) (a : Nat) (f g : Nat → Int32) : gsr (gsr M a f) a g = gsr M a g := by
  funext c
  by_cases h : c = a <;> simp [gsr, h]
theorem gqe {Q : Option Value → List gS → gM → Prop} {v : Option Value} {sh : List gS} {M M' : gM} (h : Q v sh M') (e : M = M') : Q v sh M := e ▸ h
theorem gqv {Q : Option Value → List gS → gM → Prop} {v v' : Int32} {sh : List gS} {M M' : gM} (h : Q (some (.int v')) sh M') (ev : v = v') (e : M = M') : Q (some (.int v)) sh M := by rw [ev, e]; exact h
theorem gif_t {p : Prop} [Decidable p] (h : ¬ (if p then (1 : Int32) else 0) = 0) : p := by
  by_cases z : p
  · exact z
  · rw [if_neg z] at h; exact absurd rfl h
theorem gif_f {p : Prop} [Decidable p] (h : (if p then (1 : Int32) else 0) = 0) : ¬ p := by
  intro z; rw [if_pos z] at h; exact absurd h (by decide)
theorem gsub0 {a b : Nat} (ha : a < 1000000) (hb : b < 1000000) : nI a - nI b ≤ 0 ↔ a ≤ b := by
  rw [Int32.le_iff_toInt_le, pk_sub_toInt (by omega) (by omega)]
  show (a : Int) - b ≤ 0 ↔ _
  omega
theorem s_dl {cc : ByteArray} {o nL d MC MS rt : Nat} {ini : Bool} {sc : Option (Nat × (Nat → Int32))} {Rt : gRt} {X : gX} {pc : Nat} {lv : List (Nat × Value)} {st : List Value} {sh : List gS} {M : gM} {kc ks : Nat} (hX : gCl cc o nL d MC MS rt ini sc Rt X) (h : X pc lv.dropLast st sh M kc ks) : X pc lv st sh M kc ks := s_lv hX (fun _ hq => List.dropLast_subset lv hq) h
theorem lck_one {c h : Nat → Nat} (h1 : lck c h 3 = 1) : ∃ r, r < 3 ∧ c r = h r + 1 ∧ ∀ s, s < 3 → s ≠ r → c s ≤ h s := by
  have h2 : 0 + (c 0 - h 0) + (c 1 - h 1) + (c 2 - h 2) = 1 := h1
  rcases (show (c 0 = h 0 + 1 ∧ c 1 ≤ h 1 ∧ c 2 ≤ h 2) ∨ (c 1 = h 1 + 1 ∧ c 0 ≤ h 0 ∧ c 2 ≤ h 2) ∨ (c 2 = h 2 + 1 ∧ c 0 ≤ h 0 ∧ c 1 ≤ h 1) by omega) with z | z | z
  · refine ⟨0, by omega, z.1, fun s hs hn => ?_⟩
    rcases (show s = 1 ∨ s = 2 by omega) with rfl | rfl
    · exact z.2.1
    · exact z.2.2
  · refine ⟨1, by omega, z.1, fun s hs hn => ?_⟩
    rcases (show s = 0 ∨ s = 2 by omega) with rfl | rfl
    · exact z.2.1
    · exact z.2.2
  · refine ⟨2, by omega, z.1, fun s hs hn => ?_⟩
    rcases (show s = 0 ∨ s = 1 by omega) with rfl | rfl
    · exact z.2.1
    · exact z.2.2
end
section
/-! TOWN: bills -/
set_option maxHeartbeats 4000000 in
set_option maxRecDepth 100000 in
theorem c_billSum {d t : Nat} {sh : List gS} {M : gM} {Q : Option Value → List gS → gM → Prop} (hT : isTown sh t) (h : Q (some (.int (M (t + 6) 0 + M (t + 6) 1 + M (t + 6) 2))) sh M) : gC mX4_billSum d 0 0 [.ref t] sh M Q := by
  obtain ⟨z0, z1, z2, z3, z4, z5, z6⟩ := hT
  refine gC_of (rt := 1) (ini := false) gm_X4_billSum rfl (by decide) (Nat.le_of_ble_eq_true rfl) (fun X hX => ?_)
  refine s_aload_n (q := 1) hX dX4_billSum_0 rfl rfl ?_
  refine s_getr (q := 4) hX dX4_billSum_1 rfl gfl_4_27 (by assumption) rfl ?_
  refine s_iconst (q := 5) (v := 0) hX dX4_billSum_4 rfl rfl ?_
  refine s_iald (k := 0) (q := 6) hX dX4_billSum_5 rfl (by assumption) rfl (by omega) (by omega) ?_
  refine s_aload_n (q := 7) hX dX4_billSum_6 rfl rfl ?_
  refine s_getr (q := 10) hX dX4_billSum_7 rfl gfl_4_27 (by assumption) rfl ?_
  refine s_iconst (q := 11) (v := 1) hX dX4_billSum_10 rfl rfl ?_
  refine s_iald (k := 1) (q := 12) hX dX4_billSum_11 rfl (by assumption) rfl (by omega) (by omega) ?_
  refine s_iadd (q := 13) hX dX4_billSum_12 rfl rfl ?_
  refine s_aload_n (q := 14) hX dX4_billSum_13 rfl rfl ?_
  refine s_getr (q := 17) hX dX4_billSum_14 rfl gfl_4_27 (by assumption) rfl ?_
  refine s_iconst (q := 18) (v := 2) hX dX4_billSum_17 rfl rfl ?_
  refine s_iald (k := 2) (q := 19) hX dX4_billSum_18 rfl (by assumption) rfl (by omega) (by omega) ?_
  refine s_iadd (q := 20) hX dX4_billSum_19 rfl rfl ?_
  refine s_iret hX dX4_billSum_20 (Or.inl rfl) ⟨Nat.le_refl _, Nat.le_refl _, Nat.le_refl _, ?_⟩
  exact h
set_option maxHeartbeats 4000000 in
set_option maxRecDepth 100000 in
theorem c_writeBill {d t i k : Nat} {T : gT} {sh : List gS} {M : gM} {Q : Option Value → List gS → gM → Prop} (hd : 1 ≤ d) (hT : isTown sh t) (hW : TWN M t T) (hok : T.ok) (hi : i < T.P) (hk : k < T.D) (h : ∀ g, (∀ s, s < 3 → g s = nI (T.cs i k s)) → Q none sh (gsr M (t + 6) g)) : gC mX4_writeBill d 0 0 [.ref t, .int (nI i), .int (nI k)] sh M Q := by
  have hT0 := hT
  obtain ⟨z0, z1, z2, z3, z4, z5, z6⟩ := hT
  obtain ⟨w1, w2, w3, w4, w5, w6, w7, w8⟩ := hW
  obtain ⟨o1, o2, o3, o4, o5, o6, o7, o8⟩ := hok
  have hc0 := w6 (3 * k + 0) (by omega)
  have hc1 := w6 (3 * k + 1) (by omega)
  have hc2 := w6 (3 * k + 2) (by omega)
  have b0 := o6 (3 * k + 0) (by omega)
  have b1 := o6 (3 * k + 1) (by omega)
  have b2 := o6 (3 * k + 2) (by omega)
  have hkd := w4 i hi
  have bkd := o4 i hi
  refine gC_of (rt := 0) (ini := false) gm_X4_writeBill rfl (by decide) (Nat.le_of_ble_eq_true rfl) (fun X hX => ?_)
  refine s_aload_n (q := 1) hX dX4_writeBill_0 rfl rfl ?_
  refine s_getr (q := 4) hX dX4_writeBill_1 rfl gfl_4_18 (by assumption) rfl ?_
  refine s_iload_n (q := 5) hX dX4_writeBill_4 rfl rfl ?_
  refine s_iconst (q := 6) (v := 3) hX dX4_writeBill_5 rfl rfl ?_
  refine s_imul (q := 7) (v := nI (k * 3)) hX dX4_writeBill_6 rfl (pk_mul (k) (3)) ?_
  refine s_aload_n (q := 8) hX dX4_writeBill_7 rfl rfl ?_
  refine s_getr (q := 11) hX dX4_writeBill_8 rfl gfl_4_27 (by assumption) rfl ?_
  refine s_iconst (q := 12) (v := 0) hX dX4_writeBill_11 rfl rfl ?_
  refine s_iconst (q := 13) (v := 3) hX dX4_writeBill_12 rfl rfl ?_
  refine s_cpy (k0 := k * 3) (k1 := 0) (n := 3) (q := 16) hX dX4_writeBill_13 rfl glk_4_57 (by omega) (Nat.le_of_ble_eq_true rfl) (by assumption) (by assumption) rfl rfl rfl (by omega) (by omega) (by omega) (by omega) ?_
  generalize hg : va_cpy (M (t + 3)) (M (t + 6)) (k * 3) 0 3 = g
  have g0 : g 0 = nI (T.co (3 * k + 0)) := by rw [← hg, pk_cpy_in (by omega) (by omega), ← hc0]; congr 1; omega
  have g1 : g 1 = nI (T.co (3 * k + 1)) := by rw [← hg, pk_cpy_in (by omega) (by omega), ← hc1]; congr 1; omega
  have g2 : g 2 = nI (T.co (3 * k + 2)) := by rw [← hg, pk_cpy_in (by omega) (by omega), ← hc2]; congr 1; omega
  refine s_aload_n (q := 17) hX dX4_writeBill_16 rfl rfl ?_
  refine s_getr (q := 20) hX dX4_writeBill_17 rfl gfl_4_9 (by assumption) rfl ?_
  refine s_iload_n (q := 21) hX dX4_writeBill_20 rfl rfl ?_
  refine s_iald (k := i) (q := 22) hX dX4_writeBill_21 rfl (by assumption) rfl (by omega) (by omega) ?_
  refine s_topi (v := nI (T.kd i)) (by rw [gsr_n _ _ (by omega)]; exact hkd) ?_
  refine s_iconst (q := 23) (v := 3) hX dX4_writeBill_22 rfl rfl ?_
  refine s_nicmp_ne (a := T.kd i) (b := 3) (q := 26) (r := 34) hX dX4_writeBill_23 rfl rfl rfl rfl (by omega) (by omega) (fun c23 => ?_) (fun c23 => ?_)
  · refine s_ret hX dX4_writeBill_34 rfl ⟨Nat.le_refl _, Nat.le_refl _, Nat.le_refl _, ?_⟩
    refine h g (fun s hs => co_3 (P := fun s => g s = nI (T.cs i k s)) ?_ ?_ ?_ hs) <;> (clear hX h w1 w2 w3 w4 w5 w6 w7 w8 o1 o2 o3 o4 o5 o6 o7 o8; simp only [gT.cs, pcs, upd]; first | (simp_all; done) | (simp_all; omega) | (repeat' split) <;> first | (simp_all; done) | (simp_all; omega) | omega)
  · refine s_aload_n (q := 27) hX dX4_writeBill_26 rfl rfl ?_
    refine s_invv0_1 (q := 30) hX dX4_writeBill_27 rfl glk_4_63 (by assumption) (Nat.le_of_ble_eq_true rfl) ⟨Nat.le_refl _, Nat.le_refl _⟩ (by omega) (c_billSum hT0 ?_) 
    refine ⟨_, rfl, ?_⟩
    refine s_topi (v := nI (T.co (3 * k + 0) + T.co (3 * k + 1) + T.co (3 * k + 2))) (by rw [gsr_s, g0, g1, g2, nI_add, nI_add]) ?_
    refine s_iconst (q := 31) (v := 1) hX dX4_writeBill_30 rfl rfl ?_
    refine s_nicmp_gt (a := T.co (3 * k + 0) + T.co (3 * k + 1) + T.co (3 * k + 2)) (b := 1) (q := 34) (r := 35) hX dX4_writeBill_31 rfl rfl rfl rfl (by omega) (by omega) (fun c31 => ?_) (fun c31 => ?_)
    · refine s_iconst (q := 36) (v := 0) hX dX4_writeBill_35 rfl rfl ?_
      refine s_istore_n (q := 37) (lv' := [(0, _), (1, _), (2, _), (3, _)]) hX dX4_writeBill_36 rfl (Nat.le_of_ble_eq_true rfl) rfl ?_
      refine s_iload_n (q := 38) hX dX4_writeBill_37 rfl rfl ?_
      refine s_iconst (q := 39) (v := 3) hX dX4_writeBill_38 rfl rfl ?_
      refine s_icmp_ge_f (q := 42) (r := 68) hX dX4_writeBill_39 rfl rfl (by decide) ?_
      refine s_aload_n (q := 43) hX dX4_writeBill_42 rfl rfl ?_
      refine s_getr (q := 46) hX dX4_writeBill_43 rfl gfl_4_27 (by assumption) rfl ?_
      refine s_iload_n (q := 47) hX dX4_writeBill_46 rfl rfl ?_
      refine s_iald (k := 0) (q := 48) hX dX4_writeBill_47 rfl (by assumption) rfl (by omega) (by omega) ?_
      refine s_topi (v := nI (T.co (3 * k + 0))) (by rw [gsr_s]; exact g0) ?_
      refine s_nif_le (a := T.co (3 * k + 0)) (b := 0) (q := 51) (r := 62) hX dX4_writeBill_48 rfl rfl rfl rfl (by omega) (by omega) (fun c48 => ?_) (fun c48 => ?_)
      · refine s_iinc (q := 65) (v := 1) (lv' := [(0, _), (1, _), (2, _), (3, _)]) hX dX4_writeBill_62 rfl rfl (by decide) (Nat.le_of_ble_eq_true rfl) rfl ?_
        refine s_goto (q := 37) hX dX4_writeBill_65 rfl ?_
        refine s_iload_n (q := 38) hX dX4_writeBill_37 rfl rfl ?_
        refine s_iconst (q := 39) (v := 3) hX dX4_writeBill_38 rfl rfl ?_
        refine s_icmp_ge_f (q := 42) (r := 68) hX dX4_writeBill_39 rfl rfl (by decide) ?_
        refine s_aload_n (q := 43) hX dX4_writeBill_42 rfl rfl ?_
        refine s_getr (q := 46) hX dX4_writeBill_43 rfl gfl_4_27 (by assumption) rfl ?_
        refine s_iload_n (q := 47) hX dX4_writeBill_46 rfl rfl ?_
        refine s_iald (k := 1) (q := 48) hX dX4_writeBill_47 rfl (by assumption) rfl (by omega) (by omega) ?_
        refine s_topi (v := nI (T.co (3 * k + 1))) (by rw [gsr_s]; exact g1) ?_
        refine s_nif_le (a := T.co (3 * k + 1)) (b := 0) (q := 51) (r := 62) hX dX4_writeBill_48 rfl rfl rfl rfl (by omega) (by omega) (fun c48_1 => ?_) (fun c48_1 => ?_)
        · refine s_iinc (q := 65) (v := 2) (lv' := [(0, _), (1, _), (2, _), (3, _)]) hX dX4_writeBill_62 rfl rfl (by decide) (Nat.le_of_ble_eq_true rfl) rfl ?_
          refine s_goto (q := 37) hX dX4_writeBill_65 rfl ?_
          refine s_iload_n (q := 38) hX dX4_writeBill_37 rfl rfl ?_
          refine s_iconst (q := 39) (v := 3) hX dX4_writeBill_38 rfl rfl ?_
          refine s_icmp_ge_f (q := 42) (r := 68) hX dX4_writeBill_39 rfl rfl (by decide) ?_
          refine s_aload_n (q := 43) hX dX4_writeBill_42 rfl rfl ?_
          refine s_getr (q := 46) hX dX4_writeBill_43 rfl gfl_4_27 (by assumption) rfl ?_
          refine s_iload_n (q := 47) hX dX4_writeBill_46 rfl rfl ?_
          refine s_iald (k := 2) (q := 48) hX dX4_writeBill_47 rfl (by assumption) rfl (by omega) (by omega) ?_
          refine s_topi (v := nI (T.co (3 * k + 2))) (by rw [gsr_s]; exact g2) ?_
          refine s_nif_le (a := T.co (3 * k + 2)) (b := 0) (q := 51) (r := 62) hX dX4_writeBill_48 rfl rfl rfl rfl (by omega) (by omega) (fun c48_2 => ?_) (fun c48_2 => ?_)
          · refine s_iinc (q := 65) (v := 3) (lv' := [(0, _), (1, _), (2, _), (3, _)]) hX dX4_writeBill_62 rfl rfl (by decide) (Nat.le_of_ble_eq_true rfl) rfl ?_
            refine s_goto (q := 37) hX dX4_writeBill_65 rfl ?_
            refine s_iload_n (q := 38) hX dX4_writeBill_37 rfl rfl ?_
            refine s_iconst (q := 39) (v := 3) hX dX4_writeBill_38 rfl rfl ?_
            refine s_icmp_ge_t (q := 42) (r := 68) hX dX4_writeBill_39 rfl rfl (by decide) ?_
            refine s_ret hX dX4_writeBill_68 rfl ⟨Nat.le_refl _, Nat.le_refl _, Nat.le_refl _, ?_⟩
            refine h g (fun s hs => co_3 (P := fun s => g s = nI (T.cs i k s)) ?_ ?_ ?_ hs) <;> (clear hX h w1 w2 w3 w4 w5 w6 w7 w8 o1 o2 o3 o4 o5 o6 o7 o8; simp only [gT.cs, pcs, upd]; first | (simp_all; done) | (simp_all; omega) | (repeat' split) <;> first | (simp_all; done) | (simp_all; omega) | omega)
          · refine s_aload_n (q := 52) hX dX4_writeBill_51 rfl rfl ?_
            refine s_getr (q := 55) hX dX4_writeBill_52 rfl gfl_4_27 (by assumption) rfl ?_
            refine s_iload_n (q := 56) hX dX4_writeBill_55 rfl rfl ?_
            refine s_dup2 (q := 57) hX dX4_writeBill_56 rfl rfl rfl ?_
            refine s_iald (k := 2) (q := 58) hX dX4_writeBill_57 rfl (by assumption) rfl (by omega) (by omega) ?_
            refine s_topi (v := nI (T.co (3 * k + 2))) (by rw [gsr_s]; exact g2) ?_
            refine s_iconst (q := 59) (v := 1) hX dX4_writeBill_58 rfl rfl ?_
            refine s_isub (q := 60) (v := nI (T.co (3 * k + 2) - 1)) hX dX4_writeBill_59 rfl (pk_sub (a := T.co (3 * k + 2)) (b := 1) (by omega)) ?_
            refine s_iast (k := 2) (q := 61) hX dX4_writeBill_60 rfl (by assumption) rfl (by omega) (by omega) ?_
            refine s_ret hX dX4_writeBill_61 rfl ⟨Nat.le_refl _, Nat.le_refl _, Nat.le_refl _, ?_⟩
            rw [gsr_gsr, gsr_s]
            refine h _ (fun s hs => co_3 (P := fun s => upd g _ _ s = nI (T.cs i k s)) ?_ ?_ ?_ hs) <;> (clear hX h w1 w2 w3 w4 w5 w6 w7 w8 o1 o2 o3 o4 o5 o6 o7 o8; simp only [gT.cs, pcs, upd]; first | (simp_all; done) | (simp_all; omega) | (repeat' split) <;> first | (simp_all; done) | (simp_all; omega) | omega)
        · refine s_aload_n (q := 52) hX dX4_writeBill_51 rfl rfl ?_
          refine s_getr (q := 55) hX dX4_writeBill_52 rfl gfl_4_27 (by assumption) rfl ?_
          refine s_iload_n (q := 56) hX dX4_writeBill_55 rfl rfl ?_
          refine s_dup2 (q := 57) hX dX4_writeBill_56 rfl rfl rfl ?_
          refine s_iald (k := 1) (q := 58) hX dX4_writeBill_57 rfl (by assumption) rfl (by omega) (by omega) ?_
          refine s_topi (v := nI (T.co (3 * k + 1))) (by rw [gsr_s]; exact g1) ?_
          refine s_iconst (q := 59) (v := 1) hX dX4_writeBill_58 rfl rfl ?_
          refine s_isub (q := 60) (v := nI (T.co (3 * k + 1) - 1)) hX dX4_writeBill_59 rfl (pk_sub (a := T.co (3 * k + 1)) (b := 1) (by omega)) ?_
          refine s_iast (k := 1) (q := 61) hX dX4_writeBill_60 rfl (by assumption) rfl (by omega) (by omega) ?_
          refine s_ret hX dX4_writeBill_61 rfl ⟨Nat.le_refl _, Nat.le_refl _, Nat.le_refl _, ?_⟩
          rw [gsr_gsr, gsr_s]
          refine h _ (fun s hs => co_3 (P := fun s => upd g _ _ s = nI (T.cs i k s)) ?_ ?_ ?_ hs) <;> (clear hX h w1 w2 w3 w4 w5 w6 w7 w8 o1 o2 o3 o4 o5 o6 o7 o8; simp only [gT.cs, pcs, upd]; first | (simp_all; done) | (simp_all; omega) | (repeat' split) <;> first | (simp_all; done) | (simp_all; omega) | omega)
      · refine s_aload_n (q := 52) hX dX4_writeBill_51 rfl rfl ?_
        refine s_getr (q := 55) hX dX4_writeBill_52 rfl gfl_4_27 (by assumption) rfl ?_
        refine s_iload_n (q := 56) hX dX4_writeBill_55 rfl rfl ?_
        refine s_dup2 (q := 57) hX dX4_writeBill_56 rfl rfl rfl ?_
        refine s_iald (k := 0) (q := 58) hX dX4_writeBill_57 rfl (by assumption) rfl (by omega) (by omega) ?_
        refine s_topi (v := nI (T.co (3 * k + 0))) (by rw [gsr_s]; exact g0) ?_
        refine s_iconst (q := 59) (v := 1) hX dX4_writeBill_58 rfl rfl ?_
        refine s_isub (q := 60) (v := nI (T.co (3 * k + 0) - 1)) hX dX4_writeBill_59 rfl (pk_sub (a := T.co (3 * k + 0)) (b := 1) (by omega)) ?_
        refine s_iast (k := 0) (q := 61) hX dX4_writeBill_60 rfl (by assumption) rfl (by omega) (by omega) ?_
        refine s_ret hX dX4_writeBill_61 rfl ⟨Nat.le_refl _, Nat.le_refl _, Nat.le_refl _, ?_⟩
        rw [gsr_gsr, gsr_s]
        refine h _ (fun s hs => co_3 (P := fun s => upd g _ _ s = nI (T.cs i k s)) ?_ ?_ ?_ hs) <;> (clear hX h w1 w2 w3 w4 w5 w6 w7 w8 o1 o2 o3 o4 o5 o6 o7 o8; simp only [gT.cs, pcs, upd]; first | (simp_all; done) | (simp_all; omega) | (repeat' split) <;> first | (simp_all; done) | (simp_all; omega) | omega)
    · refine s_ret hX dX4_writeBill_34 rfl ⟨Nat.le_refl _, Nat.le_refl _, Nat.le_refl _, ?_⟩
      refine h g (fun s hs => co_3 (P := fun s => g s = nI (T.cs i k s)) ?_ ?_ ?_ hs) <;> (clear hX h w1 w2 w3 w4 w5 w6 w7 w8 o1 o2 o3 o4 o5 o6 o7 o8; simp only [gT.cs, pcs, upd]; first | (simp_all; done) | (simp_all; omega) | (repeat' split) <;> first | (simp_all; done) | (simp_all; omega) | omega)
def pay3 (f b : Nat → Int32) (a : Nat) : Nat → Int32 := fun j => if j = a then f a - b 0 else if j = a + 1 then f (a + 1) - b 1 else if j = a + 2 then f (a + 2) - b 2 else f j
set_option maxHeartbeats 4000000 in
set_option maxRecDepth 100000 in
theorem c_pay {d t f a n : Nat} {sh : List gS} {M : gM} {Q : Option Value → List gS → gM → Prop} (hT : isTown sh t) (hf : sh[f]? = some (.inr (.inl (0, n)))) (hn : n ≤ 1000) (ha : a + 3 ≤ n) (hft : f ≠ t + 6) (h : Q none sh (gsr M f (pay3 (M f) (M (t + 6)) a))) : gC mX4_pay d 0 0 [.ref t, .ref f, .int (nI a)] sh M Q := by
  obtain ⟨z0, z1, z2, z3, z4, z5, z6⟩ := hT
  refine gC_of (rt := 0) (ini := false) gm_X4_pay rfl (by decide) (Nat.le_of_ble_eq_true rfl) (fun X hX => ?_)
  refine s_iconst (q := 1) (v := 0) hX dX4_pay_0 rfl rfl ?_
  refine s_istore_n (q := 2) (lv' := [(0, _), (1, _), (2, _), (3, _)]) hX dX4_pay_1 rfl (Nat.le_of_ble_eq_true rfl) rfl ?_
  refine s_iload_n (q := 3) hX dX4_pay_2 rfl rfl ?_
  refine s_iconst (q := 4) (v := 3) hX dX4_pay_3 rfl rfl ?_
  refine s_icmp_ge_f (q := 7) (r := 27) hX dX4_pay_4 rfl rfl (by decide) ?_
  refine s_aload_n (q := 8) hX dX4_pay_7 rfl rfl ?_
  refine s_iload_n (q := 9) hX dX4_pay_8 rfl rfl ?_
  refine s_iload_n (q := 10) hX dX4_pay_9 rfl rfl ?_
  refine s_iadd (q := 11) (v := nI (a + 0)) hX dX4_pay_10 rfl (nI_add (a) (0)) ?_
  refine s_dup2 (q := 12) hX dX4_pay_11 rfl rfl rfl ?_
  refine s_iald (k := a + 0) (q := 13) hX dX4_pay_12 rfl (by assumption) rfl (by omega) (by omega) ?_
  refine s_aload_n (q := 14) hX dX4_pay_13 rfl rfl ?_
  refine s_getr (q := 17) hX dX4_pay_14 rfl gfl_4_27 (by assumption) rfl ?_
  refine s_iload_n (q := 18) hX dX4_pay_17 rfl rfl ?_
  refine s_iald (k := 0) (q := 19) hX dX4_pay_18 rfl (by assumption) rfl (by omega) (by omega) ?_
  refine s_isub (q := 20) hX dX4_pay_19 rfl rfl ?_
  refine s_iast (k := a + 0) (q := 21) hX dX4_pay_20 rfl (by assumption) rfl (by omega) (by omega) ?_
  refine s_iinc (q := 24) (v := 1) (lv' := [(0, _), (1, _), (2, _), (3, _)]) hX dX4_pay_21 rfl rfl (by decide) (Nat.le_of_ble_eq_true rfl) rfl ?_
  refine s_goto (q := 2) hX dX4_pay_24 rfl ?_
  refine s_iload_n (q := 3) hX dX4_pay_2 rfl rfl ?_
  refine s_iconst (q := 4) (v := 3) hX dX4_pay_3 rfl rfl ?_
  refine s_icmp_ge_f (q := 7) (r := 27) hX dX4_pay_4 rfl rfl (by decide) ?_
  refine s_aload_n (q := 8) hX dX4_pay_7 rfl rfl ?_
  refine s_iload_n (q := 9) hX dX4_pay_8 rfl rfl ?_
  refine s_iload_n (q := 10) hX dX4_pay_9 rfl rfl ?_
  refine s_iadd (q := 11) (v := nI (a + 1)) hX dX4_pay_10 rfl (nI_add (a) (1)) ?_
  refine s_dup2 (q := 12) hX dX4_pay_11 rfl rfl rfl ?_
  refine s_iald (k := a + 1) (q := 13) hX dX4_pay_12 rfl (by assumption) rfl (by omega) (by omega) ?_
  refine s_aload_n (q := 14) hX dX4_pay_13 rfl rfl ?_
  refine s_getr (q := 17) hX dX4_pay_14 rfl gfl_4_27 (by assumption) rfl ?_
  refine s_iload_n (q := 18) hX dX4_pay_17 rfl rfl ?_
  refine s_iald (k := 1) (q := 19) hX dX4_pay_18 rfl (by assumption) rfl (by omega) (by omega) ?_
  refine s_isub (q := 20) hX dX4_pay_19 rfl rfl ?_
  refine s_iast (k := a + 1) (q := 21) hX dX4_pay_20 rfl (by assumption) rfl (by omega) (by omega) ?_
  refine s_iinc (q := 24) (v := 2) (lv' := [(0, _), (1, _), (2, _), (3, _)]) hX dX4_pay_21 rfl rfl (by decide) (Nat.le_of_ble_eq_true rfl) rfl ?_
  refine s_goto (q := 2) hX dX4_pay_24 rfl ?_
  refine s_iload_n (q := 3) hX dX4_pay_2 rfl rfl ?_
  refine s_iconst (q := 4) (v := 3) hX dX4_pay_3 rfl rfl ?_
  refine s_icmp_ge_f (q := 7) (r := 27) hX dX4_pay_4 rfl rfl (by decide) ?_
  refine s_aload_n (q := 8) hX dX4_pay_7 rfl rfl ?_
  refine s_iload_n (q := 9) hX dX4_pay_8 rfl rfl ?_
  refine s_iload_n (q := 10) hX dX4_pay_9 rfl rfl ?_
  refine s_iadd (q := 11) (v := nI (a + 2)) hX dX4_pay_10 rfl (nI_add (a) (2)) ?_
  refine s_dup2 (q := 12) hX dX4_pay_11 rfl rfl rfl ?_
  refine s_iald (k := a + 2) (q := 13) hX dX4_pay_12 rfl (by assumption) rfl (by omega) (by omega) ?_
  refine s_aload_n (q := 14) hX dX4_pay_13 rfl rfl ?_
  refine s_getr (q := 17) hX dX4_pay_14 rfl gfl_4_27 (by assumption) rfl ?_
  refine s_iload_n (q := 18) hX dX4_pay_17 rfl rfl ?_
  refine s_iald (k := 2) (q := 19) hX dX4_pay_18 rfl (by assumption) rfl (by omega) (by omega) ?_
  refine s_isub (q := 20) hX dX4_pay_19 rfl rfl ?_
  refine s_iast (k := a + 2) (q := 21) hX dX4_pay_20 rfl (by assumption) rfl (by omega) (by omega) ?_
  refine s_iinc (q := 24) (v := 3) (lv' := [(0, _), (1, _), (2, _), (3, _)]) hX dX4_pay_21 rfl rfl (by decide) (Nat.le_of_ble_eq_true rfl) rfl ?_
  refine s_goto (q := 2) hX dX4_pay_24 rfl ?_
  refine s_iload_n (q := 3) hX dX4_pay_2 rfl rfl ?_
  refine s_iconst (q := 4) (v := 3) hX dX4_pay_3 rfl rfl ?_
  refine s_icmp_ge_t (q := 7) (r := 27) hX dX4_pay_4 rfl rfl (by decide) ?_
  refine s_ret hX dX4_pay_27 rfl ⟨Nat.le_refl _, Nat.le_refl _, Nat.le_refl _, ?_⟩
  refine gqe h ?_
  simp only [gsr_gsr, gsr_s, gsr_n _ _ (Ne.symm hft)]
  congr 1
  funext j
  simp only [upd, pay3, Nat.add_zero]
  by_cases e0 : j = a
  · subst e0; simp
  · by_cases e1 : j = a + 1
    · subst e1; simp
    · by_cases e2 : j = a + 2
      · subst e2; simp
      · simp [e0, e1, e2]
set_option maxHeartbeats 4000000 in
set_option maxRecDepth 100000 in
theorem c_tfade {d t i f a n x : Nat} {T : gT} {sh : List gS} {M : gM} {Q : Option Value → List gS → gM → Prop} (hT : isTown sh t) (hW : TWN M t T) (hok : T.ok) (hi : i < T.P) (hf : sh[f]? = some (.inr (.inl (0, n)))) (hn : n ≤ 1000) (ha : a + 3 ≤ n) (hx : M f (a + 2) = nI x) (hx9 : x < 1000) (h : Q none sh (if T.kd i = 2 ∧ 0 < x then gsr M f (upd (M f) (a + 2) (nI (x - 1))) else M)) : gC mX4_fade d 0 0 [.ref t, .int (nI i), .ref f, .int (nI a)] sh M Q := by
  obtain ⟨z0, z1, z2, z3, z4, z5, z6⟩ := hT
  obtain ⟨w1, w2, w3, w4, w5, w6, w7, w8⟩ := hW
  obtain ⟨o1, o2, o3, o4, o5, o6, o7, o8⟩ := hok
  have hkd := w4 i hi
  have bkd := o4 i hi
  refine gC_of (rt := 0) (ini := false) gm_X4_fade rfl (by decide) (Nat.le_of_ble_eq_true rfl) (fun X hX => ?_)
  refine s_aload_n (q := 1) hX dX4_fade_0 rfl rfl ?_
  refine s_getr (q := 4) hX dX4_fade_1 rfl gfl_4_9 (by assumption) rfl ?_
  refine s_iload_n (q := 5) hX dX4_fade_4 rfl rfl ?_
  refine s_iald (k := i) (q := 6) hX dX4_fade_5 rfl (by assumption) rfl (by omega) (by omega) ?_
  refine s_topi (v := nI (T.kd i)) hkd ?_
  refine s_iconst (q := 7) (v := 2) hX dX4_fade_6 rfl rfl ?_
  refine s_nicmp_ne (a := T.kd i) (b := 2) (q := 10) (r := 27) hX dX4_fade_7 rfl rfl rfl rfl (by omega) (by omega) (fun c7 => ?_) (fun c7 => ?_)
  · refine s_ret hX dX4_fade_27 rfl ⟨Nat.le_refl _, Nat.le_refl _, Nat.le_refl _, ?_⟩
    refine gqe h ?_
    first | rw [if_pos ⟨by omega, by omega⟩] | rw [if_neg (by omega)]
  · refine s_aload_n (q := 11) hX dX4_fade_10 rfl rfl ?_
    refine s_iload_n (q := 12) hX dX4_fade_11 rfl rfl ?_
    refine s_iconst (q := 13) (v := 2) hX dX4_fade_12 rfl rfl ?_
    refine s_iadd (q := 14) (v := nI (a + 2)) hX dX4_fade_13 rfl (nI_add (a) (2)) ?_
    refine s_iald (k := a + 2) (q := 15) hX dX4_fade_14 rfl (by assumption) rfl (by omega) (by omega) ?_
    refine s_topi (v := nI (x)) hx ?_
    refine s_nif_le (a := x) (b := 0) (q := 18) (r := 27) hX dX4_fade_15 rfl rfl rfl rfl (by omega) (by omega) (fun c15 => ?_) (fun c15 => ?_)
    · refine s_ret hX dX4_fade_27 rfl ⟨Nat.le_refl _, Nat.le_refl _, Nat.le_refl _, ?_⟩
      refine gqe h ?_
      first | rw [if_pos ⟨by omega, by omega⟩] | rw [if_neg (by omega)]
    · refine s_aload_n (q := 19) hX dX4_fade_18 rfl rfl ?_
      refine s_iload_n (q := 20) hX dX4_fade_19 rfl rfl ?_
      refine s_iconst (q := 21) (v := 2) hX dX4_fade_20 rfl rfl ?_
      refine s_iadd (q := 22) (v := nI (a + 2)) hX dX4_fade_21 rfl (nI_add (a) (2)) ?_
      refine s_dup2 (q := 23) hX dX4_fade_22 rfl rfl rfl ?_
      refine s_iald (k := a + 2) (q := 24) hX dX4_fade_23 rfl (by assumption) rfl (by omega) (by omega) ?_
      refine s_topi (v := nI (x)) hx ?_
      refine s_iconst (q := 25) (v := 1) hX dX4_fade_24 rfl rfl ?_
      refine s_isub (q := 26) (v := nI (x - 1)) hX dX4_fade_25 rfl (pk_sub (a := x) (b := 1) (by omega)) ?_
      refine s_iast (k := a + 2) (q := 27) hX dX4_fade_26 rfl (by assumption) rfl (by omega) (by omega) ?_
      refine s_ret hX dX4_fade_27 rfl ⟨Nat.le_refl _, Nat.le_refl _, Nat.le_refl _, ?_⟩
      refine gqe h ?_
      first | rw [if_pos ⟨by omega, by omega⟩] | rw [if_neg (by omega)]
theorem gsub_lt {a b c e : Nat} (h1 : a < 1000) (h2 : b ≤ a) (h3 : c < 1000) (h4 : e ≤ c) : nI a - nI b ≤ nI c - nI e ↔ a - b ≤ c - e := by
  rw [pk_sub h2, pk_sub h4]; exact nI_leI (by omega) (by omega)
set_option maxHeartbeats 4000000 in
set_option maxRecDepth 100000 in
theorem c_mix {d t f a n sc : Nat} {c h : Nat → Nat} {sh : List gS} {M : gM} {Q : Option Value → List gS → gM → Prop} (hT : isTown sh t) (hf : sh[f]? = some (.inr (.inl (0, n)))) (hn : n ≤ 1000) (ha : a + 3 ≤ n) (hft : f ≠ t + 6) (hsc : sc < 3) (hb : ∀ s, s < 3 → M (t + 6) s = nI (c s)) (hh : ∀ s, s < 3 → M f (a + s) = nI (h s)) (hl : ∀ s, s < 3 → h s < 1000) (hc : ∀ s, s < 3 → c s = if s = sc then h s + 1 else c s) (hle : ∀ s, s < 3 → s ≠ sc → c s ≤ h s) (hcon : ∀ g, (2 ≤ h (rich (mnc c h) h) - mnc c h (rich (mnc c h) h) → ∀ s, s < 3 → g s = nI (if s = rich (mnc c h) h then mnc c h s + 2 else mnc c h s)) → Q (some (.int (if 2 ≤ h (rich (mnc c h) h) - mnc c h (rich (mnc c h) h) then 1 else 0))) sh (gsr M (t + 6) g)) : gC mX4_mix d 0 0 [.ref t, .ref f, .int (nI a), .int (nI sc)] sh M Q := by
  obtain ⟨z0, z1, z2, z3, z4, z5, z6⟩ := hT
  have hm : ∀ s, s < 3 → mnc c h s = if s = sc then c s - 1 else c s := by
    intro s hs
    have := hc s hs
    have := hle s hs
    unfold mnc
    by_cases e : s = sc
    · rw [if_pos e] at *; rw [if_pos (by omega)]; omega
    · rw [if_neg e]; rw [if_neg (by have := hle s hs e; omega)]
  have hmle : ∀ s, s < 3 → mnc c h s ≤ h s := by
    intro s hs
    unfold mnc
    split <;> omega
  generalize hmm : mnc c h = m at *
  refine gC_of (rt := 2) (ini := false) gm_X4_mix rfl (by decide) (Nat.le_of_ble_eq_true rfl) (fun X hX => ?_)
  have hg : ∀ s, s < 3 → upd (M (t + 6)) sc (nI (c sc) - 1) s = nI (m s) := by
    intro s hs
    rw [hm s hs]
    by_cases e : s = sc
    · subst e
      have := hc s hs
      rw [if_pos rfl] at this
      rw [if_pos rfl]
      show (if s = s then _ else _) = _
      rw [if_pos rfl]
      exact pk_sub (a := c s) (b := 1) (by omega)
    · rw [if_neg e]
      show (if s = sc then _ else _) = _
      rw [if_neg e]
      exact hb s hs
  have l0 := hl 0 (by omega)
  have l1 := hl 1 (by omega)
  have l2 := hl 2 (by omega)
  have m0 := hmle 0 (by omega)
  have m1 := hmle 1 (by omega)
  have m2 := hmle 2 (by omega)
  refine s_aload_n (q := 1) hX dX4_mix_0 rfl rfl ?_
  refine s_getr (q := 4) hX dX4_mix_1 rfl gfl_4_27 (by assumption) rfl ?_
  refine s_iload_n (q := 5) hX dX4_mix_4 rfl rfl ?_
  refine s_dup2 (q := 6) hX dX4_mix_5 rfl rfl rfl ?_
  refine s_iald (k := sc) (q := 7) hX dX4_mix_6 rfl (by assumption) rfl (by omega) (by omega) ?_
  refine s_topi (v := nI (c sc)) (hb sc hsc) ?_
  refine s_iconst (q := 8) (v := 1) hX dX4_mix_7 rfl rfl ?_
  refine s_isub (q := 9) hX dX4_mix_8 rfl rfl ?_
  refine s_iast (k := sc) (q := 10) hX dX4_mix_9 rfl (by assumption) rfl (by omega) (by omega) ?_
  generalize upd (M (t + 6)) sc (nI (c sc) - 1) = g at hg ⊢
  refine s_iconst (q := 11) (v := 0) hX dX4_mix_10 rfl rfl ?_
  refine s_istore (q := 13) (lv' := [(0, _), (1, _), (2, _), (3, _), (4, _)]) hX dX4_mix_11 rfl (Nat.le_of_ble_eq_true rfl) rfl ?_
  refine s_iconst (q := 14) (v := 1) hX dX4_mix_13 rfl rfl ?_
  refine s_istore (q := 16) (lv' := [(0, _), (1, _), (2, _), (3, _), (4, _), (5, _)]) hX dX4_mix_14 rfl (Nat.le_of_ble_eq_true rfl) rfl ?_
  refine s_iload (q := 18) hX dX4_mix_16 rfl rfl ?_
  refine s_iconst (q := 19) (v := 3) hX dX4_mix_18 rfl rfl ?_
  refine s_icmp_ge_f (q := 22) (r := 63) hX dX4_mix_19 rfl rfl (by decide) ?_
  refine s_aload_n (q := 23) hX dX4_mix_22 rfl rfl ?_
  refine s_iload_n (q := 24) hX dX4_mix_23 rfl rfl ?_
  refine s_iload (q := 26) hX dX4_mix_24 rfl rfl ?_
  refine s_iadd (q := 27) (v := nI (a + 1)) hX dX4_mix_26 rfl (nI_add (a) (1)) ?_
  refine s_iald (k := a + 1) (q := 28) hX dX4_mix_27 rfl (by assumption) rfl (by omega) (by omega) ?_
  refine s_topi (v := nI (h 1)) (by rw [gsr_n _ _ hft]; exact hh 1 (by omega)) ?_
  refine s_aload_n (q := 29) hX dX4_mix_28 rfl rfl ?_
  refine s_getr (q := 32) hX dX4_mix_29 rfl gfl_4_27 (by assumption) rfl ?_
  refine s_iload (q := 34) hX dX4_mix_32 rfl rfl ?_
  refine s_iald (k := 1) (q := 35) hX dX4_mix_34 rfl (by assumption) rfl (by omega) (by omega) ?_
  refine s_topi (v := nI (m 1)) (by rw [gsr_s]; exact hg 1 (by omega)) ?_
  refine s_isub (q := 36) (v := nI (h 1 - m 1)) hX dX4_mix_35 rfl (pk_sub (by omega)) ?_
  refine s_aload_n (q := 37) hX dX4_mix_36 rfl rfl ?_
  refine s_iload_n (q := 38) hX dX4_mix_37 rfl rfl ?_
  refine s_iload (q := 40) hX dX4_mix_38 rfl rfl ?_
  refine s_iadd (q := 41) (v := nI (a + 0)) hX dX4_mix_40 rfl (nI_add (a) (0)) ?_
  refine s_iald (k := a + 0) (q := 42) hX dX4_mix_41 rfl (by assumption) rfl (by omega) (by omega) ?_
  refine s_topi (v := nI (h 0)) (by rw [gsr_n _ _ hft]; exact hh 0 (by omega)) ?_
  refine s_aload_n (q := 43) hX dX4_mix_42 rfl rfl ?_
  refine s_getr (q := 46) hX dX4_mix_43 rfl gfl_4_27 (by assumption) rfl ?_
  refine s_iload (q := 48) hX dX4_mix_46 rfl rfl ?_
  refine s_iald (k := 0) (q := 49) hX dX4_mix_48 rfl (by assumption) rfl (by omega) (by omega) ?_
  refine s_topi (v := nI (m 0)) (by rw [gsr_s]; exact hg 0 (by omega)) ?_
  refine s_isub (q := 50) (v := nI (h 0 - m 0)) hX dX4_mix_49 rfl (pk_sub (by omega)) ?_
  refine s_nicmp_le (a := h 1 - m 1) (b := h 0 - m 0) (q := 53) (r := 57) hX dX4_mix_50 rfl rfl rfl rfl (by omega) (by omega) (fun c50 => ?_) (fun c50 => ?_)
  · refine s_iinc (q := 60) (v := 2) (lv' := [(0, _), (1, _), (2, _), (3, _), (4, _), (5, _)]) hX dX4_mix_57 rfl rfl (by decide) (Nat.le_of_ble_eq_true rfl) rfl ?_
    refine s_goto (q := 16) hX dX4_mix_60 rfl ?_
    refine s_iload (q := 18) hX dX4_mix_16 rfl rfl ?_
    refine s_iconst (q := 19) (v := 3) hX dX4_mix_18 rfl rfl ?_
    refine s_icmp_ge_f (q := 22) (r := 63) hX dX4_mix_19 rfl rfl (by decide) ?_
    refine s_aload_n (q := 23) hX dX4_mix_22 rfl rfl ?_
    refine s_iload_n (q := 24) hX dX4_mix_23 rfl rfl ?_
    refine s_iload (q := 26) hX dX4_mix_24 rfl rfl ?_
    refine s_iadd (q := 27) (v := nI (a + 2)) hX dX4_mix_26 rfl (nI_add (a) (2)) ?_
    refine s_iald (k := a + 2) (q := 28) hX dX4_mix_27 rfl (by assumption) rfl (by omega) (by omega) ?_
    refine s_topi (v := nI (h 2)) (by rw [gsr_n _ _ hft]; exact hh 2 (by omega)) ?_
    refine s_aload_n (q := 29) hX dX4_mix_28 rfl rfl ?_
    refine s_getr (q := 32) hX dX4_mix_29 rfl gfl_4_27 (by assumption) rfl ?_
    refine s_iload (q := 34) hX dX4_mix_32 rfl rfl ?_
    refine s_iald (k := 2) (q := 35) hX dX4_mix_34 rfl (by assumption) rfl (by omega) (by omega) ?_
    refine s_topi (v := nI (m 2)) (by rw [gsr_s]; exact hg 2 (by omega)) ?_
    refine s_isub (q := 36) (v := nI (h 2 - m 2)) hX dX4_mix_35 rfl (pk_sub (by omega)) ?_
    refine s_aload_n (q := 37) hX dX4_mix_36 rfl rfl ?_
    refine s_iload_n (q := 38) hX dX4_mix_37 rfl rfl ?_
    refine s_iload (q := 40) hX dX4_mix_38 rfl rfl ?_
    refine s_iadd (q := 41) (v := nI (a + 0)) hX dX4_mix_40 rfl (nI_add (a) (0)) ?_
    refine s_iald (k := a + 0) (q := 42) hX dX4_mix_41 rfl (by assumption) rfl (by omega) (by omega) ?_
    refine s_topi (v := nI (h 0)) (by rw [gsr_n _ _ hft]; exact hh 0 (by omega)) ?_
    refine s_aload_n (q := 43) hX dX4_mix_42 rfl rfl ?_
    refine s_getr (q := 46) hX dX4_mix_43 rfl gfl_4_27 (by assumption) rfl ?_
    refine s_iload (q := 48) hX dX4_mix_46 rfl rfl ?_
    refine s_iald (k := 0) (q := 49) hX dX4_mix_48 rfl (by assumption) rfl (by omega) (by omega) ?_
    refine s_topi (v := nI (m 0)) (by rw [gsr_s]; exact hg 0 (by omega)) ?_
    refine s_isub (q := 50) (v := nI (h 0 - m 0)) hX dX4_mix_49 rfl (pk_sub (by omega)) ?_
    refine s_nicmp_le (a := h 2 - m 2) (b := h 0 - m 0) (q := 53) (r := 57) hX dX4_mix_50 rfl rfl rfl rfl (by omega) (by omega) (fun c50_1 => ?_) (fun c50_1 => ?_)
    · refine s_iinc (q := 60) (v := 3) (lv' := [(0, _), (1, _), (2, _), (3, _), (4, _), (5, _)]) hX dX4_mix_57 rfl rfl (by decide) (Nat.le_of_ble_eq_true rfl) rfl ?_
      refine s_goto (q := 16) hX dX4_mix_60 rfl ?_
      refine s_iload (q := 18) hX dX4_mix_16 rfl rfl ?_
      refine s_iconst (q := 19) (v := 3) hX dX4_mix_18 rfl rfl ?_
      refine s_icmp_ge_t (q := 22) (r := 63) hX dX4_mix_19 rfl rfl (by decide) ?_
      refine s_aload_n (q := 64) hX dX4_mix_63 rfl rfl ?_
      refine s_iload_n (q := 65) hX dX4_mix_64 rfl rfl ?_
      refine s_iload (q := 67) hX dX4_mix_65 rfl rfl ?_
      refine s_iadd (q := 68) (v := nI (a + 0)) hX dX4_mix_67 rfl (nI_add (a) (0)) ?_
      refine s_iald (k := a + 0) (q := 69) hX dX4_mix_68 rfl (by assumption) rfl (by omega) (by omega) ?_
      refine s_topi (v := nI (h 0)) (by rw [gsr_n _ _ hft]; exact hh 0 (by omega)) ?_
      refine s_aload_n (q := 70) hX dX4_mix_69 rfl rfl ?_
      refine s_getr (q := 73) hX dX4_mix_70 rfl gfl_4_27 (by assumption) rfl ?_
      refine s_iload (q := 75) hX dX4_mix_73 rfl rfl ?_
      refine s_iald (k := 0) (q := 76) hX dX4_mix_75 rfl (by assumption) rfl (by omega) (by omega) ?_
      refine s_topi (v := nI (m 0)) (by rw [gsr_s]; exact hg 0 (by omega)) ?_
      refine s_isub (q := 77) (v := nI (h 0 - m 0)) hX dX4_mix_76 rfl (pk_sub (by omega)) ?_
      refine s_iconst (q := 78) (v := 2) hX dX4_mix_77 rfl rfl ?_
      refine s_nicmp_ge (a := h 0 - m 0) (b := 2) (q := 81) (r := 83) hX dX4_mix_78 rfl rfl rfl rfl (by omega) (by omega) (fun c78 => ?_) (fun c78 => ?_)
      · refine s_aload_n (q := 84) hX dX4_mix_83 rfl rfl ?_
        refine s_getr (q := 87) hX dX4_mix_84 rfl gfl_4_27 (by assumption) rfl ?_
        refine s_iload (q := 89) hX dX4_mix_87 rfl rfl ?_
        refine s_dup2 (q := 90) hX dX4_mix_89 rfl rfl rfl ?_
        refine s_iald (k := 0) (q := 91) hX dX4_mix_90 rfl (by assumption) rfl (by omega) (by omega) ?_
        refine s_topi (v := nI (m 0)) (by rw [gsr_s]; exact hg 0 (by omega)) ?_
        refine s_iconst (q := 92) (v := 2) hX dX4_mix_91 rfl rfl ?_
        refine s_iadd (q := 93) (v := nI (m 0 + 2)) hX dX4_mix_92 rfl (nI_add (m 0) (2)) ?_
        refine s_iast (k := 0) (q := 94) hX dX4_mix_93 rfl (by assumption) rfl (by omega) (by omega) ?_
        refine s_iconst (q := 95) (v := 1) hX dX4_mix_94 rfl rfl ?_
        refine s_iret hX dX4_mix_95 (Or.inr ⟨rfl, Or.inr rfl⟩) ⟨Nat.le_refl _, Nat.le_refl _, Nat.le_refl _, ?_⟩
        have hr : rich m h = 0 := by unfold rich; (repeat' split) <;> omega
        rw [gsr_gsr, gsr_s]
        refine gqv (hcon _ (fun z s hs => ?_)) ?_ rfl
        · rw [hr]
          show (if s = 0 then _ else _) = _
          by_cases e : s = 0
          · subst e; rw [if_pos rfl, if_pos rfl]
          · rw [if_neg e, if_neg e]; exact hg s hs
        · rw [hr, if_pos (by omega)]
      · refine s_iconst (q := 82) (v := 0) hX dX4_mix_81 rfl rfl ?_
        refine s_iret hX dX4_mix_82 (Or.inr ⟨rfl, Or.inl rfl⟩) ⟨Nat.le_refl _, Nat.le_refl _, Nat.le_refl _, ?_⟩
        have hr : rich m h = 0 := by unfold rich; (repeat' split) <;> omega
        refine gqv (hcon g (fun z => ?_)) ?_ rfl
        · rw [hr] at z; omega
        · rw [hr, if_neg (by omega)]
    · refine s_iload (q := 55) hX dX4_mix_53 rfl rfl ?_
      refine s_istore (q := 57) (lv' := [(0, _), (1, _), (2, _), (3, _), (4, _), (5, _)]) hX dX4_mix_55 rfl (Nat.le_of_ble_eq_true rfl) rfl ?_
      refine s_iinc (q := 60) (v := 3) (lv' := [(0, _), (1, _), (2, _), (3, _), (4, _), (5, _)]) hX dX4_mix_57 rfl rfl (by decide) (Nat.le_of_ble_eq_true rfl) rfl ?_
      refine s_goto (q := 16) hX dX4_mix_60 rfl ?_
      refine s_iload (q := 18) hX dX4_mix_16 rfl rfl ?_
      refine s_iconst (q := 19) (v := 3) hX dX4_mix_18 rfl rfl ?_
      refine s_icmp_ge_t (q := 22) (r := 63) hX dX4_mix_19 rfl rfl (by decide) ?_
      refine s_aload_n (q := 64) hX dX4_mix_63 rfl rfl ?_
      refine s_iload_n (q := 65) hX dX4_mix_64 rfl rfl ?_
      refine s_iload (q := 67) hX dX4_mix_65 rfl rfl ?_
      refine s_iadd (q := 68) (v := nI (a + 2)) hX dX4_mix_67 rfl (nI_add (a) (2)) ?_
      refine s_iald (k := a + 2) (q := 69) hX dX4_mix_68 rfl (by assumption) rfl (by omega) (by omega) ?_
      refine s_topi (v := nI (h 2)) (by rw [gsr_n _ _ hft]; exact hh 2 (by omega)) ?_
      refine s_aload_n (q := 70) hX dX4_mix_69 rfl rfl ?_
      refine s_getr (q := 73) hX dX4_mix_70 rfl gfl_4_27 (by assumption) rfl ?_
      refine s_iload (q := 75) hX dX4_mix_73 rfl rfl ?_
      refine s_iald (k := 2) (q := 76) hX dX4_mix_75 rfl (by assumption) rfl (by omega) (by omega) ?_
      refine s_topi (v := nI (m 2)) (by rw [gsr_s]; exact hg 2 (by omega)) ?_
      refine s_isub (q := 77) (v := nI (h 2 - m 2)) hX dX4_mix_76 rfl (pk_sub (by omega)) ?_
      refine s_iconst (q := 78) (v := 2) hX dX4_mix_77 rfl rfl ?_
      refine s_nicmp_ge (a := h 2 - m 2) (b := 2) (q := 81) (r := 83) hX dX4_mix_78 rfl rfl rfl rfl (by omega) (by omega) (fun c78_1 => ?_) (fun c78_1 => ?_)
      · refine s_aload_n (q := 84) hX dX4_mix_83 rfl rfl ?_
        refine s_getr (q := 87) hX dX4_mix_84 rfl gfl_4_27 (by assumption) rfl ?_
        refine s_iload (q := 89) hX dX4_mix_87 rfl rfl ?_
        refine s_dup2 (q := 90) hX dX4_mix_89 rfl rfl rfl ?_
        refine s_iald (k := 2) (q := 91) hX dX4_mix_90 rfl (by assumption) rfl (by omega) (by omega) ?_
        refine s_topi (v := nI (m 2)) (by rw [gsr_s]; exact hg 2 (by omega)) ?_
        refine s_iconst (q := 92) (v := 2) hX dX4_mix_91 rfl rfl ?_
        refine s_iadd (q := 93) (v := nI (m 2 + 2)) hX dX4_mix_92 rfl (nI_add (m 2) (2)) ?_
        refine s_iast (k := 2) (q := 94) hX dX4_mix_93 rfl (by assumption) rfl (by omega) (by omega) ?_
        refine s_iconst (q := 95) (v := 1) hX dX4_mix_94 rfl rfl ?_
        refine s_iret hX dX4_mix_95 (Or.inr ⟨rfl, Or.inr rfl⟩) ⟨Nat.le_refl _, Nat.le_refl _, Nat.le_refl _, ?_⟩
        have hr : rich m h = 2 := by unfold rich; (repeat' split) <;> omega
        rw [gsr_gsr, gsr_s]
        refine gqv (hcon _ (fun z s hs => ?_)) ?_ rfl
        · rw [hr]
          show (if s = 2 then _ else _) = _
          by_cases e : s = 2
          · subst e; rw [if_pos rfl, if_pos rfl]
          · rw [if_neg e, if_neg e]; exact hg s hs
        · rw [hr, if_pos (by omega)]
      · refine s_iconst (q := 82) (v := 0) hX dX4_mix_81 rfl rfl ?_
        refine s_iret hX dX4_mix_82 (Or.inr ⟨rfl, Or.inl rfl⟩) ⟨Nat.le_refl _, Nat.le_refl _, Nat.le_refl _, ?_⟩
        have hr : rich m h = 2 := by unfold rich; (repeat' split) <;> omega
        refine gqv (hcon g (fun z => ?_)) ?_ rfl
        · rw [hr] at z; omega
        · rw [hr, if_neg (by omega)]
  · refine s_iload (q := 55) hX dX4_mix_53 rfl rfl ?_
    refine s_istore (q := 57) (lv' := [(0, _), (1, _), (2, _), (3, _), (4, _), (5, _)]) hX dX4_mix_55 rfl (Nat.le_of_ble_eq_true rfl) rfl ?_
    refine s_iinc (q := 60) (v := 2) (lv' := [(0, _), (1, _), (2, _), (3, _), (4, _), (5, _)]) hX dX4_mix_57 rfl rfl (by decide) (Nat.le_of_ble_eq_true rfl) rfl ?_
    refine s_goto (q := 16) hX dX4_mix_60 rfl ?_
    refine s_iload (q := 18) hX dX4_mix_16 rfl rfl ?_
    refine s_iconst (q := 19) (v := 3) hX dX4_mix_18 rfl rfl ?_
    refine s_icmp_ge_f (q := 22) (r := 63) hX dX4_mix_19 rfl rfl (by decide) ?_
    refine s_aload_n (q := 23) hX dX4_mix_22 rfl rfl ?_
    refine s_iload_n (q := 24) hX dX4_mix_23 rfl rfl ?_
    refine s_iload (q := 26) hX dX4_mix_24 rfl rfl ?_
    refine s_iadd (q := 27) (v := nI (a + 2)) hX dX4_mix_26 rfl (nI_add (a) (2)) ?_
    refine s_iald (k := a + 2) (q := 28) hX dX4_mix_27 rfl (by assumption) rfl (by omega) (by omega) ?_
    refine s_topi (v := nI (h 2)) (by rw [gsr_n _ _ hft]; exact hh 2 (by omega)) ?_
    refine s_aload_n (q := 29) hX dX4_mix_28 rfl rfl ?_
    refine s_getr (q := 32) hX dX4_mix_29 rfl gfl_4_27 (by assumption) rfl ?_
    refine s_iload (q := 34) hX dX4_mix_32 rfl rfl ?_
    refine s_iald (k := 2) (q := 35) hX dX4_mix_34 rfl (by assumption) rfl (by omega) (by omega) ?_
    refine s_topi (v := nI (m 2)) (by rw [gsr_s]; exact hg 2 (by omega)) ?_
    refine s_isub (q := 36) (v := nI (h 2 - m 2)) hX dX4_mix_35 rfl (pk_sub (by omega)) ?_
    refine s_aload_n (q := 37) hX dX4_mix_36 rfl rfl ?_
    refine s_iload_n (q := 38) hX dX4_mix_37 rfl rfl ?_
    refine s_iload (q := 40) hX dX4_mix_38 rfl rfl ?_
    refine s_iadd (q := 41) (v := nI (a + 1)) hX dX4_mix_40 rfl (nI_add (a) (1)) ?_
    refine s_iald (k := a + 1) (q := 42) hX dX4_mix_41 rfl (by assumption) rfl (by omega) (by omega) ?_
    refine s_topi (v := nI (h 1)) (by rw [gsr_n _ _ hft]; exact hh 1 (by omega)) ?_
    refine s_aload_n (q := 43) hX dX4_mix_42 rfl rfl ?_
    refine s_getr (q := 46) hX dX4_mix_43 rfl gfl_4_27 (by assumption) rfl ?_
    refine s_iload (q := 48) hX dX4_mix_46 rfl rfl ?_
    refine s_iald (k := 1) (q := 49) hX dX4_mix_48 rfl (by assumption) rfl (by omega) (by omega) ?_
    refine s_topi (v := nI (m 1)) (by rw [gsr_s]; exact hg 1 (by omega)) ?_
    refine s_isub (q := 50) (v := nI (h 1 - m 1)) hX dX4_mix_49 rfl (pk_sub (by omega)) ?_
    refine s_nicmp_le (a := h 2 - m 2) (b := h 1 - m 1) (q := 53) (r := 57) hX dX4_mix_50 rfl rfl rfl rfl (by omega) (by omega) (fun c50_2 => ?_) (fun c50_2 => ?_)
    · refine s_iinc (q := 60) (v := 3) (lv' := [(0, _), (1, _), (2, _), (3, _), (4, _), (5, _)]) hX dX4_mix_57 rfl rfl (by decide) (Nat.le_of_ble_eq_true rfl) rfl ?_
      refine s_goto (q := 16) hX dX4_mix_60 rfl ?_
      refine s_iload (q := 18) hX dX4_mix_16 rfl rfl ?_
      refine s_iconst (q := 19) (v := 3) hX dX4_mix_18 rfl rfl ?_
      refine s_icmp_ge_t (q := 22) (r := 63) hX dX4_mix_19 rfl rfl (by decide) ?_
      refine s_aload_n (q := 64) hX dX4_mix_63 rfl rfl ?_
      refine s_iload_n (q := 65) hX dX4_mix_64 rfl rfl ?_
      refine s_iload (q := 67) hX dX4_mix_65 rfl rfl ?_
      refine s_iadd (q := 68) (v := nI (a + 1)) hX dX4_mix_67 rfl (nI_add (a) (1)) ?_
      refine s_iald (k := a + 1) (q := 69) hX dX4_mix_68 rfl (by assumption) rfl (by omega) (by omega) ?_
      refine s_topi (v := nI (h 1)) (by rw [gsr_n _ _ hft]; exact hh 1 (by omega)) ?_
      refine s_aload_n (q := 70) hX dX4_mix_69 rfl rfl ?_
      refine s_getr (q := 73) hX dX4_mix_70 rfl gfl_4_27 (by assumption) rfl ?_
      refine s_iload (q := 75) hX dX4_mix_73 rfl rfl ?_
      refine s_iald (k := 1) (q := 76) hX dX4_mix_75 rfl (by assumption) rfl (by omega) (by omega) ?_
      refine s_topi (v := nI (m 1)) (by rw [gsr_s]; exact hg 1 (by omega)) ?_
      refine s_isub (q := 77) (v := nI (h 1 - m 1)) hX dX4_mix_76 rfl (pk_sub (by omega)) ?_
      refine s_iconst (q := 78) (v := 2) hX dX4_mix_77 rfl rfl ?_
      refine s_nicmp_ge (a := h 1 - m 1) (b := 2) (q := 81) (r := 83) hX dX4_mix_78 rfl rfl rfl rfl (by omega) (by omega) (fun c78_2 => ?_) (fun c78_2 => ?_)
      · refine s_aload_n (q := 84) hX dX4_mix_83 rfl rfl ?_
        refine s_getr (q := 87) hX dX4_mix_84 rfl gfl_4_27 (by assumption) rfl ?_
        refine s_iload (q := 89) hX dX4_mix_87 rfl rfl ?_
        refine s_dup2 (q := 90) hX dX4_mix_89 rfl rfl rfl ?_
        refine s_iald (k := 1) (q := 91) hX dX4_mix_90 rfl (by assumption) rfl (by omega) (by omega) ?_
        refine s_topi (v := nI (m 1)) (by rw [gsr_s]; exact hg 1 (by omega)) ?_
        refine s_iconst (q := 92) (v := 2) hX dX4_mix_91 rfl rfl ?_
        refine s_iadd (q := 93) (v := nI (m 1 + 2)) hX dX4_mix_92 rfl (nI_add (m 1) (2)) ?_
        refine s_iast (k := 1) (q := 94) hX dX4_mix_93 rfl (by assumption) rfl (by omega) (by omega) ?_
        refine s_iconst (q := 95) (v := 1) hX dX4_mix_94 rfl rfl ?_
        refine s_iret hX dX4_mix_95 (Or.inr ⟨rfl, Or.inr rfl⟩) ⟨Nat.le_refl _, Nat.le_refl _, Nat.le_refl _, ?_⟩
        have hr : rich m h = 1 := by unfold rich; (repeat' split) <;> omega
        rw [gsr_gsr, gsr_s]
        refine gqv (hcon _ (fun z s hs => ?_)) ?_ rfl
        · rw [hr]
          show (if s = 1 then _ else _) = _
          by_cases e : s = 1
          · subst e; rw [if_pos rfl, if_pos rfl]
          · rw [if_neg e, if_neg e]; exact hg s hs
        · rw [hr, if_pos (by omega)]
      · refine s_iconst (q := 82) (v := 0) hX dX4_mix_81 rfl rfl ?_
        refine s_iret hX dX4_mix_82 (Or.inr ⟨rfl, Or.inl rfl⟩) ⟨Nat.le_refl _, Nat.le_refl _, Nat.le_refl _, ?_⟩
        have hr : rich m h = 1 := by unfold rich; (repeat' split) <;> omega
        refine gqv (hcon g (fun z => ?_)) ?_ rfl
        · rw [hr] at z; omega
        · rw [hr, if_neg (by omega)]
    · refine s_iload (q := 55) hX dX4_mix_53 rfl rfl ?_
      refine s_istore (q := 57) (lv' := [(0, _), (1, _), (2, _), (3, _), (4, _), (5, _)]) hX dX4_mix_55 rfl (Nat.le_of_ble_eq_true rfl) rfl ?_
      refine s_iinc (q := 60) (v := 3) (lv' := [(0, _), (1, _), (2, _), (3, _), (4, _), (5, _)]) hX dX4_mix_57 rfl rfl (by decide) (Nat.le_of_ble_eq_true rfl) rfl ?_
      refine s_goto (q := 16) hX dX4_mix_60 rfl ?_
      refine s_iload (q := 18) hX dX4_mix_16 rfl rfl ?_
      refine s_iconst (q := 19) (v := 3) hX dX4_mix_18 rfl rfl ?_
      refine s_icmp_ge_t (q := 22) (r := 63) hX dX4_mix_19 rfl rfl (by decide) ?_
      refine s_aload_n (q := 64) hX dX4_mix_63 rfl rfl ?_
      refine s_iload_n (q := 65) hX dX4_mix_64 rfl rfl ?_
      refine s_iload (q := 67) hX dX4_mix_65 rfl rfl ?_
      refine s_iadd (q := 68) (v := nI (a + 2)) hX dX4_mix_67 rfl (nI_add (a) (2)) ?_
      refine s_iald (k := a + 2) (q := 69) hX dX4_mix_68 rfl (by assumption) rfl (by omega) (by omega) ?_
      refine s_topi (v := nI (h 2)) (by rw [gsr_n _ _ hft]; exact hh 2 (by omega)) ?_
      refine s_aload_n (q := 70) hX dX4_mix_69 rfl rfl ?_
      refine s_getr (q := 73) hX dX4_mix_70 rfl gfl_4_27 (by assumption) rfl ?_
      refine s_iload (q := 75) hX dX4_mix_73 rfl rfl ?_
      refine s_iald (k := 2) (q := 76) hX dX4_mix_75 rfl (by assumption) rfl (by omega) (by omega) ?_
      refine s_topi (v := nI (m 2)) (by rw [gsr_s]; exact hg 2 (by omega)) ?_
      refine s_isub (q := 77) (v := nI (h 2 - m 2)) hX dX4_mix_76 rfl (pk_sub (by omega)) ?_
      refine s_iconst (q := 78) (v := 2) hX dX4_mix_77 rfl rfl ?_
      refine s_nicmp_ge (a := h 2 - m 2) (b := 2) (q := 81) (r := 83) hX dX4_mix_78 rfl rfl rfl rfl (by omega) (by omega) (fun c78_3 => ?_) (fun c78_3 => ?_)
      · refine s_aload_n (q := 84) hX dX4_mix_83 rfl rfl ?_
        refine s_getr (q := 87) hX dX4_mix_84 rfl gfl_4_27 (by assumption) rfl ?_
        refine s_iload (q := 89) hX dX4_mix_87 rfl rfl ?_
        refine s_dup2 (q := 90) hX dX4_mix_89 rfl rfl rfl ?_
        refine s_iald (k := 2) (q := 91) hX dX4_mix_90 rfl (by assumption) rfl (by omega) (by omega) ?_
        refine s_topi (v := nI (m 2)) (by rw [gsr_s]; exact hg 2 (by omega)) ?_
        refine s_iconst (q := 92) (v := 2) hX dX4_mix_91 rfl rfl ?_
        refine s_iadd (q := 93) (v := nI (m 2 + 2)) hX dX4_mix_92 rfl (nI_add (m 2) (2)) ?_
        refine s_iast (k := 2) (q := 94) hX dX4_mix_93 rfl (by assumption) rfl (by omega) (by omega) ?_
        refine s_iconst (q := 95) (v := 1) hX dX4_mix_94 rfl rfl ?_
        refine s_iret hX dX4_mix_95 (Or.inr ⟨rfl, Or.inr rfl⟩) ⟨Nat.le_refl _, Nat.le_refl _, Nat.le_refl _, ?_⟩
        have hr : rich m h = 2 := by unfold rich; (repeat' split) <;> omega
        rw [gsr_gsr, gsr_s]
        refine gqv (hcon _ (fun z s hs => ?_)) ?_ rfl
        · rw [hr]
          show (if s = 2 then _ else _) = _
          by_cases e : s = 2
          · subst e; rw [if_pos rfl, if_pos rfl]
          · rw [if_neg e, if_neg e]; exact hg s hs
        · rw [hr, if_pos (by omega)]
      · refine s_iconst (q := 82) (v := 0) hX dX4_mix_81 rfl rfl ?_
        refine s_iret hX dX4_mix_82 (Or.inr ⟨rfl, Or.inl rfl⟩) ⟨Nat.le_refl _, Nat.le_refl _, Nat.le_refl _, ?_⟩
        have hr : rich m h = 2 := by unfold rich; (repeat' split) <;> omega
        refine gqv (hcon g (fun z => ?_)) ?_ rfl
        · rw [hr] at z; omega
        · rw [hr, if_neg (by omega)]
end
section
set_option maxHeartbeats 4000000 in
set_option maxRecDepth 100000 in
theorem c_affords {d t i k f a n : Nat} {T : gT} {h : Nat → Nat} {sh : List gS} {M : gM} {Q : Option Value → List gS → gM → Prop} (hd : 2 ≤ d) (hT : isTown sh t) (hW : TWN M t T) (hok : T.ok) (hi : i < T.P) (hk : k < T.D) (hf : sh[f]? = some (.inr (.inl (0, n)))) (hn : n ≤ 1000) (ha : a + 3 ≤ n) (hft : f ≠ t + 6) (hh : ∀ s, s < 3 → M f (a + s) = nI (h s)) (hl : ∀ s, s < 3 → h s < 1000) (hcon : ∀ g, (T.can i k h = true → ∀ s, s < 3 → g s = nI (T.pay i k h s)) → Q (some (.int (if T.can i k h = true then 1 else 0))) sh (gsr M (t + 6) g)) : gC mX4_affords d 0 0 [.ref t, .int (nI i), .int (nI k), .ref f, .int (nI a)] sh M Q := by
  have hT0 := hT
  have hW0 := hW
  have hok0 := hok
  obtain ⟨z0, z1, z2, z3, z4, z5, z6⟩ := hT
  obtain ⟨w1, w2, w3, w4, w5, w6, w7, w8⟩ := hW
  obtain ⟨o1, o2, o3, o4, o5, o6, o7, o8⟩ := hok
  have hkd := w4 i hi
  have bkd := o4 i hi
  have hcs : ∀ s, s < 3 → T.cs i k s ≤ 4 := by
    have b0 := o6 (3 * k + 0) (by omega)
    have b1 := o6 (3 * k + 1) (by omega)
    have b2 := o6 (3 * k + 2) (by omega)
    intro s hs
    have b := o6 (3 * k + s) (by omega)
    unfold gT.cs pcs
    dsimp only
    (repeat' split) <;> omega
  unfold gT.can gT.pay at hcon
  obtain ⟨c, hce⟩ : ∃ c, c = T.cs i k := ⟨_, rfl⟩
  rw [← hce] at hcs hcon
  refine gC_of (rt := 2) (ini := false) gm_X4_affords rfl (by decide) (Nat.le_of_ble_eq_true rfl) (fun X hX => ?_)
  have key : ∀ g, (∀ s, s < 3 → g s = nI (c s)) → X 6 [(0, .ref t), (1, .int (nI i)), (2, .int (nI k)), (3, .ref f), (4, .int (nI a))] [] sh (gsr M (t + 6) g) 0 0 := by
    intro g hg
    have lk : ∀ s, s ≤ 3 → lck c h s ≤ 4 * s := by
      intro s
      induction s with
      | zero => intro _; exact Nat.le_refl 0
      | succ s ih =>
        intro hs
        have := ih (by omega)
        have := hcs s (by omega)
        show lck c h s + (c s - h s) ≤ _
        omega
    have L : ∀ (m s sc : Nat), s ≤ 3 → 3 < s + m → sc < 3 → (∀ r, r < s → h r < c r → (∀ r', r' < s → r < r' → c r' ≤ h r') → sc = r) → X 15 [(0, .ref t), (1, .int (nI i)), (2, .int (nI k)), (3, .ref f), (4, .int (nI a)), (5, .int (nI (lck c h s))), (6, .int (nI sc)), (7, .int (nI s))] [] sh (gsr M (t + 6) g) 0 0 := by
      intro m
      induction m with
      | zero => intro s sc h1 h2; omega
      | succ m ih =>
        intro s sc hs hm hsc hlast
        have lks := lk s hs
        refine s_iload (q := 17) hX dX4_affords_15 rfl rfl ?_
        refine s_iconst (q := 18) (v := 3) hX dX4_affords_17 rfl rfl ?_
        refine s_nicmp_ge (a := s) (b := 3) (q := 21) (r := 60) hX dX4_affords_18 rfl rfl rfl rfl (by omega) (by omega) (fun c18 => ?_) (fun c18 => ?_)
        · have hs3 : s = 3 := by omega
          subst hs3
          refine s_iload (q := 62) hX dX4_affords_60 rfl rfl ?_
          refine s_nif_ne (a := lck c h 3) (b := 0) (q := 65) (r := 67) hX dX4_affords_62 rfl rfl rfl rfl (by omega) (by omega) (fun c62 => ?_) (fun c62 => ?_)
          · refine s_iload (q := 69) hX dX4_affords_67 rfl rfl ?_
            refine s_iconst (q := 70) (v := 1) hX dX4_affords_69 rfl rfl ?_
            refine s_nicmp_ne (a := lck c h 3) (b := 1) (q := 73) (r := 99) hX dX4_affords_70 rfl rfl rfl rfl (by omega) (by omega) (fun c70 => ?_) (fun c70 => ?_)
            · refine s_iconst (q := 100) (v := 0) hX dX4_affords_99 rfl rfl ?_
              refine s_iret hX dX4_affords_100 (Or.inr ⟨rfl, Or.inl rfl⟩) ⟨Nat.le_refl _, Nat.le_refl _, Nat.le_refl _, ?_⟩
              first
                | (have hc : ¬ canC (T.kd i) c h = true := by
                    intro z
                    simp only [canC, Bool.or_eq_true, Bool.and_eq_true, decide_eq_true_eq] at z
                    omega
                   exact gqv (hcon g (fun z => absurd z hc)) (by rw [if_neg hc]) rfl)
                | (have hf2 := gif_f c92
                   have hc : ¬ canC (T.kd i) c h = true := by
                    intro z
                    simp only [canC, Bool.or_eq_true, Bool.and_eq_true, decide_eq_true_eq] at z
                    rcases z with z | z
                    · omega
                    · exact hf2 z.2
                   rw [gsr_gsr]
                   exact gqv (hcon g2 (fun z => absurd z hc)) (by rw [if_neg hc]) rfl)
            · refine s_aload_n (q := 74) hX dX4_affords_73 rfl rfl ?_
              refine s_getr (q := 77) hX dX4_affords_74 rfl gfl_4_9 (by assumption) rfl ?_
              refine s_iload_n (q := 78) hX dX4_affords_77 rfl rfl ?_
              refine s_iald (k := i) (q := 79) hX dX4_affords_78 rfl (by assumption) rfl (by omega) (by omega) ?_
              refine s_topi (v := nI (T.kd i)) (by rw [gsr_n _ _ (by omega)]; exact hkd) ?_
              refine s_iconst (q := 80) (v := 4) hX dX4_affords_79 rfl rfl ?_
              refine s_nicmp_ne (a := T.kd i) (b := 4) (q := 83) (r := 99) hX dX4_affords_80 rfl rfl rfl rfl (by omega) (by omega) (fun c80 => ?_) (fun c80 => ?_)
              · refine s_iconst (q := 100) (v := 0) hX dX4_affords_99 rfl rfl ?_
                refine s_iret hX dX4_affords_100 (Or.inr ⟨rfl, Or.inl rfl⟩) ⟨Nat.le_refl _, Nat.le_refl _, Nat.le_refl _, ?_⟩
                first
                  | (have hc : ¬ canC (T.kd i) c h = true := by
                      intro z
                      simp only [canC, Bool.or_eq_true, Bool.and_eq_true, decide_eq_true_eq] at z
                      omega
                     exact gqv (hcon g (fun z => absurd z hc)) (by rw [if_neg hc]) rfl)
                  | (have hf2 := gif_f c92
                     have hc : ¬ canC (T.kd i) c h = true := by
                      intro z
                      simp only [canC, Bool.or_eq_true, Bool.and_eq_true, decide_eq_true_eq] at z
                      rcases z with z | z
                      · omega
                      · exact hf2 z.2
                     rw [gsr_gsr]
                     exact gqv (hcon g2 (fun z => absurd z hc)) (by rw [if_neg hc]) rfl)
              · refine s_aload_n (q := 84) hX dX4_affords_83 rfl rfl ?_
                refine s_aload_n (q := 85) hX dX4_affords_84 rfl rfl ?_
                refine s_iload (q := 87) hX dX4_affords_85 rfl rfl ?_
                refine s_iload (q := 89) hX dX4_affords_87 rfl rfl ?_
                have hmx : (∀ s, s < 3 → c s = if s = sc then h s + 1 else c s) ∧ (∀ s, s < 3 → s ≠ sc → c s ≤ h s) := by
                  obtain ⟨r, hr, hcr, ho⟩ := lck_one (c := c) (h := h) (by omega)
                  have e : sc = r := hlast r hr (by omega) (fun r' h1 h2 => ho r' h1 (by omega))
                  subst e
                  refine ⟨fun s hs => ?_, ho⟩
                  by_cases z : s = sc
                  · subst z; rw [if_pos rfl]; exact hcr
                  · rw [if_neg z]
                refine s_invv3_1 (q := 92) hX dX4_affords_89 rfl glk_4_71 (by assumption) (Nat.le_of_ble_eq_true rfl) ⟨Nat.le_refl _, Nat.le_refl _⟩ (by omega) (c_mix (d := 0) (c := c) (h := h) hT0 hf hn ha hft hsc (fun s hs => by rw [gsr_s]; exact hg s hs) (fun s hs => by rw [gsr_n _ _ hft]; exact hh s hs) hl hmx.1 hmx.2 (fun g2 hg2 => ?_)) 
                refine ⟨_, rfl, ?_⟩
                refine s_if_eq (q := 95) (r := 99) hX dX4_affords_92 rfl rfl (fun c92 => ?_) (fun c92 => ?_)
                · refine s_iconst (q := 100) (v := 0) hX dX4_affords_99 rfl rfl ?_
                  refine s_iret hX dX4_affords_100 (Or.inr ⟨rfl, Or.inl rfl⟩) ⟨Nat.le_refl _, Nat.le_refl _, Nat.le_refl _, ?_⟩
                  first
                    | (have hc : ¬ canC (T.kd i) c h = true := by
                        intro z
                        simp only [canC, Bool.or_eq_true, Bool.and_eq_true, decide_eq_true_eq] at z
                        omega
                       exact gqv (hcon g (fun z => absurd z hc)) (by rw [if_neg hc]) rfl)
                    | (have hf2 := gif_f c92
                       have hc : ¬ canC (T.kd i) c h = true := by
                        intro z
                        simp only [canC, Bool.or_eq_true, Bool.and_eq_true, decide_eq_true_eq] at z
                        rcases z with z | z
                        · omega
                        · exact hf2 z.2
                       rw [gsr_gsr]
                       exact gqv (hcon g2 (fun z => absurd z hc)) (by rw [if_neg hc]) rfl)
                · refine s_iconst (q := 96) (v := 1) hX dX4_affords_95 rfl rfl ?_
                  refine s_goto (q := 100) hX dX4_affords_96 rfl ?_
                  refine s_iret hX dX4_affords_100 (Or.inr ⟨rfl, Or.inr rfl⟩) ⟨Nat.le_refl _, Nat.le_refl _, Nat.le_refl _, ?_⟩
                  have h1 : lck c h 3 = 1 := by omega
                  have hc : canC (T.kd i) c h = true := by simp [canC, h1, show T.kd i = 4 by omega, gif_t c92]
                  rw [gsr_gsr]
                  refine gqv (hcon g2 (fun _ s hs => ?_)) ?_ rfl
                  · unfold payC; rw [if_neg (by omega)]; exact hg2 (gif_t c92) s hs
                  · rw [if_pos hc]
          · refine s_iconst (q := 66) (v := 1) hX dX4_affords_65 rfl rfl ?_
            refine s_iret hX dX4_affords_66 (Or.inr ⟨rfl, Or.inr rfl⟩) ⟨Nat.le_refl _, Nat.le_refl _, Nat.le_refl _, ?_⟩
            have h0 : lck c h 3 = 0 := by omega
            refine gqv (hcon g (fun _ s hs => ?_)) ?_ rfl
            · unfold payC; rw [if_pos h0]; exact hg s hs
            · have : canC (T.kd i) c h = true := by simp [canC, h0]
              rw [if_pos this]
        · have hc4 := hcs s (by omega)
          have hl4 := hl s (by omega)
          refine s_aload_n (q := 22) hX dX4_affords_21 rfl rfl ?_
          refine s_getr (q := 25) hX dX4_affords_22 rfl gfl_4_27 (by assumption) rfl ?_
          refine s_iload (q := 27) hX dX4_affords_25 rfl rfl ?_
          refine s_iald (k := s) (q := 28) hX dX4_affords_27 rfl (by assumption) rfl (by omega) (by omega) ?_
          refine s_topi (v := nI (c s)) (by rw [gsr_s]; exact hg s (by omega)) ?_
          refine s_aload_n (q := 29) hX dX4_affords_28 rfl rfl ?_
          refine s_iload (q := 31) hX dX4_affords_29 rfl rfl ?_
          refine s_iload (q := 33) hX dX4_affords_31 rfl rfl ?_
          refine s_iadd (q := 34) (v := nI (a + s)) hX dX4_affords_33 rfl (nI_add (a) (s)) ?_
          refine s_iald (k := a + s) (q := 35) hX dX4_affords_34 rfl (by assumption) rfl (by omega) (by omega) ?_
          refine s_topi (v := nI (h s)) (by rw [gsr_n _ _ hft]; exact hh s (by omega)) ?_
          refine s_isub (q := 36) hX dX4_affords_35 rfl rfl ?_
          refine s_istore (q := 38) (lv' := [(0, _), (1, _), (2, _), (3, _), (4, _), (5, _), (6, _), (7, _), (8, _)]) hX dX4_affords_36 rfl (Nat.le_of_ble_eq_true rfl) rfl ?_
          refine s_iload (q := 40) hX dX4_affords_38 rfl rfl ?_
          refine s_if_le (q := 43) (r := 54) hX dX4_affords_40 rfl rfl (fun c40 => ?_) (fun c40 => ?_)
          · refine s_iinc (q := 57) (v := nI (s + 1)) (lv' := [(0, _), (1, _), (2, _), (3, _), (4, _), (5, _), (6, _), (7, _), (8, _)]) hX dX4_affords_54 rfl rfl (nI_add (s) 1) (Nat.le_of_ble_eq_true rfl) rfl ?_
            refine s_goto (q := 15) hX dX4_affords_57 rfl ?_
            have hle : c s ≤ h s := (gsub0 (by omega) (by omega)).mp c40
            have e : lck c h (s + 1) = lck c h s := by show lck c h s + (c s - h s) = _; omega
            have hi2 := ih (s + 1) sc (by omega) (by omega) hsc (fun r hr hlt hr' => by
              rcases Nat.lt_or_ge r s with z | z
              · exact hlast r z hlt (fun r' h1 h2 => hr' r' (by omega) h2)
              · have : r = s := by omega
                subst this; omega)
            rw [e] at hi2
            exact s_dl hX hi2
          · have hlt : h s < c s := Nat.not_le.mp (fun z => c40 ((gsub0 (by omega) (by omega)).mpr z))
            rw [pk_sub (show h s ≤ c s by omega)]
            refine s_iload (q := 45) hX dX4_affords_43 rfl rfl ?_
            refine s_iload (q := 47) hX dX4_affords_45 rfl rfl ?_
            refine s_iadd (q := 48) (v := nI (lck c h s + (c s - h s))) hX dX4_affords_47 rfl (nI_add (lck c h s) (c s - h s)) ?_
            refine s_istore (q := 50) (lv' := [(0, _), (1, _), (2, _), (3, _), (4, _), (5, _), (6, _), (7, _), (8, _)]) hX dX4_affords_48 rfl (Nat.le_of_ble_eq_true rfl) rfl ?_
            refine s_iload (q := 52) hX dX4_affords_50 rfl rfl ?_
            refine s_istore (q := 54) (lv' := [(0, _), (1, _), (2, _), (3, _), (4, _), (5, _), (6, _), (7, _), (8, _)]) hX dX4_affords_52 rfl (Nat.le_of_ble_eq_true rfl) rfl ?_
            refine s_iinc (q := 57) (v := nI (s + 1)) (lv' := [(0, _), (1, _), (2, _), (3, _), (4, _), (5, _), (6, _), (7, _), (8, _)]) hX dX4_affords_54 rfl rfl (nI_add (s) 1) (Nat.le_of_ble_eq_true rfl) rfl ?_
            refine s_goto (q := 15) hX dX4_affords_57 rfl ?_
            refine s_dl hX ?_
            exact ih (s + 1) s (by omega) (by omega) (by omega) (fun r hr hlt2 hr' => by
              rcases Nat.lt_or_ge r s with z | z
              · have := hr' s (by omega) z
                omega
              · omega)
    refine s_iconst (q := 7) (v := 0) hX dX4_affords_6 rfl rfl ?_
    refine s_istore (q := 9) (lv' := [(0, _), (1, _), (2, _), (3, _), (4, _), (5, _)]) hX dX4_affords_7 rfl (Nat.le_of_ble_eq_true rfl) rfl ?_
    refine s_iconst (q := 10) (v := 0) hX dX4_affords_9 rfl rfl ?_
    refine s_istore (q := 12) (lv' := [(0, _), (1, _), (2, _), (3, _), (4, _), (5, _), (6, _)]) hX dX4_affords_10 rfl (Nat.le_of_ble_eq_true rfl) rfl ?_
    refine s_iconst (q := 13) (v := 0) hX dX4_affords_12 rfl rfl ?_
    refine s_istore (q := 15) (lv' := [(0, _), (1, _), (2, _), (3, _), (4, _), (5, _), (6, _), (7, _)]) hX dX4_affords_13 rfl (Nat.le_of_ble_eq_true rfl) rfl ?_
    exact L 4 0 0 (by omega) (by omega) (by omega) (fun r hr => by omega)
  refine s_aload_n (q := 1) hX dX4_affords_0 rfl rfl ?_
  refine s_iload_n (q := 2) hX dX4_affords_1 rfl rfl ?_
  refine s_iload_n (q := 3) hX dX4_affords_2 rfl rfl ?_
  refine s_invv2_0 (q := 6) hX dX4_affords_3 rfl glk_4_67 (by assumption) (Nat.le_of_ble_eq_true rfl) ⟨Nat.le_refl _, Nat.le_refl _⟩ (by omega) (c_writeBill (d := 1) (by omega) hT0 hW0 hok0 hi hk (fun g hg => ?_)) 
  refine ⟨rfl, ?_⟩
  exact key g (fun s hs => by rw [hce]; exact hg s hs)
end
