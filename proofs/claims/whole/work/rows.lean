section
-- ===== PART A: goes FIRST, ahead of the names: the tables' words, and 'selects' of the private methods out of them =====
/-- a private method of a class that the tables say can be made, by its rows of tables_1 -/
def lw_okq (q : MethodName × Nat) : Prop := (q.1.cls ≠ "java/lang/invoke/MethodHandle" ∧ q.1.cls ≠ "java/lang/invoke/VarHandle") ∧ Cond.instantiable q.1.cls q.2 ∈ tables_1 ∧ Cond.privateMethod q.1 ∈ tables_1 ∧ Cond.instanceMethod q.1 ∈ tables_1
theorem lw_p0 : lw_okq (⟨"GrangeParty$Homes", "noteFor", "(II)V"⟩, 1) := ⟨⟨by decide +kernel, by decide +kernel⟩, List.mem_of_getElem? (i := 135) (by decide +kernel), List.mem_of_getElem? (i := 360) (by decide +kernel), List.mem_of_getElem? (i := 361) (by decide +kernel)⟩
theorem lw_p1 : lw_okq (⟨"GrangeParty", "tellOfGuest", "(II)I"⟩, 12) := ⟨⟨by decide +kernel, by decide +kernel⟩, List.mem_of_getElem? (i := 19) (by decide +kernel), List.mem_of_getElem? (i := 364) (by decide +kernel), List.mem_of_getElem? (i := 365) (by decide +kernel)⟩
theorem lw_p2 : lw_okq (⟨"GrangeParty", "hasParty", "()Z"⟩, 12) := ⟨⟨by decide +kernel, by decide +kernel⟩, List.mem_of_getElem? (i := 19) (by decide +kernel), List.mem_of_getElem? (i := 426) (by decide +kernel), List.mem_of_getElem? (i := 427) (by decide +kernel)⟩
theorem lw_p3 : lw_okq (⟨"GrangeParty$Room", "makeAllLessShy", "()V"⟩, 7) := ⟨⟨by decide +kernel, by decide +kernel⟩, List.mem_of_getElem? (i := 42) (by decide +kernel), List.mem_of_getElem? (i := 436) (by decide +kernel), List.mem_of_getElem? (i := 437) (by decide +kernel)⟩
theorem lw_p4 : lw_okq (⟨"GrangeParty$Room", "goOneByOne", "()V"⟩, 7) := ⟨⟨by decide +kernel, by decide +kernel⟩, List.mem_of_getElem? (i := 42) (by decide +kernel), List.mem_of_getElem? (i := 445) (by decide +kernel), List.mem_of_getElem? (i := 446) (by decide +kernel)⟩
theorem lw_p5 : lw_okq (⟨"GrangeParty", "whoShouldBePale", "()I"⟩, 12) := ⟨⟨by decide +kernel, by decide +kernel⟩, List.mem_of_getElem? (i := 19) (by decide +kernel), List.mem_of_getElem? (i := 501) (by decide +kernel), List.mem_of_getElem? (i := 502) (by decide +kernel)⟩
theorem lw_p6 : lw_okq (⟨"GrangeParty$Chances", "weigh", "(II)V"⟩, 3) := ⟨⟨by decide +kernel, by decide +kernel⟩, List.mem_of_getElem? (i := 117) (by decide +kernel), List.mem_of_getElem? (i := 525) (by decide +kernel), List.mem_of_getElem? (i := 526) (by decide +kernel)⟩
theorem lw_p7 : lw_okq (⟨"GrangeParty$Chances", "weightOf", "(I)I"⟩, 3) := ⟨⟨by decide +kernel, by decide +kernel⟩, List.mem_of_getElem? (i := 117) (by decide +kernel), List.mem_of_getElem? (i := 534) (by decide +kernel), List.mem_of_getElem? (i := 535) (by decide +kernel)⟩
theorem lw_p8 : lw_okq (⟨"GrangeParty$Chances", "reduce", "()V"⟩, 3) := ⟨⟨by decide +kernel, by decide +kernel⟩, List.mem_of_getElem? (i := 117) (by decide +kernel), List.mem_of_getElem? (i := 538) (by decide +kernel), List.mem_of_getElem? (i := 539) (by decide +kernel)⟩
theorem lw_p9 : lw_okq (⟨"GrangeParty", "tryNights", "(II)V"⟩, 12) := ⟨⟨by decide +kernel, by decide +kernel⟩, List.mem_of_getElem? (i := 19) (by decide +kernel), List.mem_of_getElem? (i := 561) (by decide +kernel), List.mem_of_getElem? (i := 562) (by decide +kernel)⟩
theorem lw_p10 : lw_okq (⟨"GrangeParty", "mixGuests", "(J)J"⟩, 12) := ⟨⟨by decide +kernel, by decide +kernel⟩, List.mem_of_getElem? (i := 19) (by decide +kernel), List.mem_of_getElem? (i := 601) (by decide +kernel), List.mem_of_getElem? (i := 602) (by decide +kernel)⟩
theorem lw_p11 : lw_okq (⟨"GrangeParty", "mixWouldBe", "(J)J"⟩, 12) := ⟨⟨by decide +kernel, by decide +kernel⟩, List.mem_of_getElem? (i := 19) (by decide +kernel), List.mem_of_getElem? (i := 609) (by decide +kernel), List.mem_of_getElem? (i := 610) (by decide +kernel)⟩
theorem lw_p12 : lw_okq (⟨"GrangeParty", "mixOdds", "(J)J"⟩, 12) := ⟨⟨by decide +kernel, by decide +kernel⟩, List.mem_of_getElem? (i := 19) (by decide +kernel), List.mem_of_getElem? (i := 616) (by decide +kernel), List.mem_of_getElem? (i := 617) (by decide +kernel)⟩
theorem lw_p13 : lw_okq (⟨"GrangePartyModel", "read", "()I"⟩, 32) := ⟨⟨by decide +kernel, by decide +kernel⟩, List.mem_of_getElem? (i := 622) (by decide +kernel), List.mem_of_getElem? (i := 740) (by decide +kernel), List.mem_of_getElem? (i := 741) (by decide +kernel)⟩
theorem lw_p14 : lw_okq (⟨"GrangePartyModel", "isFigure", "(II)Z"⟩, 32) := ⟨⟨by decide +kernel, by decide +kernel⟩, List.mem_of_getElem? (i := 622) (by decide +kernel), List.mem_of_getElem? (i := 744) (by decide +kernel), List.mem_of_getElem? (i := 745) (by decide +kernel)⟩
theorem lw_p15 : lw_okq (⟨"GrangePartyModel", "at", "(I)I"⟩, 32) := ⟨⟨by decide +kernel, by decide +kernel⟩, List.mem_of_getElem? (i := 622) (by decide +kernel), List.mem_of_getElem? (i := 748) (by decide +kernel), List.mem_of_getElem? (i := 749) (by decide +kernel)⟩
def lw_privs_1 : List (MethodName × Nat) := [(⟨"GrangeParty$Homes", "noteFor", "(II)V"⟩, 1), (⟨"GrangeParty", "tellOfGuest", "(II)I"⟩, 12), (⟨"GrangeParty", "hasParty", "()Z"⟩, 12), (⟨"GrangeParty$Room", "makeAllLessShy", "()V"⟩, 7), (⟨"GrangeParty$Room", "goOneByOne", "()V"⟩, 7), (⟨"GrangeParty", "whoShouldBePale", "()I"⟩, 12), (⟨"GrangeParty$Chances", "weigh", "(II)V"⟩, 3), (⟨"GrangeParty$Chances", "weightOf", "(I)I"⟩, 3), (⟨"GrangeParty$Chances", "reduce", "()V"⟩, 3), (⟨"GrangeParty", "tryNights", "(II)V"⟩, 12), (⟨"GrangeParty", "mixGuests", "(J)J"⟩, 12), (⟨"GrangeParty", "mixWouldBe", "(J)J"⟩, 12), (⟨"GrangeParty", "mixOdds", "(J)J"⟩, 12), (⟨"GrangePartyModel", "read", "()I"⟩, 32), (⟨"GrangePartyModel", "isFigure", "(II)Z"⟩, 32), (⟨"GrangePartyModel", "at", "(I)I"⟩, 32)]
theorem lw_r1 : ∀ q ∈ lw_privs_1, lw_okq q := List.forall_mem_cons.mpr ⟨lw_p0, List.forall_mem_cons.mpr ⟨lw_p1, List.forall_mem_cons.mpr ⟨lw_p2, List.forall_mem_cons.mpr ⟨lw_p3, List.forall_mem_cons.mpr ⟨lw_p4, List.forall_mem_cons.mpr ⟨lw_p5, List.forall_mem_cons.mpr ⟨lw_p6, List.forall_mem_cons.mpr ⟨lw_p7, List.forall_mem_cons.mpr ⟨lw_p8, List.forall_mem_cons.mpr ⟨lw_p9, List.forall_mem_cons.mpr ⟨lw_p10, List.forall_mem_cons.mpr ⟨lw_p11, List.forall_mem_cons.mpr ⟨lw_p12, List.forall_mem_cons.mpr ⟨lw_p13, List.forall_mem_cons.mpr ⟨lw_p14, List.forall_mem_cons.mpr ⟨lw_p15, fun _ h => absurd h List.not_mem_nil⟩⟩⟩⟩⟩⟩⟩⟩⟩⟩⟩⟩⟩⟩⟩⟩
theorem lw_p16 : lw_okq (⟨"GrangePartyModel", "readGuest", "(I)I"⟩, 32) := ⟨⟨by decide +kernel, by decide +kernel⟩, List.mem_of_getElem? (i := 622) (by decide +kernel), List.mem_of_getElem? (i := 752) (by decide +kernel), List.mem_of_getElem? (i := 753) (by decide +kernel)⟩
theorem lw_p17 : lw_okq (⟨"GrangePartyModel", "isGuest", "(I)Z"⟩, 32) := ⟨⟨by decide +kernel, by decide +kernel⟩, List.mem_of_getElem? (i := 622) (by decide +kernel), List.mem_of_getElem? (i := 767) (by decide +kernel), List.mem_of_getElem? (i := 768) (by decide +kernel)⟩
theorem lw_p18 : lw_okq (⟨"GrangePartyModel", "guestNow", "(II)I"⟩, 32) := ⟨⟨by decide +kernel, by decide +kernel⟩, List.mem_of_getElem? (i := 622) (by decide +kernel), List.mem_of_getElem? (i := 771) (by decide +kernel), List.mem_of_getElem? (i := 772) (by decide +kernel)⟩
theorem lw_p19 : lw_okq (⟨"GrangePartyModel", "needs", "(I)I"⟩, 32) := ⟨⟨by decide +kernel, by decide +kernel⟩, List.mem_of_getElem? (i := 622) (by decide +kernel), List.mem_of_getElem? (i := 778) (by decide +kernel), List.mem_of_getElem? (i := 779) (by decide +kernel)⟩
theorem lw_p20 : lw_okq (⟨"GrangePartyModel", "counts", "(I)I"⟩, 32) := ⟨⟨by decide +kernel, by decide +kernel⟩, List.mem_of_getElem? (i := 622) (by decide +kernel), List.mem_of_getElem? (i := 785) (by decide +kernel), List.mem_of_getElem? (i := 786) (by decide +kernel)⟩
theorem lw_p21 : lw_okq (⟨"GrangePartyModel", "shynessOf", "(I)I"⟩, 32) := ⟨⟨by decide +kernel, by decide +kernel⟩, List.mem_of_getElem? (i := 622) (by decide +kernel), List.mem_of_getElem? (i := 789) (by decide +kernel), List.mem_of_getElem? (i := 790) (by decide +kernel)⟩
theorem lw_p22 : lw_okq (⟨"GrangePartyModel", "wouldGo", "(III)Z"⟩, 32) := ⟨⟨by decide +kernel, by decide +kernel⟩, List.mem_of_getElem? (i := 622) (by decide +kernel), List.mem_of_getElem? (i := 793) (by decide +kernel), List.mem_of_getElem? (i := 794) (by decide +kernel)⟩
theorem lw_p23 : lw_okq (⟨"GrangePartyModel", "askOf", "(I)I"⟩, 32) := ⟨⟨by decide +kernel, by decide +kernel⟩, List.mem_of_getElem? (i := 622) (by decide +kernel), List.mem_of_getElem? (i := 797) (by decide +kernel), List.mem_of_getElem? (i := 798) (by decide +kernel)⟩
theorem lw_p24 : lw_okq (⟨"GrangePartyModel", "homeFor", "(I)I"⟩, 32) := ⟨⟨by decide +kernel, by decide +kernel⟩, List.mem_of_getElem? (i := 622) (by decide +kernel), List.mem_of_getElem? (i := 805) (by decide +kernel), List.mem_of_getElem? (i := 806) (by decide +kernel)⟩
theorem lw_p25 : lw_okq (⟨"GrangePartyModel", "hintsIn", "(I)I"⟩, 32) := ⟨⟨by decide +kernel, by decide +kernel⟩, List.mem_of_getElem? (i := 622) (by decide +kernel), List.mem_of_getElem? (i := 809) (by decide +kernel), List.mem_of_getElem? (i := 810) (by decide +kernel)⟩
theorem lw_p26 : lw_okq (⟨"GrangePartyModel", "hasFriend", "(II)Z"⟩, 32) := ⟨⟨by decide +kernel, by decide +kernel⟩, List.mem_of_getElem? (i := 622) (by decide +kernel), List.mem_of_getElem? (i := 813) (by decide +kernel), List.mem_of_getElem? (i := 814) (by decide +kernel)⟩
theorem lw_p27 : lw_okq (⟨"GrangePartyModel", "gone", "()I"⟩, 32) := ⟨⟨by decide +kernel, by decide +kernel⟩, List.mem_of_getElem? (i := 622) (by decide +kernel), List.mem_of_getElem? (i := 817) (by decide +kernel), List.mem_of_getElem? (i := 818) (by decide +kernel)⟩
theorem lw_p28 : lw_okq (⟨"GrangePartyModel", "all", "()I"⟩, 32) := ⟨⟨by decide +kernel, by decide +kernel⟩, List.mem_of_getElem? (i := 622) (by decide +kernel), List.mem_of_getElem? (i := 821) (by decide +kernel), List.mem_of_getElem? (i := 822) (by decide +kernel)⟩
theorem lw_p29 : lw_okq (⟨"GrangePartyModel", "othersFor", "(II)I"⟩, 32) := ⟨⟨by decide +kernel, by decide +kernel⟩, List.mem_of_getElem? (i := 622) (by decide +kernel), List.mem_of_getElem? (i := 825) (by decide +kernel), List.mem_of_getElem? (i := 826) (by decide +kernel)⟩
theorem lw_p30 : lw_okq (⟨"GrangePartyModel", "countsOf", "(I)I"⟩, 32) := ⟨⟨by decide +kernel, by decide +kernel⟩, List.mem_of_getElem? (i := 622) (by decide +kernel), List.mem_of_getElem? (i := 829) (by decide +kernel), List.mem_of_getElem? (i := 830) (by decide +kernel)⟩
theorem lw_p31 : lw_okq (⟨"GrangePartyModel", "hintsFor", "(II)I"⟩, 32) := ⟨⟨by decide +kernel, by decide +kernel⟩, List.mem_of_getElem? (i := 622) (by decide +kernel), List.mem_of_getElem? (i := 833) (by decide +kernel), List.mem_of_getElem? (i := 834) (by decide +kernel)⟩
def lw_privs_2 : List (MethodName × Nat) := [(⟨"GrangePartyModel", "readGuest", "(I)I"⟩, 32), (⟨"GrangePartyModel", "isGuest", "(I)Z"⟩, 32), (⟨"GrangePartyModel", "guestNow", "(II)I"⟩, 32), (⟨"GrangePartyModel", "needs", "(I)I"⟩, 32), (⟨"GrangePartyModel", "counts", "(I)I"⟩, 32), (⟨"GrangePartyModel", "shynessOf", "(I)I"⟩, 32), (⟨"GrangePartyModel", "wouldGo", "(III)Z"⟩, 32), (⟨"GrangePartyModel", "askOf", "(I)I"⟩, 32), (⟨"GrangePartyModel", "homeFor", "(I)I"⟩, 32), (⟨"GrangePartyModel", "hintsIn", "(I)I"⟩, 32), (⟨"GrangePartyModel", "hasFriend", "(II)Z"⟩, 32), (⟨"GrangePartyModel", "gone", "()I"⟩, 32), (⟨"GrangePartyModel", "all", "()I"⟩, 32), (⟨"GrangePartyModel", "othersFor", "(II)I"⟩, 32), (⟨"GrangePartyModel", "countsOf", "(I)I"⟩, 32), (⟨"GrangePartyModel", "hintsFor", "(II)I"⟩, 32)]
theorem lw_r2 : ∀ q ∈ lw_privs_2, lw_okq q := List.forall_mem_cons.mpr ⟨lw_p16, List.forall_mem_cons.mpr ⟨lw_p17, List.forall_mem_cons.mpr ⟨lw_p18, List.forall_mem_cons.mpr ⟨lw_p19, List.forall_mem_cons.mpr ⟨lw_p20, List.forall_mem_cons.mpr ⟨lw_p21, List.forall_mem_cons.mpr ⟨lw_p22, List.forall_mem_cons.mpr ⟨lw_p23, List.forall_mem_cons.mpr ⟨lw_p24, List.forall_mem_cons.mpr ⟨lw_p25, List.forall_mem_cons.mpr ⟨lw_p26, List.forall_mem_cons.mpr ⟨lw_p27, List.forall_mem_cons.mpr ⟨lw_p28, List.forall_mem_cons.mpr ⟨lw_p29, List.forall_mem_cons.mpr ⟨lw_p30, List.forall_mem_cons.mpr ⟨lw_p31, fun _ h => absurd h List.not_mem_nil⟩⟩⟩⟩⟩⟩⟩⟩⟩⟩⟩⟩⟩⟩⟩⟩
theorem lw_p32 : lw_okq (⟨"GrangePartyModel", "canRise", "(I)Z"⟩, 32) := ⟨⟨by decide +kernel, by decide +kernel⟩, List.mem_of_getElem? (i := 622) (by decide +kernel), List.mem_of_getElem? (i := 845) (by decide +kernel), List.mem_of_getElem? (i := 846) (by decide +kernel)⟩
theorem lw_p33 : lw_okq (⟨"GrangePartyModel", "canGo", "(II)Z"⟩, 32) := ⟨⟨by decide +kernel, by decide +kernel⟩, List.mem_of_getElem? (i := 622) (by decide +kernel), List.mem_of_getElem? (i := 849) (by decide +kernel), List.mem_of_getElem? (i := 850) (by decide +kernel)⟩
theorem lw_p34 : lw_okq (⟨"GrangePartyModel", "goHour", "()I"⟩, 32) := ⟨⟨by decide +kernel, by decide +kernel⟩, List.mem_of_getElem? (i := 622) (by decide +kernel), List.mem_of_getElem? (i := 857) (by decide +kernel), List.mem_of_getElem? (i := 858) (by decide +kernel)⟩
theorem lw_p35 : lw_okq (⟨"GrangePartyModel", "shyLess", "(I)V"⟩, 32) := ⟨⟨by decide +kernel, by decide +kernel⟩, List.mem_of_getElem? (i := 622) (by decide +kernel), List.mem_of_getElem? (i := 861) (by decide +kernel), List.mem_of_getElem? (i := 862) (by decide +kernel)⟩
theorem lw_p36 : lw_okq (⟨"GrangePartyModel", "firstAlone", "()I"⟩, 32) := ⟨⟨by decide +kernel, by decide +kernel⟩, List.mem_of_getElem? (i := 622) (by decide +kernel), List.mem_of_getElem? (i := 865) (by decide +kernel), List.mem_of_getElem? (i := 866) (by decide +kernel)⟩
theorem lw_p37 : lw_okq (⟨"GrangePartyModel", "mostOf", "(I)I"⟩, 32) := ⟨⟨by decide +kernel, by decide +kernel⟩, List.mem_of_getElem? (i := 622) (by decide +kernel), List.mem_of_getElem? (i := 889) (by decide +kernel), List.mem_of_getElem? (i := 890) (by decide +kernel)⟩
theorem lw_p38 : lw_okq (⟨"GrangePartyModel", "withoutStuck", "(I)I"⟩, 32) := ⟨⟨by decide +kernel, by decide +kernel⟩, List.mem_of_getElem? (i := 622) (by decide +kernel), List.mem_of_getElem? (i := 893) (by decide +kernel), List.mem_of_getElem? (i := 894) (by decide +kernel)⟩
theorem lw_p39 : lw_okq (⟨"GrangePartyModel", "leastNow", "()I"⟩, 32) := ⟨⟨by decide +kernel, by decide +kernel⟩, List.mem_of_getElem? (i := 622) (by decide +kernel), List.mem_of_getElem? (i := 901) (by decide +kernel), List.mem_of_getElem? (i := 902) (by decide +kernel)⟩
theorem lw_p40 : lw_okq (⟨"GrangePartyModel", "hired", "()I"⟩, 32) := ⟨⟨by decide +kernel, by decide +kernel⟩, List.mem_of_getElem? (i := 622) (by decide +kernel), List.mem_of_getElem? (i := 909) (by decide +kernel), List.mem_of_getElem? (i := 910) (by decide +kernel)⟩
theorem lw_p41 : lw_okq (⟨"GrangePartyModel", "endsNow", "()I"⟩, 32) := ⟨⟨by decide +kernel, by decide +kernel⟩, List.mem_of_getElem? (i := 622) (by decide +kernel), List.mem_of_getElem? (i := 917) (by decide +kernel), List.mem_of_getElem? (i := 918) (by decide +kernel)⟩
theorem lw_p42 : lw_okq (⟨"GrangePartyModel", "save", "()V"⟩, 32) := ⟨⟨by decide +kernel, by decide +kernel⟩, List.mem_of_getElem? (i := 622) (by decide +kernel), List.mem_of_getElem? (i := 921) (by decide +kernel), List.mem_of_getElem? (i := 922) (by decide +kernel)⟩
theorem lw_p43 : lw_okq (⟨"GrangePartyModel", "load", "()V"⟩, 32) := ⟨⟨by decide +kernel, by decide +kernel⟩, List.mem_of_getElem? (i := 622) (by decide +kernel), List.mem_of_getElem? (i := 925) (by decide +kernel), List.mem_of_getElem? (i := 926) (by decide +kernel)⟩
theorem lw_p44 : lw_okq (⟨"GrangePartyModel", "oddsNow", "(III)I"⟩, 32) := ⟨⟨by decide +kernel, by decide +kernel⟩, List.mem_of_getElem? (i := 622) (by decide +kernel), List.mem_of_getElem? (i := 933) (by decide +kernel), List.mem_of_getElem? (i := 934) (by decide +kernel)⟩
theorem lw_p45 : lw_okq (⟨"GrangePartyModel", "nightsNow", "(III)I"⟩, 32) := ⟨⟨by decide +kernel, by decide +kernel⟩, List.mem_of_getElem? (i := 622) (by decide +kernel), List.mem_of_getElem? (i := 952) (by decide +kernel), List.mem_of_getElem? (i := 953) (by decide +kernel)⟩
theorem lw_p46 : lw_okq (⟨"GrangePartyModel", "goNight", "()V"⟩, 32) := ⟨⟨by decide +kernel, by decide +kernel⟩, List.mem_of_getElem? (i := 622) (by decide +kernel), List.mem_of_getElem? (i := 956) (by decide +kernel), List.mem_of_getElem? (i := 957) (by decide +kernel)⟩
theorem lw_p47 : lw_okq (⟨"GrangePartyModel", "draw", "(I)I"⟩, 32) := ⟨⟨by decide +kernel, by decide +kernel⟩, List.mem_of_getElem? (i := 622) (by decide +kernel), List.mem_of_getElem? (i := 960) (by decide +kernel), List.mem_of_getElem? (i := 961) (by decide +kernel)⟩
def lw_privs_3 : List (MethodName × Nat) := [(⟨"GrangePartyModel", "canRise", "(I)Z"⟩, 32), (⟨"GrangePartyModel", "canGo", "(II)Z"⟩, 32), (⟨"GrangePartyModel", "goHour", "()I"⟩, 32), (⟨"GrangePartyModel", "shyLess", "(I)V"⟩, 32), (⟨"GrangePartyModel", "firstAlone", "()I"⟩, 32), (⟨"GrangePartyModel", "mostOf", "(I)I"⟩, 32), (⟨"GrangePartyModel", "withoutStuck", "(I)I"⟩, 32), (⟨"GrangePartyModel", "leastNow", "()I"⟩, 32), (⟨"GrangePartyModel", "hired", "()I"⟩, 32), (⟨"GrangePartyModel", "endsNow", "()I"⟩, 32), (⟨"GrangePartyModel", "save", "()V"⟩, 32), (⟨"GrangePartyModel", "load", "()V"⟩, 32), (⟨"GrangePartyModel", "oddsNow", "(III)I"⟩, 32), (⟨"GrangePartyModel", "nightsNow", "(III)I"⟩, 32), (⟨"GrangePartyModel", "goNight", "()V"⟩, 32), (⟨"GrangePartyModel", "draw", "(I)I"⟩, 32)]
theorem lw_r3 : ∀ q ∈ lw_privs_3, lw_okq q := List.forall_mem_cons.mpr ⟨lw_p32, List.forall_mem_cons.mpr ⟨lw_p33, List.forall_mem_cons.mpr ⟨lw_p34, List.forall_mem_cons.mpr ⟨lw_p35, List.forall_mem_cons.mpr ⟨lw_p36, List.forall_mem_cons.mpr ⟨lw_p37, List.forall_mem_cons.mpr ⟨lw_p38, List.forall_mem_cons.mpr ⟨lw_p39, List.forall_mem_cons.mpr ⟨lw_p40, List.forall_mem_cons.mpr ⟨lw_p41, List.forall_mem_cons.mpr ⟨lw_p42, List.forall_mem_cons.mpr ⟨lw_p43, List.forall_mem_cons.mpr ⟨lw_p44, List.forall_mem_cons.mpr ⟨lw_p45, List.forall_mem_cons.mpr ⟨lw_p46, List.forall_mem_cons.mpr ⟨lw_p47, fun _ h => absurd h List.not_mem_nil⟩⟩⟩⟩⟩⟩⟩⟩⟩⟩⟩⟩⟩⟩⟩⟩
theorem lw_p48 : lw_okq (⟨"GrangePartyModel", "howMany", "(I)I"⟩, 32) := ⟨⟨by decide +kernel, by decide +kernel⟩, List.mem_of_getElem? (i := 622) (by decide +kernel), List.mem_of_getElem? (i := 980) (by decide +kernel), List.mem_of_getElem? (i := 981) (by decide +kernel)⟩
theorem lw_p49 : lw_okq (⟨"GrangePartyModel", "shyAll", "()I"⟩, 32) := ⟨⟨by decide +kernel, by decide +kernel⟩, List.mem_of_getElem? (i := 622) (by decide +kernel), List.mem_of_getElem? (i := 984) (by decide +kernel), List.mem_of_getElem? (i := 985) (by decide +kernel)⟩
theorem lw_p50 : lw_okq (⟨"GrangePartyModel", "alone", "()I"⟩, 32) := ⟨⟨by decide +kernel, by decide +kernel⟩, List.mem_of_getElem? (i := 622) (by decide +kernel), List.mem_of_getElem? (i := 988) (by decide +kernel), List.mem_of_getElem? (i := 989) (by decide +kernel)⟩
theorem lw_p51 : lw_okq (⟨"GrangePartyModel", "mix", "(J)V"⟩, 32) := ⟨⟨by decide +kernel, by decide +kernel⟩, List.mem_of_getElem? (i := 622) (by decide +kernel), List.mem_of_getElem? (i := 997) (by decide +kernel), List.mem_of_getElem? (i := 998) (by decide +kernel)⟩
theorem lw_p52 : lw_okq (⟨"GrangePartyModel", "mixParty", "()V"⟩, 32) := ⟨⟨by decide +kernel, by decide +kernel⟩, List.mem_of_getElem? (i := 622) (by decide +kernel), List.mem_of_getElem? (i := 1002) (by decide +kernel), List.mem_of_getElem? (i := 1003) (by decide +kernel)⟩
def lw_privs_4 : List (MethodName × Nat) := [(⟨"GrangePartyModel", "howMany", "(I)I"⟩, 32), (⟨"GrangePartyModel", "shyAll", "()I"⟩, 32), (⟨"GrangePartyModel", "alone", "()I"⟩, 32), (⟨"GrangePartyModel", "mix", "(J)V"⟩, 32), (⟨"GrangePartyModel", "mixParty", "()V"⟩, 32)]
theorem lw_r4 : ∀ q ∈ lw_privs_4, lw_okq q := List.forall_mem_cons.mpr ⟨lw_p48, List.forall_mem_cons.mpr ⟨lw_p49, List.forall_mem_cons.mpr ⟨lw_p50, List.forall_mem_cons.mpr ⟨lw_p51, List.forall_mem_cons.mpr ⟨lw_p52, fun _ h => absurd h List.not_mem_nil⟩⟩⟩⟩⟩
def lw_privs : List (MethodName × Nat) := lw_privs_1 ++ (lw_privs_2 ++ (lw_privs_3 ++ (lw_privs_4)))
def lw_tbl : List Cond := k2_sels lw_privs ++ tables_1
theorem lw_privs_ok : ∀ q ∈ lw_privs, lw_okq q := by
  show ∀ q ∈ lw_privs_1 ++ (lw_privs_2 ++ (lw_privs_3 ++ (lw_privs_4))), lw_okq q
  exact List.forall_mem_append.mpr ⟨lw_r1, List.forall_mem_append.mpr ⟨lw_r2, List.forall_mem_append.mpr ⟨lw_r3, lw_r4⟩⟩⟩
end
section
def RX0 : String := "GrangeParty$Chances"
def TX0 : u_T := fun k => match k with
  | 0 => ("GrangeParty$Chances", "weight", "[I", true)
  | 1 => ("GrangeParty$Chances", "above", "I", false)
  | _ => ("GrangeParty$Chances", "below", "I", false)
def tyX0 : Nat → FieldType := fun k => match k with
  | 0 => .array .int
  | 1 => .int
  | _ => .int
abbrev wsX00 : List Cond := u_ws RX0 TX0 3
theorem nmX0 : ∀ a, a < 3 → ∀ b, b < 3 → a ≠ b → (TX0 a).2.1 ≠ (TX0 b).2.1 := by decide +kernel
theorem tyX0_ok : ∀ k, k < 3 → parseFieldDescriptor (TX0 k).2.2.1 = some (tyX0 k) := by decide +kernel
abbrev cX0_init : ByteArray := prog_2_method_1_code
def yX0_init : MethodName := ⟨RX0, "<init>", "()V"⟩
abbrev cX0_find : ByteArray := prog_2_method_2_code
def yX0_find : MethodName := ⟨RX0, "find", "(LGrangeParty$Risers;II)V"⟩
abbrev cX0_weigh : ByteArray := prog_2_method_3_code
def yX0_weigh : MethodName := ⟨RX0, "weigh", "(II)V"⟩
abbrev cX0_weightOf : ByteArray := prog_2_method_4_code
def yX0_weightOf : MethodName := ⟨RX0, "weightOf", "(I)I"⟩
abbrev cX0_reduce : ByteArray := prog_2_method_5_code
def yX0_reduce : MethodName := ⟨RX0, "reduce", "()V"⟩
abbrev cX0_power : ByteArray := prog_2_method_6_code
def yX0_power : MethodName := ⟨RX0, "power", "(II)I"⟩
abbrev cX0_commonDivisor : ByteArray := prog_2_method_7_code
def yX0_commonDivisor : MethodName := ⟨RX0, "commonDivisor", "(II)I"⟩
def RX1 : String := "GrangeParty$Draws"
def TX1 : u_T := fun k => match k with
  | _ => ("GrangeParty$Draws", "seed", "I", false)
def tyX1 : Nat → FieldType := fun k => match k with
  | _ => .int
abbrev wsX10 : List Cond := u_ws RX1 TX1 1
theorem nmX1 : ∀ a, a < 1 → ∀ b, b < 1 → a ≠ b → (TX1 a).2.1 ≠ (TX1 b).2.1 := by decide +kernel
theorem tyX1_ok : ∀ k, k < 1 → parseFieldDescriptor (TX1 k).2.2.1 = some (tyX1 k) := by decide +kernel
abbrev cX1_init : ByteArray := prog_3_method_1_code
def yX1_init : MethodName := ⟨RX1, "<init>", "()V"⟩
abbrev cX1_next : ByteArray := prog_3_method_2_code
def yX1_next : MethodName := ⟨RX1, "next", "(I)I"⟩
def RX2 : String := "GrangeParty$Homes"
def TX2 : u_T := fun k => match k with
  | _ => ("GrangeParty$Homes", "hints", "[I", true)
def tyX2 : Nat → FieldType := fun k => match k with
  | _ => .array .int
abbrev wsX20 : List Cond := u_ws RX2 TX2 1
theorem nmX2 : ∀ a, a < 1 → ∀ b, b < 1 → a ≠ b → (TX2 a).2.1 ≠ (TX2 b).2.1 := by decide +kernel
theorem tyX2_ok : ∀ k, k < 1 → parseFieldDescriptor (TX2 k).2.2.1 = some (tyX2 k) := by decide +kernel
abbrev cX2_init : ByteArray := prog_4_method_1_code
def yX2_init : MethodName := ⟨RX2, "<init>", "()V"⟩
abbrev cX2_find : ByteArray := prog_4_method_2_code
def yX2_find : MethodName := ⟨RX2, "find", "(LGrangeParty$Room;)V"⟩
abbrev cX2_noteFor : ByteArray := prog_4_method_3_code
def yX2_noteFor : MethodName := ⟨RX2, "noteFor", "(II)V"⟩
abbrev cX2_hintsToRise : ByteArray := prog_4_method_4_code
def yX2_hintsToRise : MethodName := ⟨RX2, "hintsToRise", "(LGrangeParty$Room;I)I"⟩
def RX3 : String := "GrangeParty$Kinds"
def TX3 : u_T := fun k => match k with
  | _ => ("", "", "", false)
def tyX3 : Nat → FieldType := fun k => match k with
  | _ => .int
abbrev wsX30 : List Cond := u_ws RX3 TX3 0
theorem nmX3 : ∀ a, a < 0 → ∀ b, b < 0 → a ≠ b → (TX3 a).2.1 ≠ (TX3 b).2.1 := by decide +kernel
theorem tyX3_ok : ∀ k, k < 0 → parseFieldDescriptor (TX3 k).2.2.1 = some (tyX3 k) := by decide +kernel
abbrev cX3_isKind : ByteArray := prog_5_method_2_code
def yX3_isKind : MethodName := ⟨RX3, "isKind", "(I)Z"⟩
abbrev cX3_ofLetter : ByteArray := prog_5_method_3_code
def yX3_ofLetter : MethodName := ⟨RX3, "ofLetter", "(I)I"⟩
abbrev cX3_isSuch : ByteArray := prog_5_method_4_code
def yX3_isSuch : MethodName := ⟨RX3, "isSuch", "(II)Z"⟩
abbrev cX3_needs : ByteArray := prog_5_method_5_code
def yX3_needs : MethodName := ⟨RX3, "needs", "(II)I"⟩
abbrev cX3_countsAs : ByteArray := prog_5_method_6_code
def yX3_countsAs : MethodName := ⟨RX3, "countsAs", "(I)I"⟩
abbrev cX3_hintsTill : ByteArray := prog_5_method_7_code
def yX3_hintsTill : MethodName := ⟨RX3, "hintsTill", "(III)I"⟩
def RX4 : String := "GrangeParty$Page"
def TX4 : u_T := fun k => match k with
  | 0 => ("GrangeParty$Page", "letters", "[I", true)
  | _ => ("GrangeParty$Page", "length", "I", false)
def tyX4 : Nat → FieldType := fun k => match k with
  | 0 => .array .int
  | _ => .int
abbrev wsX40 : List Cond := u_ws RX4 TX4 2
theorem nmX4 : ∀ a, a < 2 → ∀ b, b < 2 → a ≠ b → (TX4 a).2.1 ≠ (TX4 b).2.1 := by decide +kernel
theorem tyX4_ok : ∀ k, k < 2 → parseFieldDescriptor (TX4 k).2.2.1 = some (tyX4 k) := by decide +kernel
abbrev cX4_init : ByteArray := prog_6_method_1_code
def yX4_init : MethodName := ⟨RX4, "<init>", "()V"⟩
abbrev cX4_append : ByteArray := prog_6_method_2_code
def yX4_append : MethodName := ⟨RX4, "append", "(I)I"⟩
abbrev cX4_clear : ByteArray := prog_6_method_3_code
def yX4_clear : MethodName := ⟨RX4, "clear", "()I"⟩
abbrev cX4_at : ByteArray := prog_6_method_4_code
def yX4_at : MethodName := ⟨RX4, "at", "(I)I"⟩
abbrev cX4_digitAt : ByteArray := prog_6_method_5_code
def yX4_digitAt : MethodName := ⟨RX4, "digitAt", "(I)I"⟩
abbrev cX4_firstFault : ByteArray := prog_6_method_6_code
def yX4_firstFault : MethodName := ⟨RX4, "firstFault", "()I"⟩
abbrev cX4_isParty : ByteArray := prog_6_method_7_code
def yX4_isParty : MethodName := ⟨RX4, "isParty", "()Z"⟩
abbrev cX4_guests : ByteArray := prog_6_method_8_code
def yX4_guests : MethodName := ⟨RX4, "guests", "()I"⟩
abbrev cX4_placeOf : ByteArray := prog_6_method_9_code
def yX4_placeOf : MethodName := ⟨RX4, "placeOf", "(I)I"⟩
abbrev cX4_fits : ByteArray := prog_6_method_10_code
def yX4_fits : MethodName := ⟨RX4, "fits", "(II)Z"⟩
abbrev cX4_fitsGuest : ByteArray := prog_6_method_11_code
def yX4_fitsGuest : MethodName := ⟨RX4, "fitsGuest", "(III)Z"⟩
abbrev cX4_isDigitBelow : ByteArray := prog_6_method_12_code
def yX4_isDigitBelow : MethodName := ⟨RX4, "isDigitBelow", "(II)Z"⟩
def RX5 : String := "GrangeParty$Risers"
def TX5 : u_T := fun k => match k with
  | 0 => ("GrangeParty$Risers", "most", "[I", true)
  | _ => ("GrangeParty$Risers", "here", "I", false)
def tyX5 : Nat → FieldType := fun k => match k with
  | 0 => .array .int
  | _ => .int
abbrev wsX50 : List Cond := u_ws RX5 TX5 2
theorem nmX5 : ∀ a, a < 2 → ∀ b, b < 2 → a ≠ b → (TX5 a).2.1 ≠ (TX5 b).2.1 := by decide +kernel
theorem tyX5_ok : ∀ k, k < 2 → parseFieldDescriptor (TX5 k).2.2.1 = some (tyX5 k) := by decide +kernel
abbrev cX5_init : ByteArray := prog_7_method_1_code
def yX5_init : MethodName := ⟨RX5, "<init>", "()V"⟩
abbrev cX5_find : ByteArray := prog_7_method_2_code
def yX5_find : MethodName := ⟨RX5, "find", "(LGrangeParty$Room;)V"⟩
abbrev cX5_isChoice : ByteArray := prog_7_method_3_code
def yX5_isChoice : MethodName := ⟨RX5, "isChoice", "(I)Z"⟩
abbrev cX5_fewest : ByteArray := prog_7_method_4_code
def yX5_fewest : MethodName := ⟨RX5, "fewest", "()I"⟩
def RX6 : String := "GrangeParty$Room"
def TX6 : u_T := fun k => match k with
  | 0 => ("GrangeParty$Room", "kind", "[I", true)
  | 1 => ("GrangeParty$Room", "shy", "[I", true)
  | 2 => ("GrangeParty$Room", "friend", "[I", true)
  | 3 => ("GrangeParty$Room", "guests", "I", false)
  | 4 => ("GrangeParty$Room", "here", "I", false)
  | 5 => ("GrangeParty$Room", "food", "I", false)
  | _ => ("GrangeParty$Room", "hours", "I", false)
def tyX6 : Nat → FieldType := fun k => match k with
  | 0 => .array .int
  | 1 => .array .int
  | 2 => .array .int
  | 3 => .int
  | 4 => .int
  | 5 => .int
  | _ => .int
abbrev wsX60 : List Cond := u_ws RX6 TX6 7
theorem nmX6 : ∀ a, a < 7 → ∀ b, b < 7 → a ≠ b → (TX6 a).2.1 ≠ (TX6 b).2.1 := by decide +kernel
theorem tyX6_ok : ∀ k, k < 7 → parseFieldDescriptor (TX6 k).2.2.1 = some (tyX6 k) := by decide +kernel
abbrev cX6_init : ByteArray := prog_8_method_1_code
def yX6_init : MethodName := ⟨RX6, "<init>", "()V"⟩
abbrev cX6_readFrom : ByteArray := prog_8_method_2_code
def yX6_readFrom : MethodName := ⟨RX6, "readFrom", "(LGrangeParty$Page;)V"⟩
abbrev cX6_copyFrom : ByteArray := prog_8_method_3_code
def yX6_copyFrom : MethodName := ⟨RX6, "copyFrom", "(LGrangeParty$Room;)V"⟩
abbrev cX6_hasGuest : ByteArray := prog_8_method_4_code
def yX6_hasGuest : MethodName := ⟨RX6, "hasGuest", "(I)Z"⟩
abbrev cX6_isHere : ByteArray := prog_8_method_5_code
def yX6_isHere : MethodName := ⟨RX6, "isHere", "(I)Z"⟩
abbrev cX6_everyone : ByteArray := prog_8_method_6_code
def yX6_everyone : MethodName := ⟨RX6, "everyone", "()I"⟩
abbrev cX6_gone : ByteArray := prog_8_method_7_code
def yX6_gone : MethodName := ⟨RX6, "gone", "()I"⟩
abbrev cX6_needsOf : ByteArray := prog_8_method_8_code
def yX6_needsOf : MethodName := ⟨RX6, "needsOf", "(I)I"⟩
abbrev cX6_countTogether : ByteArray := prog_8_method_9_code
def yX6_countTogether : MethodName := ⟨RX6, "countTogether", "(I)I"⟩
abbrev cX6_shyTogether : ByteArray := prog_8_method_10_code
def yX6_shyTogether : MethodName := ⟨RX6, "shyTogether", "(I)I"⟩
abbrev cX6_hasFriendAmong : ByteArray := prog_8_method_11_code
def yX6_hasFriendAmong : MethodName := ⟨RX6, "hasFriendAmong", "(II)Z"⟩
abbrev cX6_whoCanGo : ByteArray := prog_8_method_12_code
def yX6_whoCanGo : MethodName := ⟨RX6, "whoCanGo", "(I)I"⟩
abbrev cX6_mostWhoRise : ByteArray := prog_8_method_13_code
def yX6_mostWhoRise : MethodName := ⟨RX6, "mostWhoRise", "()I"⟩
abbrev cX6_whoCanGoAlone : ByteArray := prog_8_method_14_code
def yX6_whoCanGoAlone : MethodName := ⟨RX6, "whoCanGoAlone", "()I"⟩
abbrev cX6_letHourPass : ByteArray := prog_8_method_15_code
def yX6_letHourPass : MethodName := ⟨RX6, "letHourPass", "()I"⟩
abbrev cX6_makeLessShy : ByteArray := prog_8_method_16_code
def yX6_makeLessShy : MethodName := ⟨RX6, "makeLessShy", "(I)V"⟩
abbrev cX6_makeAllLessShy : ByteArray := prog_8_method_17_code
def yX6_makeAllLessShy : MethodName := ⟨RX6, "makeAllLessShy", "()V"⟩
abbrev cX6_goOneByOne : ByteArray := prog_8_method_18_code
def yX6_goOneByOne : MethodName := ⟨RX6, "goOneByOne", "()V"⟩
def RX7 : String := "GrangeParty$Seen"
def TX7 : u_T := fun k => match k with
  | 0 => ("GrangeParty$Seen", "guest", "[I", true)
  | 1 => ("GrangeParty$Seen", "others", "[I", true)
  | 2 => ("GrangeParty$Seen", "goes", "[Z", true)
  | _ => ("GrangeParty$Seen", "size", "I", false)
def tyX7 : Nat → FieldType := fun k => match k with
  | 0 => .array .int
  | 1 => .array .int
  | 2 => .array .boolean
  | _ => .int
abbrev wsX70 : List Cond := u_ws RX7 TX7 4
theorem nmX7 : ∀ a, a < 4 → ∀ b, b < 4 → a ≠ b → (TX7 a).2.1 ≠ (TX7 b).2.1 := by decide +kernel
theorem tyX7_ok : ∀ k, k < 4 → parseFieldDescriptor (TX7 k).2.2.1 = some (tyX7 k) := by decide +kernel
abbrev cX7_init : ByteArray := prog_9_method_1_code
def yX7_init : MethodName := ⟨RX7, "<init>", "()V"⟩
abbrev cX7_add : ByteArray := prog_9_method_2_code
def yX7_add : MethodName := ⟨RX7, "add", "(IIZ)I"⟩
abbrev cX7_clear : ByteArray := prog_9_method_3_code
def yX7_clear : MethodName := ⟨RX7, "clear", "()I"⟩
abbrev cX7_copyFrom : ByteArray := prog_9_method_4_code
def yX7_copyFrom : MethodName := ⟨RX7, "copyFrom", "(LGrangeParty$Seen;)V"⟩
abbrev cX7_shynessOf : ByteArray := prog_9_method_5_code
def yX7_shynessOf : MethodName := ⟨RX7, "shynessOf", "(II)I"⟩
abbrev cX7_whatToAsk : ByteArray := prog_9_method_6_code
def yX7_whatToAsk : MethodName := ⟨RX7, "whatToAsk", "(II)I"⟩
abbrev cX7_shynessThatGoes : ByteArray := prog_9_method_7_code
def yX7_shynessThatGoes : MethodName := ⟨RX7, "shynessThatGoes", "(II)I"⟩
def RX8 : String := "GrangeParty"
def TX8 : u_T := fun k => match k with
  | 0 => ("GrangeParty", "page", "LGrangeParty$Page;", true)
  | 1 => ("GrangeParty", "room", "LGrangeParty$Room;", true)
  | 2 => ("GrangeParty", "seen", "LGrangeParty$Seen;", true)
  | 3 => ("GrangeParty", "imageRoom", "LGrangeParty$Room;", true)
  | 4 => ("GrangeParty", "imageSeen", "LGrangeParty$Seen;", true)
  | 5 => ("GrangeParty", "trial", "LGrangeParty$Room;", true)
  | 6 => ("GrangeParty", "risers", "LGrangeParty$Risers;", true)
  | 7 => ("GrangeParty", "chances", "LGrangeParty$Chances;", true)
  | 8 => ("GrangeParty", "homes", "LGrangeParty$Homes;", true)
  | 9 => ("GrangeParty", "draws", "LGrangeParty$Draws;", true)
  | 10 => ("GrangeParty", "imageKept", "Z", false)
  | _ => ("GrangeParty", "partiesRead", "I", false)
def tyX8 : Nat → FieldType := fun k => match k with
  | 0 => .object "GrangeParty$Page"
  | 1 => .object "GrangeParty$Room"
  | 2 => .object "GrangeParty$Seen"
  | 3 => .object "GrangeParty$Room"
  | 4 => .object "GrangeParty$Seen"
  | 5 => .object "GrangeParty$Room"
  | 6 => .object "GrangeParty$Risers"
  | 7 => .object "GrangeParty$Chances"
  | 8 => .object "GrangeParty$Homes"
  | 9 => .object "GrangeParty$Draws"
  | 10 => .boolean
  | _ => .int
abbrev wsX80 : List Cond := u_ws RX8 TX8 12
theorem nmX8 : ∀ a, a < 12 → ∀ b, b < 12 → a ≠ b → (TX8 a).2.1 ≠ (TX8 b).2.1 := by decide +kernel
theorem tyX8_ok : ∀ k, k < 12 → parseFieldDescriptor (TX8 k).2.2.1 = some (tyX8 k) := by decide +kernel
abbrev cX8_init : ByteArray := prog_1_method_1_code
def yX8_init : MethodName := ⟨RX8, "<init>", "()V"⟩
abbrev cX8_letter : ByteArray := prog_1_method_2_code
def yX8_letter : MethodName := ⟨RX8, "letter", "(I)I"⟩
abbrev cX8_blank : ByteArray := prog_1_method_3_code
def yX8_blank : MethodName := ⟨RX8, "blank", "()I"⟩
abbrev cX8_fault : ByteArray := prog_1_method_4_code
def yX8_fault : MethodName := ⟨RX8, "fault", "()I"⟩
abbrev cX8_party : ByteArray := prog_1_method_5_code
def yX8_party : MethodName := ⟨RX8, "party", "()I"⟩
abbrev cX8_guest : ByteArray := prog_1_method_6_code
def yX8_guest : MethodName := ⟨RX8, "guest", "(II)I"⟩
abbrev cX8_as : ByteArray := prog_1_method_7_code
def yX8_as : MethodName := ⟨RX8, "as", "(II)I"⟩
abbrev cX8_rise : ByteArray := prog_1_method_8_code
def yX8_rise : MethodName := ⟨RX8, "rise", "(I)I"⟩
abbrev cX8_hour : ByteArray := prog_1_method_9_code
def yX8_hour : MethodName := ⟨RX8, "hour", "()I"⟩
abbrev cX8_hint : ByteArray := prog_1_method_10_code
def yX8_hint : MethodName := ⟨RX8, "hint", "(I)I"⟩
abbrev cX8_back : ByteArray := prog_1_method_11_code
def yX8_back : MethodName := ⟨RX8, "back", "(I)I"⟩
abbrev cX8_feed : ByteArray := prog_1_method_12_code
def yX8_feed : MethodName := ⟨RX8, "feed", "(I)I"⟩
abbrev cX8_turn : ByteArray := prog_1_method_13_code
def yX8_turn : MethodName := ⟨RX8, "turn", "(III)I"⟩
abbrev cX8_most : ByteArray := prog_1_method_14_code
def yX8_most : MethodName := ⟨RX8, "most", "()I"⟩
abbrev cX8_least : ByteArray := prog_1_method_15_code
def yX8_least : MethodName := ⟨RX8, "least", "()I"⟩
abbrev cX8_hire : ByteArray := prog_1_method_16_code
def yX8_hire : MethodName := ⟨RX8, "hire", "(I)I"⟩
abbrev cX8_ends : ByteArray := prog_1_method_17_code
def yX8_ends : MethodName := ⟨RX8, "ends", "()I"⟩
abbrev cX8_odds : ByteArray := prog_1_method_18_code
def yX8_odds : MethodName := ⟨RX8, "odds", "(III)I"⟩
abbrev cX8_see : ByteArray := prog_1_method_19_code
def yX8_see : MethodName := ⟨RX8, "see", "(IIZ)I"⟩
abbrev cX8_forget : ByteArray := prog_1_method_20_code
def yX8_forget : MethodName := ⟨RX8, "forget", "()I"⟩
abbrev cX8_nights : ByteArray := prog_1_method_21_code
def yX8_nights : MethodName := ⟨RX8, "nights", "(III)I"⟩
abbrev cX8_image : ByteArray := prog_1_method_22_code
def yX8_image : MethodName := ⟨RX8, "image", "()I"⟩
abbrev cX8_restore : ByteArray := prog_1_method_23_code
def yX8_restore : MethodName := ⟨RX8, "restore", "()I"⟩
abbrev cX8_count : ByteArray := prog_1_method_24_code
def yX8_count : MethodName := ⟨RX8, "count", "(I)I"⟩
abbrev cX8_digest : ByteArray := prog_1_method_25_code
def yX8_digest : MethodName := ⟨RX8, "digest", "()J"⟩
abbrev cX8_hasParty : ByteArray := prog_1_method_26_code
def yX8_hasParty : MethodName := ⟨RX8, "hasParty", "()Z"⟩
abbrev cX8_tellOfGuest : ByteArray := prog_1_method_27_code
def yX8_tellOfGuest : MethodName := ⟨RX8, "tellOfGuest", "(II)I"⟩
abbrev cX8_whoShouldBePale : ByteArray := prog_1_method_28_code
def yX8_whoShouldBePale : MethodName := ⟨RX8, "whoShouldBePale", "()I"⟩
abbrev cX8_tryNights : ByteArray := prog_1_method_29_code
def yX8_tryNights : MethodName := ⟨RX8, "tryNights", "(II)V"⟩
abbrev cX8_mixGuests : ByteArray := prog_1_method_30_code
def yX8_mixGuests : MethodName := ⟨RX8, "mixGuests", "(J)J"⟩
abbrev cX8_mixWouldBe : ByteArray := prog_1_method_31_code
def yX8_mixWouldBe : MethodName := ⟨RX8, "mixWouldBe", "(J)J"⟩
abbrev cX8_mixOdds : ByteArray := prog_1_method_32_code
def yX8_mixOdds : MethodName := ⟨RX8, "mixOdds", "(J)J"⟩
abbrev cX8_mix : ByteArray := prog_1_method_33_code
def yX8_mix : MethodName := ⟨RX8, "mix", "(JJ)J"⟩
abbrev cX8_isAmong : ByteArray := prog_1_method_34_code
def yX8_isAmong : MethodName := ⟨RX8, "isAmong", "(II)Z"⟩
def RX9 : String := "GrangePartyModel"
def TX9 : u_T := fun k => match k with
  | 0 => ("GrangePartyModel", "parties", "I", false)
  | 1 => ("GrangePartyModel", "guests", "I", false)
  | 2 => ("GrangePartyModel", "food", "I", false)
  | 3 => ("GrangePartyModel", "hours", "I", false)
  | 4 => ("GrangePartyModel", "here", "I", false)
  | 5 => ("GrangePartyModel", "kindOf", "[I", true)
  | 6 => ("GrangePartyModel", "shyOf", "[I", true)
  | 7 => ("GrangePartyModel", "friendOf", "[I", true)
  | 8 => ("GrangePartyModel", "seen", "I", false)
  | 9 => ("GrangePartyModel", "seenGuest", "[I", true)
  | 10 => ("GrangePartyModel", "seenOthers", "[I", true)
  | 11 => ("GrangePartyModel", "seenGoes", "[I", true)
  | 12 => ("GrangePartyModel", "pageLength", "I", false)
  | 13 => ("GrangePartyModel", "page", "[B", true)
  | 14 => ("GrangePartyModel", "isWhole", "Z", false)
  | 15 => ("GrangePartyModel", "newGuests", "I", false)
  | 16 => ("GrangePartyModel", "savedShy", "[I", true)
  | 17 => ("GrangePartyModel", "savedHere", "I", false)
  | 18 => ("GrangePartyModel", "savedFood", "I", false)
  | 19 => ("GrangePartyModel", "seedNow", "J", false)
  | 20 => ("GrangePartyModel", "isKept", "Z", false)
  | 21 => ("GrangePartyModel", "keptParty", "I", false)
  | 22 => ("GrangePartyModel", "keptFood", "I", false)
  | 23 => ("GrangePartyModel", "keptHours", "I", false)
  | 24 => ("GrangePartyModel", "keptHere", "I", false)
  | 25 => ("GrangePartyModel", "keptSeen", "I", false)
  | 26 => ("GrangePartyModel", "keptKind", "[I", true)
  | 27 => ("GrangePartyModel", "keptShy", "[I", true)
  | 28 => ("GrangePartyModel", "keptGuest", "[I", true)
  | 29 => ("GrangePartyModel", "keptOthers", "[I", true)
  | 30 => ("GrangePartyModel", "keptGoes", "[I", true)
  | _ => ("GrangePartyModel", "h", "J", false)
def tyX9 : Nat → FieldType := fun k => match k with
  | 0 => .int
  | 1 => .int
  | 2 => .int
  | 3 => .int
  | 4 => .int
  | 5 => .array .int
  | 6 => .array .int
  | 7 => .array .int
  | 8 => .int
  | 9 => .array .int
  | 10 => .array .int
  | 11 => .array .int
  | 12 => .int
  | 13 => .array .byte
  | 14 => .boolean
  | 15 => .int
  | 16 => .array .int
  | 17 => .int
  | 18 => .int
  | 19 => .long
  | 20 => .boolean
  | 21 => .int
  | 22 => .int
  | 23 => .int
  | 24 => .int
  | 25 => .int
  | 26 => .array .int
  | 27 => .array .int
  | 28 => .array .int
  | 29 => .array .int
  | 30 => .array .int
  | _ => .long
abbrev wsX90 : List Cond := u_ws RX9 TX9 32
theorem nmX9 : ∀ a, a < 32 → ∀ b, b < 32 → a ≠ b → (TX9 a).2.1 ≠ (TX9 b).2.1 := by decide +kernel
theorem tyX9_ok : ∀ k, k < 32 → parseFieldDescriptor (TX9 k).2.2.1 = some (tyX9 k) := by decide +kernel
abbrev cX9_init : ByteArray := prog_11_method_1_code
def yX9_init : MethodName := ⟨RX9, "<init>", "()V"⟩
abbrev cX9_within : ByteArray := prog_11_method_3_code
def yX9_within : MethodName := ⟨RX9, "within", "(III)Z"⟩
abbrev cX9_isIn : ByteArray := prog_11_method_4_code
def yX9_isIn : MethodName := ⟨RX9, "isIn", "(II)Z"⟩
abbrev cX9_size : ByteArray := prog_11_method_5_code
def yX9_size : MethodName := ⟨RX9, "size", "(I)I"⟩
abbrev cX9_divisor : ByteArray := prog_11_method_6_code
def yX9_divisor : MethodName := ⟨RX9, "divisor", "(II)I"⟩
abbrev cX9_letter : ByteArray := prog_11_method_7_code
def yX9_letter : MethodName := ⟨RX9, "letter", "(I)I"⟩
abbrev cX9_blank : ByteArray := prog_11_method_8_code
def yX9_blank : MethodName := ⟨RX9, "blank", "()I"⟩
abbrev cX9_kindBy : ByteArray := prog_11_method_9_code
def yX9_kindBy : MethodName := ⟨RX9, "kindBy", "(I)I"⟩
abbrev cX9_at : ByteArray := prog_11_method_10_code
def yX9_at : MethodName := ⟨RX9, "at", "(I)I"⟩
abbrev cX9_isFigure : ByteArray := prog_11_method_11_code
def yX9_isFigure : MethodName := ⟨RX9, "isFigure", "(II)Z"⟩
abbrev cX9_readGuest : ByteArray := prog_11_method_12_code
def yX9_readGuest : MethodName := ⟨RX9, "readGuest", "(I)I"⟩
abbrev cX9_read : ByteArray := prog_11_method_13_code
def yX9_read : MethodName := ⟨RX9, "read", "()I"⟩
abbrev cX9_fault : ByteArray := prog_11_method_14_code
def yX9_fault : MethodName := ⟨RX9, "fault", "()I"⟩
abbrev cX9_party : ByteArray := prog_11_method_15_code
def yX9_party : MethodName := ⟨RX9, "party", "()I"⟩
abbrev cX9_isGuest : ByteArray := prog_11_method_16_code
def yX9_isGuest : MethodName := ⟨RX9, "isGuest", "(I)Z"⟩
abbrev cX9_all : ByteArray := prog_11_method_17_code
def yX9_all : MethodName := ⟨RX9, "all", "()I"⟩
abbrev cX9_needsBy : ByteArray := prog_11_method_18_code
def yX9_needsBy : MethodName := ⟨RX9, "needsBy", "(II)I"⟩
abbrev cX9_needs : ByteArray := prog_11_method_19_code
def yX9_needs : MethodName := ⟨RX9, "needs", "(I)I"⟩
abbrev cX9_counts : ByteArray := prog_11_method_20_code
def yX9_counts : MethodName := ⟨RX9, "counts", "(I)I"⟩
abbrev cX9_countsOf : ByteArray := prog_11_method_21_code
def yX9_countsOf : MethodName := ⟨RX9, "countsOf", "(I)I"⟩
abbrev cX9_gone : ByteArray := prog_11_method_22_code
def yX9_gone : MethodName := ⟨RX9, "gone", "()I"⟩
abbrev cX9_othersFor : ByteArray := prog_11_method_23_code
def yX9_othersFor : MethodName := ⟨RX9, "othersFor", "(II)I"⟩
abbrev cX9_hasFriend : ByteArray := prog_11_method_24_code
def yX9_hasFriend : MethodName := ⟨RX9, "hasFriend", "(II)Z"⟩
abbrev cX9_canGo : ByteArray := prog_11_method_25_code
def yX9_canGo : MethodName := ⟨RX9, "canGo", "(II)Z"⟩
abbrev cX9_canRise : ByteArray := prog_11_method_26_code
def yX9_canRise : MethodName := ⟨RX9, "canRise", "(I)Z"⟩
abbrev cX9_mostOf : ByteArray := prog_11_method_27_code
def yX9_mostOf : MethodName := ⟨RX9, "mostOf", "(I)I"⟩
abbrev cX9_withoutStuck : ByteArray := prog_11_method_28_code
def yX9_withoutStuck : MethodName := ⟨RX9, "withoutStuck", "(I)I"⟩
abbrev cX9_guestNow : ByteArray := prog_11_method_29_code
def yX9_guestNow : MethodName := ⟨RX9, "guestNow", "(II)I"⟩
abbrev cX9_guest : ByteArray := prog_11_method_30_code
def yX9_guest : MethodName := ⟨RX9, "guest", "(II)I"⟩
abbrev cX9_as : ByteArray := prog_11_method_31_code
def yX9_as : MethodName := ⟨RX9, "as", "(II)I"⟩
abbrev cX9_rise : ByteArray := prog_11_method_32_code
def yX9_rise : MethodName := ⟨RX9, "rise", "(I)I"⟩
abbrev cX9_firstAlone : ByteArray := prog_11_method_33_code
def yX9_firstAlone : MethodName := ⟨RX9, "firstAlone", "()I"⟩
abbrev cX9_shyLess : ByteArray := prog_11_method_34_code
def yX9_shyLess : MethodName := ⟨RX9, "shyLess", "(I)V"⟩
abbrev cX9_goHour : ByteArray := prog_11_method_35_code
def yX9_goHour : MethodName := ⟨RX9, "goHour", "()I"⟩
abbrev cX9_hour : ByteArray := prog_11_method_36_code
def yX9_hour : MethodName := ⟨RX9, "hour", "()I"⟩
abbrev cX9_hint : ByteArray := prog_11_method_37_code
def yX9_hint : MethodName := ⟨RX9, "hint", "(I)I"⟩
abbrev cX9_back : ByteArray := prog_11_method_38_code
def yX9_back : MethodName := ⟨RX9, "back", "(I)I"⟩
abbrev cX9_feed : ByteArray := prog_11_method_39_code
def yX9_feed : MethodName := ⟨RX9, "feed", "(I)I"⟩
abbrev cX9_turn : ByteArray := prog_11_method_40_code
def yX9_turn : MethodName := ⟨RX9, "turn", "(III)I"⟩
abbrev cX9_most : ByteArray := prog_11_method_41_code
def yX9_most : MethodName := ⟨RX9, "most", "()I"⟩
abbrev cX9_leastNow : ByteArray := prog_11_method_42_code
def yX9_leastNow : MethodName := ⟨RX9, "leastNow", "()I"⟩
abbrev cX9_least : ByteArray := prog_11_method_43_code
def yX9_least : MethodName := ⟨RX9, "least", "()I"⟩
abbrev cX9_hintsFor : ByteArray := prog_11_method_44_code
def yX9_hintsFor : MethodName := ⟨RX9, "hintsFor", "(II)I"⟩
abbrev cX9_hintsIn : ByteArray := prog_11_method_45_code
def yX9_hintsIn : MethodName := ⟨RX9, "hintsIn", "(I)I"⟩
abbrev cX9_homeFor : ByteArray := prog_11_method_46_code
def yX9_homeFor : MethodName := ⟨RX9, "homeFor", "(I)I"⟩
abbrev cX9_hired : ByteArray := prog_11_method_47_code
def yX9_hired : MethodName := ⟨RX9, "hired", "()I"⟩
abbrev cX9_hire : ByteArray := prog_11_method_48_code
def yX9_hire : MethodName := ⟨RX9, "hire", "(I)I"⟩
abbrev cX9_save : ByteArray := prog_11_method_49_code
def yX9_save : MethodName := ⟨RX9, "save", "()V"⟩
abbrev cX9_load : ByteArray := prog_11_method_50_code
def yX9_load : MethodName := ⟨RX9, "load", "()V"⟩
abbrev cX9_endsNow : ByteArray := prog_11_method_51_code
def yX9_endsNow : MethodName := ⟨RX9, "endsNow", "()I"⟩
abbrev cX9_ends : ByteArray := prog_11_method_52_code
def yX9_ends : MethodName := ⟨RX9, "ends", "()I"⟩
abbrev cX9_oddsNow : ByteArray := prog_11_method_53_code
def yX9_oddsNow : MethodName := ⟨RX9, "oddsNow", "(III)I"⟩
abbrev cX9_odds : ByteArray := prog_11_method_54_code
def yX9_odds : MethodName := ⟨RX9, "odds", "(III)I"⟩
abbrev cX9_see : ByteArray := prog_11_method_55_code
def yX9_see : MethodName := ⟨RX9, "see", "(IIZ)I"⟩
abbrev cX9_forget : ByteArray := prog_11_method_56_code
def yX9_forget : MethodName := ⟨RX9, "forget", "()I"⟩
abbrev cX9_wouldGo : ByteArray := prog_11_method_57_code
def yX9_wouldGo : MethodName := ⟨RX9, "wouldGo", "(III)Z"⟩
abbrev cX9_shynessOf : ByteArray := prog_11_method_58_code
def yX9_shynessOf : MethodName := ⟨RX9, "shynessOf", "(I)I"⟩
abbrev cX9_askOf : ByteArray := prog_11_method_59_code
def yX9_askOf : MethodName := ⟨RX9, "askOf", "(I)I"⟩
abbrev cX9_draw : ByteArray := prog_11_method_60_code
def yX9_draw : MethodName := ⟨RX9, "draw", "(I)I"⟩
abbrev cX9_goNight : ByteArray := prog_11_method_61_code
def yX9_goNight : MethodName := ⟨RX9, "goNight", "()V"⟩
abbrev cX9_nightsNow : ByteArray := prog_11_method_62_code
def yX9_nightsNow : MethodName := ⟨RX9, "nightsNow", "(III)I"⟩
abbrev cX9_nights : ByteArray := prog_11_method_63_code
def yX9_nights : MethodName := ⟨RX9, "nights", "(III)I"⟩
abbrev cX9_image : ByteArray := prog_11_method_64_code
def yX9_image : MethodName := ⟨RX9, "image", "()I"⟩
abbrev cX9_restore : ByteArray := prog_11_method_65_code
def yX9_restore : MethodName := ⟨RX9, "restore", "()I"⟩
abbrev cX9_shyAll : ByteArray := prog_11_method_66_code
def yX9_shyAll : MethodName := ⟨RX9, "shyAll", "()I"⟩
abbrev cX9_alone : ByteArray := prog_11_method_67_code
def yX9_alone : MethodName := ⟨RX9, "alone", "()I"⟩
abbrev cX9_howMany : ByteArray := prog_11_method_68_code
def yX9_howMany : MethodName := ⟨RX9, "howMany", "(I)I"⟩
abbrev cX9_count : ByteArray := prog_11_method_69_code
def yX9_count : MethodName := ⟨RX9, "count", "(I)I"⟩
abbrev cX9_mix : ByteArray := prog_11_method_70_code
def yX9_mix : MethodName := ⟨RX9, "mix", "(J)V"⟩
abbrev cX9_mixParty : ByteArray := prog_11_method_71_code
def yX9_mixParty : MethodName := ⟨RX9, "mixParty", "()V"⟩
abbrev cX9_digest : ByteArray := prog_11_method_72_code
def yX9_digest : MethodName := ⟨RX9, "digest", "()J"⟩
def RJ6 : String := "java/lang/Integer"
def TJ6 : u_T := fun k => match k with
  | _ => ("", "", "", false)
def tyJ6 : Nat → FieldType := fun k => match k with
  | _ => .int
abbrev wsJ60 : List Cond := u_ws RJ6 TJ6 0
theorem nmJ6 : ∀ a, a < 0 → ∀ b, b < 0 → a ≠ b → (TJ6 a).2.1 ≠ (TJ6 b).2.1 := by decide +kernel
theorem tyJ6_ok : ∀ k, k < 0 → parseFieldDescriptor (TJ6 k).2.2.1 = some (tyJ6 k) := by decide +kernel
abbrev cJ6_bitCount_0f7a4 : ByteArray := prog_12_method_49_code
def yJ6_bitCount_0f7a4 : MethodName := ⟨RJ6, "bitCount", "(I)I"⟩
def RJ9 : String := "java/lang/Math"
def TJ9 : u_T := fun k => match k with
  | _ => ("", "", "", false)
def tyJ9 : Nat → FieldType := fun k => match k with
  | _ => .int
abbrev wsJ90 : List Cond := u_ws RJ9 TJ9 0
theorem nmJ9 : ∀ a, a < 0 → ∀ b, b < 0 → a ≠ b → (TJ9 a).2.1 ≠ (TJ9 b).2.1 := by decide +kernel
theorem tyJ9_ok : ∀ k, k < 0 → parseFieldDescriptor (TJ9 k).2.2.1 = some (tyJ9 k) := by decide +kernel
abbrev cJ9_max_7cf53 : ByteArray := prog_13_method_65_code
def yJ9_max_7cf53 : MethodName := ⟨RJ9, "max", "(II)I"⟩
def RJ0 : String := "java/lang/String"
def TJ0 : u_T := fun k => match k with
  | _ => ("", "", "", false)
def tyJ0 : Nat → FieldType := fun k => match k with
  | _ => .int
abbrev wsJ00 : List Cond := u_ws RJ0 TJ0 0
theorem nmJ0 : ∀ a, a < 0 → ∀ b, b < 0 → a ≠ b → (TJ0 a).2.1 ≠ (TJ0 b).2.1 := by decide +kernel
theorem tyJ0_ok : ∀ k, k < 0 → parseFieldDescriptor (TJ0 k).2.2.1 = some (tyJ0 k) := by decide +kernel
abbrev cJ0_length_8abf5 : ByteArray := prog_14_method_54_code
def yJ0_length_8abf5 : MethodName := ⟨RJ0, "length", "()I"⟩
abbrev cJ0_charAt_5068e : ByteArray := prog_14_method_56_code
def yJ0_charAt_5068e : MethodName := ⟨RJ0, "charAt", "(I)C"⟩
abbrev cJ0_coder_7d493 : ByteArray := prog_14_method_152_code
def yJ0_coder_7d493 : MethodName := ⟨RJ0, "coder", "()B"⟩
abbrev cJ0_isLatin1_aae02 : ByteArray := prog_14_method_154_code
def yJ0_isLatin1_aae02 : MethodName := ⟨RJ0, "isLatin1", "()Z"⟩
abbrev cJ0_checkIndex_df160 : ByteArray := prog_14_method_155_code
def yJ0_checkIndex_df160 : MethodName := ⟨RJ0, "checkIndex", "(II)V"⟩
def RJ1 : String := "java/lang/StringLatin1"
def TJ1 : u_T := fun k => match k with
  | _ => ("", "", "", false)
def tyJ1 : Nat → FieldType := fun k => match k with
  | _ => .int
abbrev wsJ10 : List Cond := u_ws RJ1 TJ1 0
theorem nmJ1 : ∀ a, a < 0 → ∀ b, b < 0 → a ≠ b → (TJ1 a).2.1 ≠ (TJ1 b).2.1 := by decide +kernel
theorem tyJ1_ok : ∀ k, k < 0 → parseFieldDescriptor (TJ1 k).2.2.1 = some (tyJ1 k) := by decide +kernel
abbrev cJ1_charAt_3b067 : ByteArray := prog_15_method_2_code
def yJ1_charAt_3b067 : MethodName := ⟨RJ1, "charAt", "([BI)C"⟩
def RJ2 : String := "java/lang/StringUTF16"
def TJ2 : u_T := fun k => match k with
  | _ => ("", "", "", false)
def tyJ2 : Nat → FieldType := fun k => match k with
  | _ => .int
abbrev wsJ20 : List Cond := u_ws RJ2 TJ2 0
theorem nmJ2 : ∀ a, a < 0 → ∀ b, b < 0 → a ≠ b → (TJ2 a).2.1 ≠ (TJ2 b).2.1 := by decide +kernel
theorem tyJ2_ok : ∀ k, k < 0 → parseFieldDescriptor (TJ2 k).2.2.1 = some (tyJ2 k) := by decide +kernel
abbrev cJ2_getChar_3b067 : ByteArray := prog_16_method_5_code
def yJ2_getChar_3b067 : MethodName := ⟨RJ2, "getChar", "([BI)C"⟩
abbrev cJ2_length_9d52b : ByteArray := prog_16_method_6_code
def yJ2_length_9d52b : MethodName := ⟨RJ2, "length", "([B)I"⟩
abbrev cJ2_charAt_3b067 : ByteArray := prog_16_method_83_code
def yJ2_charAt_3b067 : MethodName := ⟨RJ2, "charAt", "([BI)C"⟩
abbrev cJ2_checkIndex_2214a : ByteArray := prog_16_method_91_code
def yJ2_checkIndex_2214a : MethodName := ⟨RJ2, "checkIndex", "(I[B)V"⟩
def RJ10 : String := "java/lang/System"
def TJ10 : u_T := fun k => match k with
  | _ => ("", "", "", false)
def tyJ10 : Nat → FieldType := fun k => match k with
  | _ => .int
abbrev wsJ100 : List Cond := u_ws RJ10 TJ10 0
theorem nmJ10 : ∀ a, a < 0 → ∀ b, b < 0 → a ≠ b → (TJ10 a).2.1 ≠ (TJ10 b).2.1 := by decide +kernel
theorem tyJ10_ok : ∀ k, k < 0 → parseFieldDescriptor (TJ10 k).2.2.1 = some (tyJ10 k) := by decide +kernel
def RJ3 : String := "jdk/internal/util/Preconditions"
def TJ3 : u_T := fun k => match k with
  | _ => ("", "", "", false)
def tyJ3 : Nat → FieldType := fun k => match k with
  | _ => .int
abbrev wsJ30 : List Cond := u_ws RJ3 TJ3 0
theorem nmJ3 : ∀ a, a < 0 → ∀ b, b < 0 → a ≠ b → (TJ3 a).2.1 ≠ (TJ3 b).2.1 := by decide +kernel
theorem tyJ3_ok : ∀ k, k < 0 → parseFieldDescriptor (TJ3 k).2.2.1 = some (tyJ3 k) := by decide +kernel
abbrev cJ3_checkIndex_8e157 : ByteArray := prog_18_method_11_code
def yJ3_checkIndex_8e157 : MethodName := ⟨RJ3, "checkIndex", "(IILjava/util/function/BiFunction;)I"⟩
def RL : String := "GrangePartyLaw"
abbrev cL_law : ByteArray := code
def yL_law : MethodName := ⟨RL, "law", "([I)Z"⟩
abbrev vwCl : List vw_C := [(RX0, TX0, 3), (RX1, TX1, 1), (RX2, TX2, 1), (RX4, TX4, 2), (RX5, TX5, 2), (RX6, TX6, 7), (RX7, TX7, 4), (RX8, TX8, 12), (RX9, TX9, 32)]
def z_tb : List Cond := lw_tbl.filter goodWord
theorem z_in {w : Cond} (i : Nat) (h : lw_tbl[i]? = some w) (g : goodWord w = true) : w ∈ z_tb := List.mem_filter.mpr ⟨List.mem_of_getElem? h, g⟩
theorem z_goodIn {ws : List Cond} (h : ∀ w ∈ ws, w ∈ z_tb) : GoodIn z_tb ws := fun w hw => ⟨h w hw, good_of_word (List.mem_filter.mp (h w hw)).2⟩
theorem z_tbl {w : Cond} (h : w ∈ z_tb) : w ∈ lw_tbl := (List.mem_filter.mp h).1
end
section
theorem dX0_init_0 : decode cX0_init 0 = .ok (.aload_n 0, 1) := by decide +kernel
theorem dX0_init_1 : decode cX0_init 1 = .ok (.invokespecial 3, 3) := by decide +kernel
theorem dX0_init_4 : decode cX0_init 4 = .ok (.aload_n 0, 1) := by decide +kernel
theorem dX0_init_5 : decode cX0_init 5 = .ok (.bipush 8, 2) := by decide +kernel
theorem dX0_init_7 : decode cX0_init 7 = .ok (.newarray .int, 2) := by decide +kernel
theorem dX0_init_9 : decode cX0_init 9 = .ok (.putfield 9, 3) := by decide +kernel
theorem dX0_init_12 : decode cX0_init 12 = .ok (.return_, 1) := by decide +kernel
theorem dX0_find_0 : decode cX0_find 0 = .ok (.aload_n 1, 1) := by decide +kernel
theorem dX0_find_1 : decode cX0_find 1 = .ok (.getfield 15, 3) := by decide +kernel
theorem dX0_find_4 : decode cX0_find 4 = .ok (.invokestatic 21, 3) := by decide +kernel
theorem dX0_find_7 : decode cX0_find 7 = .ok (.iconst 1, 1) := by decide +kernel
theorem dX0_find_8 : decode cX0_find 8 = .ok (.isub, 1) := by decide +kernel
theorem dX0_find_9 : decode cX0_find 9 = .ok (.istore 4, 2) := by decide +kernel
theorem dX0_find_11 : decode cX0_find 11 = .ok (.aload_n 0, 1) := by decide +kernel
theorem dX0_find_12 : decode cX0_find 12 = .ok (.iload 4, 2) := by decide +kernel
theorem dX0_find_14 : decode cX0_find 14 = .ok (.iload_n 3, 1) := by decide +kernel
theorem dX0_find_15 : decode cX0_find 15 = .ok (.invokevirtual 27, 3) := by decide +kernel
theorem dX0_find_18 : decode cX0_find 18 = .ok (.aload_n 0, 1) := by decide +kernel
theorem dX0_find_19 : decode cX0_find 19 = .ok (.iconst 0, 1) := by decide +kernel
theorem dX0_find_20 : decode cX0_find 20 = .ok (.putfield 31, 3) := by decide +kernel
theorem dX0_find_23 : decode cX0_find 23 = .ok (.iconst 1, 1) := by decide +kernel
theorem dX0_find_24 : decode cX0_find 24 = .ok (.istore 5, 2) := by decide +kernel
theorem dX0_find_26 : decode cX0_find 26 = .ok (.iload 5, 2) := by decide +kernel
theorem dX0_find_28 : decode cX0_find 28 = .ok (.aload_n 1, 1) := by decide +kernel
theorem dX0_find_29 : decode cX0_find 29 = .ok (.getfield 15, 3) := by decide +kernel
theorem dX0_find_32 : decode cX0_find 32 = .ok (.if_icmp .gt 57, 3) := by decide +kernel
theorem dX0_find_35 : decode cX0_find 35 = .ok (.iload 5, 2) := by decide +kernel
theorem dX0_find_37 : decode cX0_find 37 = .ok (.aload_n 1, 1) := by decide +kernel
theorem dX0_find_38 : decode cX0_find 38 = .ok (.getfield 34, 3) := by decide +kernel
theorem dX0_find_41 : decode cX0_find 41 = .ok (.arraylength, 1) := by decide +kernel
theorem dX0_find_42 : decode cX0_find 42 = .ok (.if_icmp .ge 47, 3) := by decide +kernel
theorem dX0_find_45 : decode cX0_find 45 = .ok (.aload_n 1, 1) := by decide +kernel
theorem dX0_find_46 : decode cX0_find 46 = .ok (.iload 5, 2) := by decide +kernel
theorem dX0_find_48 : decode cX0_find 48 = .ok (.invokevirtual 37, 3) := by decide +kernel
theorem dX0_find_51 : decode cX0_find 51 = .ok (.ifCond .eq 32, 3) := by decide +kernel
theorem dX0_find_54 : decode cX0_find 54 = .ok (.iload_n 2, 1) := by decide +kernel
theorem dX0_find_55 : decode cX0_find 55 = .ok (.aload_n 1, 1) := by decide +kernel
theorem dX0_find_56 : decode cX0_find 56 = .ok (.getfield 34, 3) := by decide +kernel
theorem dX0_find_59 : decode cX0_find 59 = .ok (.iload 5, 2) := by decide +kernel
theorem dX0_find_61 : decode cX0_find 61 = .ok (.iaload, 1) := by decide +kernel
theorem dX0_find_62 : decode cX0_find 62 = .ok (.invokestatic 41, 3) := by decide +kernel
theorem dX0_find_65 : decode cX0_find 65 = .ok (.ifCond .eq 18, 3) := by decide +kernel
theorem dX0_find_68 : decode cX0_find 68 = .ok (.aload_n 0, 1) := by decide +kernel
theorem dX0_find_69 : decode cX0_find 69 = .ok (.dup, 1) := by decide +kernel
theorem dX0_find_70 : decode cX0_find 70 = .ok (.getfield 31, 3) := by decide +kernel
theorem dX0_find_73 : decode cX0_find 73 = .ok (.aload_n 0, 1) := by decide +kernel
theorem dX0_find_74 : decode cX0_find 74 = .ok (.iload 5, 2) := by decide +kernel
theorem dX0_find_76 : decode cX0_find 76 = .ok (.invokevirtual 45, 3) := by decide +kernel
theorem dX0_find_79 : decode cX0_find 79 = .ok (.iadd, 1) := by decide +kernel
theorem dX0_find_80 : decode cX0_find 80 = .ok (.putfield 31, 3) := by decide +kernel
theorem dX0_find_83 : decode cX0_find 83 = .ok (.iinc 5 1, 3) := by decide +kernel
theorem dX0_find_86 : decode cX0_find 86 = .ok (.goto (-60), 3) := by decide +kernel
theorem dX0_find_89 : decode cX0_find 89 = .ok (.aload_n 0, 1) := by decide +kernel
theorem dX0_find_90 : decode cX0_find 90 = .ok (.bipush 10, 2) := by decide +kernel
theorem dX0_find_92 : decode cX0_find 92 = .ok (.iload 4, 2) := by decide +kernel
theorem dX0_find_94 : decode cX0_find 94 = .ok (.invokestatic 48, 3) := by decide +kernel
theorem dX0_find_97 : decode cX0_find 97 = .ok (.putfield 52, 3) := by decide +kernel
theorem dX0_find_100 : decode cX0_find 100 = .ok (.aload_n 0, 1) := by decide +kernel
theorem dX0_find_101 : decode cX0_find 101 = .ok (.invokevirtual 55, 3) := by decide +kernel
theorem dX0_find_104 : decode cX0_find 104 = .ok (.return_, 1) := by decide +kernel
theorem dX0_weigh_0 : decode cX0_weigh 0 = .ok (.iconst 0, 1) := by decide +kernel
theorem dX0_weigh_1 : decode cX0_weigh 1 = .ok (.istore_n 3, 1) := by decide +kernel
theorem dX0_weigh_2 : decode cX0_weigh 2 = .ok (.iload_n 3, 1) := by decide +kernel
theorem dX0_weigh_3 : decode cX0_weigh 3 = .ok (.iload_n 1, 1) := by decide +kernel
theorem dX0_weigh_4 : decode cX0_weigh 4 = .ok (.if_icmp .gt 37, 3) := by decide +kernel
theorem dX0_weigh_7 : decode cX0_weigh 7 = .ok (.iload_n 3, 1) := by decide +kernel
theorem dX0_weigh_8 : decode cX0_weigh 8 = .ok (.bipush 8, 2) := by decide +kernel
theorem dX0_weigh_10 : decode cX0_weigh 10 = .ok (.if_icmp .ge 31, 3) := by decide +kernel
theorem dX0_weigh_13 : decode cX0_weigh 13 = .ok (.aload_n 0, 1) := by decide +kernel
theorem dX0_weigh_14 : decode cX0_weigh 14 = .ok (.getfield 9, 3) := by decide +kernel
theorem dX0_weigh_17 : decode cX0_weigh 17 = .ok (.iload_n 3, 1) := by decide +kernel
theorem dX0_weigh_18 : decode cX0_weigh 18 = .ok (.bipush 10, 2) := by decide +kernel
theorem dX0_weigh_20 : decode cX0_weigh 20 = .ok (.iload_n 2, 1) := by decide +kernel
theorem dX0_weigh_21 : decode cX0_weigh 21 = .ok (.isub, 1) := by decide +kernel
theorem dX0_weigh_22 : decode cX0_weigh 22 = .ok (.iload_n 3, 1) := by decide +kernel
theorem dX0_weigh_23 : decode cX0_weigh 23 = .ok (.invokestatic 48, 3) := by decide +kernel
theorem dX0_weigh_26 : decode cX0_weigh 26 = .ok (.iload_n 2, 1) := by decide +kernel
theorem dX0_weigh_27 : decode cX0_weigh 27 = .ok (.iload_n 1, 1) := by decide +kernel
theorem dX0_weigh_28 : decode cX0_weigh 28 = .ok (.iload_n 3, 1) := by decide +kernel
theorem dX0_weigh_29 : decode cX0_weigh 29 = .ok (.isub, 1) := by decide +kernel
theorem dX0_weigh_30 : decode cX0_weigh 30 = .ok (.invokestatic 48, 3) := by decide +kernel
theorem dX0_weigh_33 : decode cX0_weigh 33 = .ok (.imul, 1) := by decide +kernel
theorem dX0_weigh_34 : decode cX0_weigh 34 = .ok (.iastore, 1) := by decide +kernel
theorem dX0_weigh_35 : decode cX0_weigh 35 = .ok (.iinc 3 1, 3) := by decide +kernel
theorem dX0_weigh_38 : decode cX0_weigh 38 = .ok (.goto (-36), 3) := by decide +kernel
theorem dX0_weigh_41 : decode cX0_weigh 41 = .ok (.return_, 1) := by decide +kernel
theorem dX0_weightOf_0 : decode cX0_weightOf 0 = .ok (.iload_n 1, 1) := by decide +kernel
theorem dX0_weightOf_1 : decode cX0_weightOf 1 = .ok (.invokestatic 21, 3) := by decide +kernel
theorem dX0_weightOf_4 : decode cX0_weightOf 4 = .ok (.iconst 1, 1) := by decide +kernel
theorem dX0_weightOf_5 : decode cX0_weightOf 5 = .ok (.isub, 1) := by decide +kernel
theorem dX0_weightOf_6 : decode cX0_weightOf 6 = .ok (.istore_n 2, 1) := by decide +kernel
theorem dX0_weightOf_7 : decode cX0_weightOf 7 = .ok (.iload_n 2, 1) := by decide +kernel
theorem dX0_weightOf_8 : decode cX0_weightOf 8 = .ok (.ifCond .lt 9, 3) := by decide +kernel
theorem dX0_weightOf_11 : decode cX0_weightOf 11 = .ok (.iload_n 2, 1) := by decide +kernel
theorem dX0_weightOf_12 : decode cX0_weightOf 12 = .ok (.bipush 8, 2) := by decide +kernel
theorem dX0_weightOf_14 : decode cX0_weightOf 14 = .ok (.if_icmp .lt 7, 3) := by decide +kernel
theorem dX0_weightOf_17 : decode cX0_weightOf 17 = .ok (.iconst 0, 1) := by decide +kernel
theorem dX0_weightOf_18 : decode cX0_weightOf 18 = .ok (.goto 9, 3) := by decide +kernel
theorem dX0_weightOf_21 : decode cX0_weightOf 21 = .ok (.aload_n 0, 1) := by decide +kernel
theorem dX0_weightOf_22 : decode cX0_weightOf 22 = .ok (.getfield 9, 3) := by decide +kernel
theorem dX0_weightOf_25 : decode cX0_weightOf 25 = .ok (.iload_n 2, 1) := by decide +kernel
theorem dX0_weightOf_26 : decode cX0_weightOf 26 = .ok (.iaload, 1) := by decide +kernel
theorem dX0_weightOf_27 : decode cX0_weightOf 27 = .ok (.ireturn, 1) := by decide +kernel
theorem dX0_reduce_0 : decode cX0_reduce 0 = .ok (.aload_n 0, 1) := by decide +kernel
theorem dX0_reduce_1 : decode cX0_reduce 1 = .ok (.getfield 31, 3) := by decide +kernel
theorem dX0_reduce_4 : decode cX0_reduce 4 = .ok (.aload_n 0, 1) := by decide +kernel
theorem dX0_reduce_5 : decode cX0_reduce 5 = .ok (.getfield 52, 3) := by decide +kernel
theorem dX0_reduce_8 : decode cX0_reduce 8 = .ok (.invokestatic 58, 3) := by decide +kernel
theorem dX0_reduce_11 : decode cX0_reduce 11 = .ok (.istore_n 1, 1) := by decide +kernel
theorem dX0_reduce_12 : decode cX0_reduce 12 = .ok (.iload_n 1, 1) := by decide +kernel
theorem dX0_reduce_13 : decode cX0_reduce 13 = .ok (.iconst 1, 1) := by decide +kernel
theorem dX0_reduce_14 : decode cX0_reduce 14 = .ok (.if_icmp .le 23, 3) := by decide +kernel
theorem dX0_reduce_17 : decode cX0_reduce 17 = .ok (.aload_n 0, 1) := by decide +kernel
theorem dX0_reduce_18 : decode cX0_reduce 18 = .ok (.dup, 1) := by decide +kernel
theorem dX0_reduce_19 : decode cX0_reduce 19 = .ok (.getfield 31, 3) := by decide +kernel
theorem dX0_reduce_22 : decode cX0_reduce 22 = .ok (.iload_n 1, 1) := by decide +kernel
theorem dX0_reduce_23 : decode cX0_reduce 23 = .ok (.idiv, 1) := by decide +kernel
theorem dX0_reduce_24 : decode cX0_reduce 24 = .ok (.putfield 31, 3) := by decide +kernel
theorem dX0_reduce_27 : decode cX0_reduce 27 = .ok (.aload_n 0, 1) := by decide +kernel
theorem dX0_reduce_28 : decode cX0_reduce 28 = .ok (.dup, 1) := by decide +kernel
theorem dX0_reduce_29 : decode cX0_reduce 29 = .ok (.getfield 52, 3) := by decide +kernel
theorem dX0_reduce_32 : decode cX0_reduce 32 = .ok (.iload_n 1, 1) := by decide +kernel
theorem dX0_reduce_33 : decode cX0_reduce 33 = .ok (.idiv, 1) := by decide +kernel
theorem dX0_reduce_34 : decode cX0_reduce 34 = .ok (.putfield 52, 3) := by decide +kernel
theorem dX0_reduce_37 : decode cX0_reduce 37 = .ok (.return_, 1) := by decide +kernel
theorem dX0_power_0 : decode cX0_power 0 = .ok (.iconst 1, 1) := by decide +kernel
theorem dX0_power_1 : decode cX0_power 1 = .ok (.istore_n 2, 1) := by decide +kernel
theorem dX0_power_2 : decode cX0_power 2 = .ok (.iconst 0, 1) := by decide +kernel
theorem dX0_power_3 : decode cX0_power 3 = .ok (.istore_n 3, 1) := by decide +kernel
theorem dX0_power_4 : decode cX0_power 4 = .ok (.iload_n 3, 1) := by decide +kernel
theorem dX0_power_5 : decode cX0_power 5 = .ok (.iload_n 1, 1) := by decide +kernel
theorem dX0_power_6 : decode cX0_power 6 = .ok (.if_icmp .ge 13, 3) := by decide +kernel
theorem dX0_power_9 : decode cX0_power 9 = .ok (.iload_n 2, 1) := by decide +kernel
theorem dX0_power_10 : decode cX0_power 10 = .ok (.iload_n 0, 1) := by decide +kernel
theorem dX0_power_11 : decode cX0_power 11 = .ok (.imul, 1) := by decide +kernel
theorem dX0_power_12 : decode cX0_power 12 = .ok (.istore_n 2, 1) := by decide +kernel
theorem dX0_power_13 : decode cX0_power 13 = .ok (.iinc 3 1, 3) := by decide +kernel
theorem dX0_power_16 : decode cX0_power 16 = .ok (.goto (-12), 3) := by decide +kernel
theorem dX0_power_19 : decode cX0_power 19 = .ok (.iload_n 2, 1) := by decide +kernel
theorem dX0_power_20 : decode cX0_power 20 = .ok (.ireturn, 1) := by decide +kernel
theorem dX0_commonDivisor_0 : decode cX0_commonDivisor 0 = .ok (.iload_n 0, 1) := by decide +kernel
theorem dX0_commonDivisor_1 : decode cX0_commonDivisor 1 = .ok (.istore_n 2, 1) := by decide +kernel
theorem dX0_commonDivisor_2 : decode cX0_commonDivisor 2 = .ok (.iload_n 1, 1) := by decide +kernel
theorem dX0_commonDivisor_3 : decode cX0_commonDivisor 3 = .ok (.istore_n 3, 1) := by decide +kernel
theorem dX0_commonDivisor_4 : decode cX0_commonDivisor 4 = .ok (.iconst 0, 1) := by decide +kernel
theorem dX0_commonDivisor_5 : decode cX0_commonDivisor 5 = .ok (.istore 4, 2) := by decide +kernel
theorem dX0_commonDivisor_7 : decode cX0_commonDivisor 7 = .ok (.iload 4, 2) := by decide +kernel
theorem dX0_commonDivisor_9 : decode cX0_commonDivisor 9 = .ok (.bipush 64, 2) := by decide +kernel
theorem dX0_commonDivisor_11 : decode cX0_commonDivisor 11 = .ok (.if_icmp .ge 23, 3) := by decide +kernel
theorem dX0_commonDivisor_14 : decode cX0_commonDivisor 14 = .ok (.iload_n 3, 1) := by decide +kernel
theorem dX0_commonDivisor_15 : decode cX0_commonDivisor 15 = .ok (.ifCond .eq 19, 3) := by decide +kernel
theorem dX0_commonDivisor_18 : decode cX0_commonDivisor 18 = .ok (.iload_n 2, 1) := by decide +kernel
theorem dX0_commonDivisor_19 : decode cX0_commonDivisor 19 = .ok (.iload_n 3, 1) := by decide +kernel
theorem dX0_commonDivisor_20 : decode cX0_commonDivisor 20 = .ok (.irem, 1) := by decide +kernel
theorem dX0_commonDivisor_21 : decode cX0_commonDivisor 21 = .ok (.istore 5, 2) := by decide +kernel
theorem dX0_commonDivisor_23 : decode cX0_commonDivisor 23 = .ok (.iload_n 3, 1) := by decide +kernel
theorem dX0_commonDivisor_24 : decode cX0_commonDivisor 24 = .ok (.istore_n 2, 1) := by decide +kernel
theorem dX0_commonDivisor_25 : decode cX0_commonDivisor 25 = .ok (.iload 5, 2) := by decide +kernel
theorem dX0_commonDivisor_27 : decode cX0_commonDivisor 27 = .ok (.istore_n 3, 1) := by decide +kernel
theorem dX0_commonDivisor_28 : decode cX0_commonDivisor 28 = .ok (.iinc 4 1, 3) := by decide +kernel
theorem dX0_commonDivisor_31 : decode cX0_commonDivisor 31 = .ok (.goto (-24), 3) := by decide +kernel
theorem dX0_commonDivisor_34 : decode cX0_commonDivisor 34 = .ok (.iload_n 2, 1) := by decide +kernel
theorem dX0_commonDivisor_35 : decode cX0_commonDivisor 35 = .ok (.ireturn, 1) := by decide +kernel
theorem dX1_init_0 : decode cX1_init 0 = .ok (.aload_n 0, 1) := by decide +kernel
theorem dX1_init_1 : decode cX1_init 1 = .ok (.invokespecial 1, 3) := by decide +kernel
theorem dX1_init_4 : decode cX1_init 4 = .ok (.return_, 1) := by decide +kernel
theorem dX1_next_0 : decode cX1_next 0 = .ok (.aload_n 0, 1) := by decide +kernel
theorem dX1_next_1 : decode cX1_next 1 = .ok (.ldc2_w 7, 3) := by decide +kernel
theorem dX1_next_4 : decode cX1_next 4 = .ok (.aload_n 0, 1) := by decide +kernel
theorem dX1_next_5 : decode cX1_next 5 = .ok (.getfield 9, 3) := by decide +kernel
theorem dX1_next_8 : decode cX1_next 8 = .ok (.i2l, 1) := by decide +kernel
theorem dX1_next_9 : decode cX1_next 9 = .ok (.lmul, 1) := by decide +kernel
theorem dX1_next_10 : decode cX1_next 10 = .ok (.ldc2_w 15, 3) := by decide +kernel
theorem dX1_next_13 : decode cX1_next 13 = .ok (.ladd, 1) := by decide +kernel
theorem dX1_next_14 : decode cX1_next 14 = .ok (.ldc2_w 17, 3) := by decide +kernel
theorem dX1_next_17 : decode cX1_next 17 = .ok (.lrem, 1) := by decide +kernel
theorem dX1_next_18 : decode cX1_next 18 = .ok (.l2i, 1) := by decide +kernel
theorem dX1_next_19 : decode cX1_next 19 = .ok (.putfield 9, 3) := by decide +kernel
theorem dX1_next_22 : decode cX1_next 22 = .ok (.iload_n 1, 1) := by decide +kernel
theorem dX1_next_23 : decode cX1_next 23 = .ok (.ifCond .gt 7, 3) := by decide +kernel
theorem dX1_next_26 : decode cX1_next 26 = .ok (.iconst 0, 1) := by decide +kernel
theorem dX1_next_27 : decode cX1_next 27 = .ok (.goto 12, 3) := by decide +kernel
theorem dX1_next_30 : decode cX1_next 30 = .ok (.aload_n 0, 1) := by decide +kernel
theorem dX1_next_31 : decode cX1_next 31 = .ok (.getfield 9, 3) := by decide +kernel
theorem dX1_next_34 : decode cX1_next 34 = .ok (.ldc 19, 2) := by decide +kernel
theorem dX1_next_36 : decode cX1_next 36 = .ok (.idiv, 1) := by decide +kernel
theorem dX1_next_37 : decode cX1_next 37 = .ok (.iload_n 1, 1) := by decide +kernel
theorem dX1_next_38 : decode cX1_next 38 = .ok (.irem, 1) := by decide +kernel
theorem dX1_next_39 : decode cX1_next 39 = .ok (.ireturn, 1) := by decide +kernel
theorem dX2_init_0 : decode cX2_init 0 = .ok (.aload_n 0, 1) := by decide +kernel
theorem dX2_init_1 : decode cX2_init 1 = .ok (.invokespecial 3, 3) := by decide +kernel
theorem dX2_init_4 : decode cX2_init 4 = .ok (.aload_n 0, 1) := by decide +kernel
theorem dX2_init_5 : decode cX2_init 5 = .ok (.bipush 8, 2) := by decide +kernel
theorem dX2_init_7 : decode cX2_init 7 = .ok (.newarray .int, 2) := by decide +kernel
theorem dX2_init_9 : decode cX2_init 9 = .ok (.putfield 9, 3) := by decide +kernel
theorem dX2_init_12 : decode cX2_init 12 = .ok (.return_, 1) := by decide +kernel
theorem dX2_find_0 : decode cX2_find 0 = .ok (.iconst 0, 1) := by decide +kernel
theorem dX2_find_1 : decode cX2_find 1 = .ok (.istore_n 2, 1) := by decide +kernel
theorem dX2_find_2 : decode cX2_find 2 = .ok (.iload_n 2, 1) := by decide +kernel
theorem dX2_find_3 : decode cX2_find 3 = .ok (.bipush 8, 2) := by decide +kernel
theorem dX2_find_5 : decode cX2_find 5 = .ok (.if_icmp .ge 16, 3) := by decide +kernel
theorem dX2_find_8 : decode cX2_find 8 = .ok (.aload_n 0, 1) := by decide +kernel
theorem dX2_find_9 : decode cX2_find 9 = .ok (.getfield 9, 3) := by decide +kernel
theorem dX2_find_12 : decode cX2_find 12 = .ok (.iload_n 2, 1) := by decide +kernel
theorem dX2_find_13 : decode cX2_find 13 = .ok (.iconst (-1), 1) := by decide +kernel
theorem dX2_find_14 : decode cX2_find 14 = .ok (.iastore, 1) := by decide +kernel
theorem dX2_find_15 : decode cX2_find 15 = .ok (.iinc 2 1, 3) := by decide +kernel
theorem dX2_find_18 : decode cX2_find 18 = .ok (.goto (-16), 3) := by decide +kernel
theorem dX2_find_21 : decode cX2_find 21 = .ok (.iconst 1, 1) := by decide +kernel
theorem dX2_find_22 : decode cX2_find 22 = .ok (.istore_n 2, 1) := by decide +kernel
theorem dX2_find_23 : decode cX2_find 23 = .ok (.iload_n 2, 1) := by decide +kernel
theorem dX2_find_24 : decode cX2_find 24 = .ok (.aload_n 1, 1) := by decide +kernel
theorem dX2_find_25 : decode cX2_find 25 = .ok (.getfield 15, 3) := by decide +kernel
theorem dX2_find_28 : decode cX2_find 28 = .ok (.if_icmp .gt 30, 3) := by decide +kernel
theorem dX2_find_31 : decode cX2_find 31 = .ok (.iload_n 2, 1) := by decide +kernel
theorem dX2_find_32 : decode cX2_find 32 = .ok (.aload_n 1, 1) := by decide +kernel
theorem dX2_find_33 : decode cX2_find 33 = .ok (.getfield 15, 3) := by decide +kernel
theorem dX2_find_36 : decode cX2_find 36 = .ok (.iconst (-1), 1) := by decide +kernel
theorem dX2_find_37 : decode cX2_find 37 = .ok (.ixor, 1) := by decide +kernel
theorem dX2_find_38 : decode cX2_find 38 = .ok (.iand, 1) := by decide +kernel
theorem dX2_find_39 : decode cX2_find 39 = .ok (.ifCond .ne 13, 3) := by decide +kernel
theorem dX2_find_42 : decode cX2_find 42 = .ok (.aload_n 0, 1) := by decide +kernel
theorem dX2_find_43 : decode cX2_find 43 = .ok (.iload_n 2, 1) := by decide +kernel
theorem dX2_find_44 : decode cX2_find 44 = .ok (.aload_n 1, 1) := by decide +kernel
theorem dX2_find_45 : decode cX2_find 45 = .ok (.iload_n 2, 1) := by decide +kernel
theorem dX2_find_46 : decode cX2_find 46 = .ok (.invokestatic 21, 3) := by decide +kernel
theorem dX2_find_49 : decode cX2_find 49 = .ok (.invokevirtual 25, 3) := by decide +kernel
theorem dX2_find_52 : decode cX2_find 52 = .ok (.iinc 2 1, 3) := by decide +kernel
theorem dX2_find_55 : decode cX2_find 55 = .ok (.goto (-32), 3) := by decide +kernel
theorem dX2_find_58 : decode cX2_find 58 = .ok (.return_, 1) := by decide +kernel
theorem dX2_noteFor_0 : decode cX2_noteFor 0 = .ok (.iload_n 2, 1) := by decide +kernel
theorem dX2_noteFor_1 : decode cX2_noteFor 1 = .ok (.iconst (-1), 1) := by decide +kernel
theorem dX2_noteFor_2 : decode cX2_noteFor 2 = .ok (.if_icmp .ne 4, 3) := by decide +kernel
theorem dX2_noteFor_5 : decode cX2_noteFor 5 = .ok (.return_, 1) := by decide +kernel
theorem dX2_noteFor_6 : decode cX2_noteFor 6 = .ok (.iconst 0, 1) := by decide +kernel
theorem dX2_noteFor_7 : decode cX2_noteFor 7 = .ok (.istore_n 3, 1) := by decide +kernel
theorem dX2_noteFor_8 : decode cX2_noteFor 8 = .ok (.iload_n 3, 1) := by decide +kernel
theorem dX2_noteFor_9 : decode cX2_noteFor 9 = .ok (.bipush 8, 2) := by decide +kernel
theorem dX2_noteFor_11 : decode cX2_noteFor 11 = .ok (.if_icmp .ge 44, 3) := by decide +kernel
theorem dX2_noteFor_14 : decode cX2_noteFor 14 = .ok (.iload_n 3, 1) := by decide +kernel
theorem dX2_noteFor_15 : decode cX2_noteFor 15 = .ok (.iload_n 1, 1) := by decide +kernel
theorem dX2_noteFor_16 : decode cX2_noteFor 16 = .ok (.invokestatic 29, 3) := by decide +kernel
theorem dX2_noteFor_19 : decode cX2_noteFor 19 = .ok (.ifCond .eq 30, 3) := by decide +kernel
theorem dX2_noteFor_22 : decode cX2_noteFor 22 = .ok (.aload_n 0, 1) := by decide +kernel
theorem dX2_noteFor_23 : decode cX2_noteFor 23 = .ok (.getfield 9, 3) := by decide +kernel
theorem dX2_noteFor_26 : decode cX2_noteFor 26 = .ok (.iload_n 3, 1) := by decide +kernel
theorem dX2_noteFor_27 : decode cX2_noteFor 27 = .ok (.iaload, 1) := by decide +kernel
theorem dX2_noteFor_28 : decode cX2_noteFor 28 = .ok (.iconst (-1), 1) := by decide +kernel
theorem dX2_noteFor_29 : decode cX2_noteFor 29 = .ok (.if_icmp .eq 13, 3) := by decide +kernel
theorem dX2_noteFor_32 : decode cX2_noteFor 32 = .ok (.iload_n 2, 1) := by decide +kernel
theorem dX2_noteFor_33 : decode cX2_noteFor 33 = .ok (.aload_n 0, 1) := by decide +kernel
theorem dX2_noteFor_34 : decode cX2_noteFor 34 = .ok (.getfield 9, 3) := by decide +kernel
theorem dX2_noteFor_37 : decode cX2_noteFor 37 = .ok (.iload_n 3, 1) := by decide +kernel
theorem dX2_noteFor_38 : decode cX2_noteFor 38 = .ok (.iaload, 1) := by decide +kernel
theorem dX2_noteFor_39 : decode cX2_noteFor 39 = .ok (.if_icmp .ge 10, 3) := by decide +kernel
theorem dX2_noteFor_42 : decode cX2_noteFor 42 = .ok (.aload_n 0, 1) := by decide +kernel
theorem dX2_noteFor_43 : decode cX2_noteFor 43 = .ok (.getfield 9, 3) := by decide +kernel
theorem dX2_noteFor_46 : decode cX2_noteFor 46 = .ok (.iload_n 3, 1) := by decide +kernel
theorem dX2_noteFor_47 : decode cX2_noteFor 47 = .ok (.iload_n 2, 1) := by decide +kernel
theorem dX2_noteFor_48 : decode cX2_noteFor 48 = .ok (.iastore, 1) := by decide +kernel
theorem dX2_noteFor_49 : decode cX2_noteFor 49 = .ok (.iinc 3 1, 3) := by decide +kernel
theorem dX2_noteFor_52 : decode cX2_noteFor 52 = .ok (.goto (-44), 3) := by decide +kernel
theorem dX2_noteFor_55 : decode cX2_noteFor 55 = .ok (.return_, 1) := by decide +kernel
theorem dX2_hintsToRise_0 : decode cX2_hintsToRise 0 = .ok (.iload_n 1, 1) := by decide +kernel
theorem dX2_hintsToRise_1 : decode cX2_hintsToRise 1 = .ok (.aload_n 0, 1) := by decide +kernel
theorem dX2_hintsToRise_2 : decode cX2_hintsToRise 2 = .ok (.invokevirtual 33, 3) := by decide +kernel
theorem dX2_hintsToRise_5 : decode cX2_hintsToRise 5 = .ok (.ior, 1) := by decide +kernel
theorem dX2_hintsToRise_6 : decode cX2_hintsToRise 6 = .ok (.istore_n 2, 1) := by decide +kernel
theorem dX2_hintsToRise_7 : decode cX2_hintsToRise 7 = .ok (.aload_n 0, 1) := by decide +kernel
theorem dX2_hintsToRise_8 : decode cX2_hintsToRise 8 = .ok (.iload_n 2, 1) := by decide +kernel
theorem dX2_hintsToRise_9 : decode cX2_hintsToRise 9 = .ok (.invokevirtual 37, 3) := by decide +kernel
theorem dX2_hintsToRise_12 : decode cX2_hintsToRise 12 = .ok (.istore_n 3, 1) := by decide +kernel
theorem dX2_hintsToRise_13 : decode cX2_hintsToRise 13 = .ok (.iconst 0, 1) := by decide +kernel
theorem dX2_hintsToRise_14 : decode cX2_hintsToRise 14 = .ok (.istore 4, 2) := by decide +kernel
theorem dX2_hintsToRise_16 : decode cX2_hintsToRise 16 = .ok (.iconst 0, 1) := by decide +kernel
theorem dX2_hintsToRise_17 : decode cX2_hintsToRise 17 = .ok (.istore 5, 2) := by decide +kernel
theorem dX2_hintsToRise_19 : decode cX2_hintsToRise 19 = .ok (.iload 5, 2) := by decide +kernel
theorem dX2_hintsToRise_21 : decode cX2_hintsToRise 21 = .ok (.bipush 8, 2) := by decide +kernel
theorem dX2_hintsToRise_23 : decode cX2_hintsToRise 23 = .ok (.if_icmp .ge 78, 3) := by decide +kernel
theorem dX2_hintsToRise_26 : decode cX2_hintsToRise 26 = .ok (.iload 5, 2) := by decide +kernel
theorem dX2_hintsToRise_28 : decode cX2_hintsToRise 28 = .ok (.iload_n 1, 1) := by decide +kernel
theorem dX2_hintsToRise_29 : decode cX2_hintsToRise 29 = .ok (.invokestatic 29, 3) := by decide +kernel
theorem dX2_hintsToRise_32 : decode cX2_hintsToRise 32 = .ok (.ifCond .eq 63, 3) := by decide +kernel
theorem dX2_hintsToRise_35 : decode cX2_hintsToRise 35 = .ok (.iload_n 3, 1) := by decide +kernel
theorem dX2_hintsToRise_36 : decode cX2_hintsToRise 36 = .ok (.aload_n 0, 1) := by decide +kernel
theorem dX2_hintsToRise_37 : decode cX2_hintsToRise 37 = .ok (.getfield 41, 3) := by decide +kernel
theorem dX2_hintsToRise_40 : decode cX2_hintsToRise 40 = .ok (.iload 5, 2) := by decide +kernel
theorem dX2_hintsToRise_42 : decode cX2_hintsToRise 42 = .ok (.iaload, 1) := by decide +kernel
theorem dX2_hintsToRise_43 : decode cX2_hintsToRise 43 = .ok (.invokestatic 44, 3) := by decide +kernel
theorem dX2_hintsToRise_46 : decode cX2_hintsToRise 46 = .ok (.isub, 1) := by decide +kernel
theorem dX2_hintsToRise_47 : decode cX2_hintsToRise 47 = .ok (.istore 6, 2) := by decide +kernel
theorem dX2_hintsToRise_49 : decode cX2_hintsToRise 49 = .ok (.aload_n 0, 1) := by decide +kernel
theorem dX2_hintsToRise_50 : decode cX2_hintsToRise 50 = .ok (.getfield 41, 3) := by decide +kernel
theorem dX2_hintsToRise_53 : decode cX2_hintsToRise 53 = .ok (.iload 5, 2) := by decide +kernel
theorem dX2_hintsToRise_55 : decode cX2_hintsToRise 55 = .ok (.iaload, 1) := by decide +kernel
theorem dX2_hintsToRise_56 : decode cX2_hintsToRise 56 = .ok (.aload_n 0, 1) := by decide +kernel
theorem dX2_hintsToRise_57 : decode cX2_hintsToRise 57 = .ok (.getfield 49, 3) := by decide +kernel
theorem dX2_hintsToRise_60 : decode cX2_hintsToRise 60 = .ok (.iload 5, 2) := by decide +kernel
theorem dX2_hintsToRise_62 : decode cX2_hintsToRise 62 = .ok (.iaload, 1) := by decide +kernel
theorem dX2_hintsToRise_63 : decode cX2_hintsToRise 63 = .ok (.iload 6, 2) := by decide +kernel
theorem dX2_hintsToRise_65 : decode cX2_hintsToRise 65 = .ok (.invokestatic 52, 3) := by decide +kernel
theorem dX2_hintsToRise_68 : decode cX2_hintsToRise 68 = .ok (.istore 7, 2) := by decide +kernel
theorem dX2_hintsToRise_70 : decode cX2_hintsToRise 70 = .ok (.iload 7, 2) := by decide +kernel
theorem dX2_hintsToRise_72 : decode cX2_hintsToRise 72 = .ok (.iconst (-1), 1) := by decide +kernel
theorem dX2_hintsToRise_73 : decode cX2_hintsToRise 73 = .ok (.if_icmp .eq 13, 3) := by decide +kernel
theorem dX2_hintsToRise_76 : decode cX2_hintsToRise 76 = .ok (.aload_n 0, 1) := by decide +kernel
theorem dX2_hintsToRise_77 : decode cX2_hintsToRise 77 = .ok (.iload 5, 2) := by decide +kernel
theorem dX2_hintsToRise_79 : decode cX2_hintsToRise 79 = .ok (.iload_n 2, 1) := by decide +kernel
theorem dX2_hintsToRise_80 : decode cX2_hintsToRise 80 = .ok (.invokevirtual 56, 3) := by decide +kernel
theorem dX2_hintsToRise_83 : decode cX2_hintsToRise 83 = .ok (.ifCond .ne 5, 3) := by decide +kernel
theorem dX2_hintsToRise_86 : decode cX2_hintsToRise 86 = .ok (.iconst (-1), 1) := by decide +kernel
theorem dX2_hintsToRise_87 : decode cX2_hintsToRise 87 = .ok (.ireturn, 1) := by decide +kernel
theorem dX2_hintsToRise_88 : decode cX2_hintsToRise 88 = .ok (.iload 4, 2) := by decide +kernel
theorem dX2_hintsToRise_90 : decode cX2_hintsToRise 90 = .ok (.iload 7, 2) := by decide +kernel
theorem dX2_hintsToRise_92 : decode cX2_hintsToRise 92 = .ok (.iadd, 1) := by decide +kernel
theorem dX2_hintsToRise_93 : decode cX2_hintsToRise 93 = .ok (.istore 4, 2) := by decide +kernel
theorem dX2_hintsToRise_95 : decode cX2_hintsToRise 95 = .ok (.iinc 5 1, 3) := by decide +kernel
theorem dX2_hintsToRise_98 : decode cX2_hintsToRise 98 = .ok (.goto (-79), 3) := by decide +kernel
theorem dX2_hintsToRise_101 : decode cX2_hintsToRise 101 = .ok (.iload 4, 2) := by decide +kernel
theorem dX2_hintsToRise_103 : decode cX2_hintsToRise 103 = .ok (.ireturn, 1) := by decide +kernel
theorem dX3_isKind_0 : decode cX3_isKind 0 = .ok (.iload_n 0, 1) := by decide +kernel
theorem dX3_isKind_1 : decode cX3_isKind 1 = .ok (.ifCond .lt 12, 3) := by decide +kernel
theorem dX3_isKind_4 : decode cX3_isKind 4 = .ok (.iload_n 0, 1) := by decide +kernel
theorem dX3_isKind_5 : decode cX3_isKind 5 = .ok (.iconst 4, 1) := by decide +kernel
theorem dX3_isKind_6 : decode cX3_isKind 6 = .ok (.if_icmp .gt 7, 3) := by decide +kernel
theorem dX3_isKind_9 : decode cX3_isKind 9 = .ok (.iconst 1, 1) := by decide +kernel
theorem dX3_isKind_10 : decode cX3_isKind 10 = .ok (.goto 4, 3) := by decide +kernel
theorem dX3_isKind_13 : decode cX3_isKind 13 = .ok (.iconst 0, 1) := by decide +kernel
theorem dX3_isKind_14 : decode cX3_isKind 14 = .ok (.ireturn, 1) := by decide +kernel
theorem dX3_ofLetter_0 : decode cX3_ofLetter 0 = .ok (.iconst 0, 1) := by decide +kernel
theorem dX3_ofLetter_1 : decode cX3_ofLetter 1 = .ok (.istore_n 1, 1) := by decide +kernel
theorem dX3_ofLetter_2 : decode cX3_ofLetter 2 = .ok (.iload_n 1, 1) := by decide +kernel
theorem dX3_ofLetter_3 : decode cX3_ofLetter 3 = .ok (.ldc 11, 2) := by decide +kernel
theorem dX3_ofLetter_5 : decode cX3_ofLetter 5 = .ok (.invokevirtual 13, 3) := by decide +kernel
theorem dX3_ofLetter_8 : decode cX3_ofLetter 8 = .ok (.if_icmp .ge 21, 3) := by decide +kernel
theorem dX3_ofLetter_11 : decode cX3_ofLetter 11 = .ok (.ldc 11, 2) := by decide +kernel
theorem dX3_ofLetter_13 : decode cX3_ofLetter 13 = .ok (.iload_n 1, 1) := by decide +kernel
theorem dX3_ofLetter_14 : decode cX3_ofLetter 14 = .ok (.invokevirtual 19, 3) := by decide +kernel
theorem dX3_ofLetter_17 : decode cX3_ofLetter 17 = .ok (.iload_n 0, 1) := by decide +kernel
theorem dX3_ofLetter_18 : decode cX3_ofLetter 18 = .ok (.if_icmp .ne 5, 3) := by decide +kernel
theorem dX3_ofLetter_21 : decode cX3_ofLetter 21 = .ok (.iload_n 1, 1) := by decide +kernel
theorem dX3_ofLetter_22 : decode cX3_ofLetter 22 = .ok (.ireturn, 1) := by decide +kernel
theorem dX3_ofLetter_23 : decode cX3_ofLetter 23 = .ok (.iinc 1 1, 3) := by decide +kernel
theorem dX3_ofLetter_26 : decode cX3_ofLetter 26 = .ok (.goto (-24), 3) := by decide +kernel
theorem dX3_ofLetter_29 : decode cX3_ofLetter 29 = .ok (.iconst (-1), 1) := by decide +kernel
theorem dX3_ofLetter_30 : decode cX3_ofLetter 30 = .ok (.ireturn, 1) := by decide +kernel
theorem dX3_isSuch_0 : decode cX3_isSuch 0 = .ok (.iload_n 1, 1) := by decide +kernel
theorem dX3_isSuch_1 : decode cX3_isSuch 1 = .ok (.ifCond .eq 18, 3) := by decide +kernel
theorem dX3_isSuch_4 : decode cX3_isSuch 4 = .ok (.iload_n 1, 1) := by decide +kernel
theorem dX3_isSuch_5 : decode cX3_isSuch 5 = .ok (.iload_n 0, 1) := by decide +kernel
theorem dX3_isSuch_6 : decode cX3_isSuch 6 = .ok (.if_icmp .eq 13, 3) := by decide +kernel
theorem dX3_isSuch_9 : decode cX3_isSuch 9 = .ok (.iload_n 1, 1) := by decide +kernel
theorem dX3_isSuch_10 : decode cX3_isSuch 10 = .ok (.iconst 3, 1) := by decide +kernel
theorem dX3_isSuch_11 : decode cX3_isSuch 11 = .ok (.if_icmp .ne 12, 3) := by decide +kernel
theorem dX3_isSuch_14 : decode cX3_isSuch 14 = .ok (.iload_n 0, 1) := by decide +kernel
theorem dX3_isSuch_15 : decode cX3_isSuch 15 = .ok (.iconst 4, 1) := by decide +kernel
theorem dX3_isSuch_16 : decode cX3_isSuch 16 = .ok (.if_icmp .ne 7, 3) := by decide +kernel
theorem dX3_isSuch_19 : decode cX3_isSuch 19 = .ok (.iconst 1, 1) := by decide +kernel
theorem dX3_isSuch_20 : decode cX3_isSuch 20 = .ok (.goto 4, 3) := by decide +kernel
theorem dX3_isSuch_23 : decode cX3_isSuch 23 = .ok (.iconst 0, 1) := by decide +kernel
theorem dX3_isSuch_24 : decode cX3_isSuch 24 = .ok (.ireturn, 1) := by decide +kernel
theorem dX3_needs_0 : decode cX3_needs 0 = .ok (.iload_n 0, 1) := by decide +kernel
theorem dX3_needs_1 : decode cX3_needs 1 = .ok (.tableswitch 41 1 4 #[31, 35, 39, 39], 31) := by decide +kernel
theorem dX3_needs_32 : decode cX3_needs 32 = .ok (.iload_n 1, 1) := by decide +kernel
theorem dX3_needs_33 : decode cX3_needs 33 = .ok (.iconst 2, 1) := by decide +kernel
theorem dX3_needs_34 : decode cX3_needs 34 = .ok (.idiv, 1) := by decide +kernel
theorem dX3_needs_35 : decode cX3_needs 35 = .ok (.ireturn, 1) := by decide +kernel
theorem dX3_needs_36 : decode cX3_needs 36 = .ok (.iload_n 1, 1) := by decide +kernel
theorem dX3_needs_37 : decode cX3_needs 37 = .ok (.iconst 2, 1) := by decide +kernel
theorem dX3_needs_38 : decode cX3_needs 38 = .ok (.iadd, 1) := by decide +kernel
theorem dX3_needs_39 : decode cX3_needs 39 = .ok (.ireturn, 1) := by decide +kernel
theorem dX3_needs_40 : decode cX3_needs 40 = .ok (.iconst 0, 1) := by decide +kernel
theorem dX3_needs_41 : decode cX3_needs 41 = .ok (.ireturn, 1) := by decide +kernel
theorem dX3_needs_42 : decode cX3_needs 42 = .ok (.iload_n 1, 1) := by decide +kernel
theorem dX3_needs_43 : decode cX3_needs 43 = .ok (.ireturn, 1) := by decide +kernel
theorem dX3_countsAs_0 : decode cX3_countsAs 0 = .ok (.iload_n 0, 1) := by decide +kernel
theorem dX3_countsAs_1 : decode cX3_countsAs 1 = .ok (.iconst 4, 1) := by decide +kernel
theorem dX3_countsAs_2 : decode cX3_countsAs 2 = .ok (.if_icmp .ne 7, 3) := by decide +kernel
theorem dX3_countsAs_5 : decode cX3_countsAs 5 = .ok (.iconst 2, 1) := by decide +kernel
theorem dX3_countsAs_6 : decode cX3_countsAs 6 = .ok (.goto 4, 3) := by decide +kernel
theorem dX3_countsAs_9 : decode cX3_countsAs 9 = .ok (.iconst 1, 1) := by decide +kernel
theorem dX3_countsAs_10 : decode cX3_countsAs 10 = .ok (.ireturn, 1) := by decide +kernel
theorem dX3_hintsTill_0 : decode cX3_hintsTill 0 = .ok (.iconst 0, 1) := by decide +kernel
theorem dX3_hintsTill_1 : decode cX3_hintsTill 1 = .ok (.istore_n 3, 1) := by decide +kernel
theorem dX3_hintsTill_2 : decode cX3_hintsTill 2 = .ok (.iload_n 3, 1) := by decide +kernel
theorem dX3_hintsTill_3 : decode cX3_hintsTill 3 = .ok (.iload_n 1, 1) := by decide +kernel
theorem dX3_hintsTill_4 : decode cX3_hintsTill 4 = .ok (.if_icmp .gt 22, 3) := by decide +kernel
theorem dX3_hintsTill_7 : decode cX3_hintsTill 7 = .ok (.iload_n 0, 1) := by decide +kernel
theorem dX3_hintsTill_8 : decode cX3_hintsTill 8 = .ok (.iload_n 1, 1) := by decide +kernel
theorem dX3_hintsTill_9 : decode cX3_hintsTill 9 = .ok (.iload_n 3, 1) := by decide +kernel
theorem dX3_hintsTill_10 : decode cX3_hintsTill 10 = .ok (.isub, 1) := by decide +kernel
theorem dX3_hintsTill_11 : decode cX3_hintsTill 11 = .ok (.invokestatic 23, 3) := by decide +kernel
theorem dX3_hintsTill_14 : decode cX3_hintsTill 14 = .ok (.iload_n 2, 1) := by decide +kernel
theorem dX3_hintsTill_15 : decode cX3_hintsTill 15 = .ok (.if_icmp .gt 5, 3) := by decide +kernel
theorem dX3_hintsTill_18 : decode cX3_hintsTill 18 = .ok (.iload_n 3, 1) := by decide +kernel
theorem dX3_hintsTill_19 : decode cX3_hintsTill 19 = .ok (.ireturn, 1) := by decide +kernel
theorem dX3_hintsTill_20 : decode cX3_hintsTill 20 = .ok (.iinc 3 1, 3) := by decide +kernel
theorem dX3_hintsTill_23 : decode cX3_hintsTill 23 = .ok (.goto (-21), 3) := by decide +kernel
theorem dX3_hintsTill_26 : decode cX3_hintsTill 26 = .ok (.iconst (-1), 1) := by decide +kernel
theorem dX3_hintsTill_27 : decode cX3_hintsTill 27 = .ok (.ireturn, 1) := by decide +kernel
theorem dX4_init_0 : decode cX4_init 0 = .ok (.aload_n 0, 1) := by decide +kernel
theorem dX4_init_1 : decode cX4_init 1 = .ok (.invokespecial 3, 3) := by decide +kernel
theorem dX4_init_4 : decode cX4_init 4 = .ok (.aload_n 0, 1) := by decide +kernel
theorem dX4_init_5 : decode cX4_init 5 = .ok (.bipush 36, 2) := by decide +kernel
theorem dX4_init_7 : decode cX4_init 7 = .ok (.newarray .int, 2) := by decide +kernel
theorem dX4_init_9 : decode cX4_init 9 = .ok (.putfield 9, 3) := by decide +kernel
theorem dX4_init_12 : decode cX4_init 12 = .ok (.return_, 1) := by decide +kernel
theorem dX4_append_0 : decode cX4_append 0 = .ok (.aload_n 0, 1) := by decide +kernel
theorem dX4_append_1 : decode cX4_append 1 = .ok (.getfield 15, 3) := by decide +kernel
theorem dX4_append_4 : decode cX4_append 4 = .ok (.bipush 36, 2) := by decide +kernel
theorem dX4_append_6 : decode cX4_append 6 = .ok (.if_icmp .ge 23, 3) := by decide +kernel
theorem dX4_append_9 : decode cX4_append 9 = .ok (.aload_n 0, 1) := by decide +kernel
theorem dX4_append_10 : decode cX4_append 10 = .ok (.getfield 9, 3) := by decide +kernel
theorem dX4_append_13 : decode cX4_append 13 = .ok (.aload_n 0, 1) := by decide +kernel
theorem dX4_append_14 : decode cX4_append 14 = .ok (.getfield 15, 3) := by decide +kernel
theorem dX4_append_17 : decode cX4_append 17 = .ok (.iload_n 1, 1) := by decide +kernel
theorem dX4_append_18 : decode cX4_append 18 = .ok (.iastore, 1) := by decide +kernel
theorem dX4_append_19 : decode cX4_append 19 = .ok (.aload_n 0, 1) := by decide +kernel
theorem dX4_append_20 : decode cX4_append 20 = .ok (.dup, 1) := by decide +kernel
theorem dX4_append_21 : decode cX4_append 21 = .ok (.getfield 15, 3) := by decide +kernel
theorem dX4_append_24 : decode cX4_append 24 = .ok (.iconst 1, 1) := by decide +kernel
theorem dX4_append_25 : decode cX4_append 25 = .ok (.iadd, 1) := by decide +kernel
theorem dX4_append_26 : decode cX4_append 26 = .ok (.putfield 15, 3) := by decide +kernel
theorem dX4_append_29 : decode cX4_append 29 = .ok (.aload_n 0, 1) := by decide +kernel
theorem dX4_append_30 : decode cX4_append 30 = .ok (.getfield 15, 3) := by decide +kernel
theorem dX4_append_33 : decode cX4_append 33 = .ok (.ireturn, 1) := by decide +kernel
theorem dX4_clear_0 : decode cX4_clear 0 = .ok (.aload_n 0, 1) := by decide +kernel
theorem dX4_clear_1 : decode cX4_clear 1 = .ok (.getfield 15, 3) := by decide +kernel
theorem dX4_clear_4 : decode cX4_clear 4 = .ok (.istore_n 1, 1) := by decide +kernel
theorem dX4_clear_5 : decode cX4_clear 5 = .ok (.aload_n 0, 1) := by decide +kernel
theorem dX4_clear_6 : decode cX4_clear 6 = .ok (.iconst 0, 1) := by decide +kernel
theorem dX4_clear_7 : decode cX4_clear 7 = .ok (.putfield 15, 3) := by decide +kernel
theorem dX4_clear_10 : decode cX4_clear 10 = .ok (.iload_n 1, 1) := by decide +kernel
theorem dX4_clear_11 : decode cX4_clear 11 = .ok (.ireturn, 1) := by decide +kernel
theorem dX4_at_0 : decode cX4_at 0 = .ok (.iload_n 1, 1) := by decide +kernel
theorem dX4_at_1 : decode cX4_at 1 = .ok (.ifCond .lt 11, 3) := by decide +kernel
theorem dX4_at_4 : decode cX4_at 4 = .ok (.iload_n 1, 1) := by decide +kernel
theorem dX4_at_5 : decode cX4_at 5 = .ok (.aload_n 0, 1) := by decide +kernel
theorem dX4_at_6 : decode cX4_at 6 = .ok (.getfield 15, 3) := by decide +kernel
theorem dX4_at_9 : decode cX4_at 9 = .ok (.if_icmp .lt 7, 3) := by decide +kernel
theorem dX4_at_12 : decode cX4_at 12 = .ok (.iconst (-1), 1) := by decide +kernel
theorem dX4_at_13 : decode cX4_at 13 = .ok (.goto 9, 3) := by decide +kernel
theorem dX4_at_16 : decode cX4_at 16 = .ok (.aload_n 0, 1) := by decide +kernel
theorem dX4_at_17 : decode cX4_at 17 = .ok (.getfield 9, 3) := by decide +kernel
theorem dX4_at_20 : decode cX4_at 20 = .ok (.iload_n 1, 1) := by decide +kernel
theorem dX4_at_21 : decode cX4_at 21 = .ok (.iaload, 1) := by decide +kernel
theorem dX4_at_22 : decode cX4_at 22 = .ok (.ireturn, 1) := by decide +kernel
theorem dX4_digitAt_0 : decode cX4_digitAt 0 = .ok (.aload_n 0, 1) := by decide +kernel
theorem dX4_digitAt_1 : decode cX4_digitAt 1 = .ok (.iload_n 1, 1) := by decide +kernel
theorem dX4_digitAt_2 : decode cX4_digitAt 2 = .ok (.invokevirtual 19, 3) := by decide +kernel
theorem dX4_digitAt_5 : decode cX4_digitAt 5 = .ok (.bipush 48, 2) := by decide +kernel
theorem dX4_digitAt_7 : decode cX4_digitAt 7 = .ok (.isub, 1) := by decide +kernel
theorem dX4_digitAt_8 : decode cX4_digitAt 8 = .ok (.ireturn, 1) := by decide +kernel
theorem dX4_firstFault_0 : decode cX4_firstFault 0 = .ok (.iconst 0, 1) := by decide +kernel
theorem dX4_firstFault_1 : decode cX4_firstFault 1 = .ok (.istore_n 1, 1) := by decide +kernel
theorem dX4_firstFault_2 : decode cX4_firstFault 2 = .ok (.iload_n 1, 1) := by decide +kernel
theorem dX4_firstFault_3 : decode cX4_firstFault 3 = .ok (.aload_n 0, 1) := by decide +kernel
theorem dX4_firstFault_4 : decode cX4_firstFault 4 = .ok (.getfield 15, 3) := by decide +kernel
theorem dX4_firstFault_7 : decode cX4_firstFault 7 = .ok (.if_icmp .ge 30, 3) := by decide +kernel
theorem dX4_firstFault_10 : decode cX4_firstFault 10 = .ok (.iload_n 1, 1) := by decide +kernel
theorem dX4_firstFault_11 : decode cX4_firstFault 11 = .ok (.bipush 36, 2) := by decide +kernel
theorem dX4_firstFault_13 : decode cX4_firstFault 13 = .ok (.if_icmp .ge 24, 3) := by decide +kernel
theorem dX4_firstFault_16 : decode cX4_firstFault 16 = .ok (.iload_n 1, 1) := by decide +kernel
theorem dX4_firstFault_17 : decode cX4_firstFault 17 = .ok (.aload_n 0, 1) := by decide +kernel
theorem dX4_firstFault_18 : decode cX4_firstFault 18 = .ok (.getfield 9, 3) := by decide +kernel
theorem dX4_firstFault_21 : decode cX4_firstFault 21 = .ok (.iload_n 1, 1) := by decide +kernel
theorem dX4_firstFault_22 : decode cX4_firstFault 22 = .ok (.iaload, 1) := by decide +kernel
theorem dX4_firstFault_23 : decode cX4_firstFault 23 = .ok (.invokestatic 23, 3) := by decide +kernel
theorem dX4_firstFault_26 : decode cX4_firstFault 26 = .ok (.ifCond .ne 5, 3) := by decide +kernel
theorem dX4_firstFault_29 : decode cX4_firstFault 29 = .ok (.iload_n 1, 1) := by decide +kernel
theorem dX4_firstFault_30 : decode cX4_firstFault 30 = .ok (.ireturn, 1) := by decide +kernel
theorem dX4_firstFault_31 : decode cX4_firstFault 31 = .ok (.iinc 1 1, 3) := by decide +kernel
theorem dX4_firstFault_34 : decode cX4_firstFault 34 = .ok (.goto (-32), 3) := by decide +kernel
theorem dX4_firstFault_37 : decode cX4_firstFault 37 = .ok (.aload_n 0, 1) := by decide +kernel
theorem dX4_firstFault_38 : decode cX4_firstFault 38 = .ok (.getfield 15, 3) := by decide +kernel
theorem dX4_firstFault_41 : decode cX4_firstFault 41 = .ok (.ireturn, 1) := by decide +kernel
theorem dX4_isParty_0 : decode cX4_isParty 0 = .ok (.aload_n 0, 1) := by decide +kernel
theorem dX4_isParty_1 : decode cX4_isParty 1 = .ok (.getfield 15, 3) := by decide +kernel
theorem dX4_isParty_4 : decode cX4_isParty 4 = .ok (.iconst 3, 1) := by decide +kernel
theorem dX4_isParty_5 : decode cX4_isParty 5 = .ok (.if_icmp .le 19, 3) := by decide +kernel
theorem dX4_isParty_8 : decode cX4_isParty 8 = .ok (.aload_n 0, 1) := by decide +kernel
theorem dX4_isParty_9 : decode cX4_isParty 9 = .ok (.getfield 15, 3) := by decide +kernel
theorem dX4_isParty_12 : decode cX4_isParty 12 = .ok (.iconst 3, 1) := by decide +kernel
theorem dX4_isParty_13 : decode cX4_isParty 13 = .ok (.isub, 1) := by decide +kernel
theorem dX4_isParty_14 : decode cX4_isParty 14 = .ok (.iconst 4, 1) := by decide +kernel
theorem dX4_isParty_15 : decode cX4_isParty 15 = .ok (.irem, 1) := by decide +kernel
theorem dX4_isParty_16 : decode cX4_isParty 16 = .ok (.iconst 3, 1) := by decide +kernel
theorem dX4_isParty_17 : decode cX4_isParty 17 = .ok (.if_icmp .ne 7, 3) := by decide +kernel
theorem dX4_isParty_20 : decode cX4_isParty 20 = .ok (.iconst 1, 1) := by decide +kernel
theorem dX4_isParty_21 : decode cX4_isParty 21 = .ok (.goto 4, 3) := by decide +kernel
theorem dX4_isParty_24 : decode cX4_isParty 24 = .ok (.iconst 0, 1) := by decide +kernel
theorem dX4_isParty_25 : decode cX4_isParty 25 = .ok (.istore_n 1, 1) := by decide +kernel
theorem dX4_isParty_26 : decode cX4_isParty 26 = .ok (.iload_n 1, 1) := by decide +kernel
theorem dX4_isParty_27 : decode cX4_isParty 27 = .ok (.ifCond .eq 26, 3) := by decide +kernel
theorem dX4_isParty_30 : decode cX4_isParty 30 = .ok (.aload_n 0, 1) := by decide +kernel
theorem dX4_isParty_31 : decode cX4_isParty 31 = .ok (.invokevirtual 27, 3) := by decide +kernel
theorem dX4_isParty_34 : decode cX4_isParty 34 = .ok (.iconst 2, 1) := by decide +kernel
theorem dX4_isParty_35 : decode cX4_isParty 35 = .ok (.if_icmp .lt 18, 3) := by decide +kernel
theorem dX4_isParty_38 : decode cX4_isParty 38 = .ok (.aload_n 0, 1) := by decide +kernel
theorem dX4_isParty_39 : decode cX4_isParty 39 = .ok (.invokevirtual 31, 3) := by decide +kernel
theorem dX4_isParty_42 : decode cX4_isParty 42 = .ok (.aload_n 0, 1) := by decide +kernel
theorem dX4_isParty_43 : decode cX4_isParty 43 = .ok (.getfield 15, 3) := by decide +kernel
theorem dX4_isParty_46 : decode cX4_isParty 46 = .ok (.if_icmp .ne 7, 3) := by decide +kernel
theorem dX4_isParty_49 : decode cX4_isParty 49 = .ok (.iconst 1, 1) := by decide +kernel
theorem dX4_isParty_50 : decode cX4_isParty 50 = .ok (.goto 4, 3) := by decide +kernel
theorem dX4_isParty_53 : decode cX4_isParty 53 = .ok (.iconst 0, 1) := by decide +kernel
theorem dX4_isParty_54 : decode cX4_isParty 54 = .ok (.ireturn, 1) := by decide +kernel
theorem dX4_guests_0 : decode cX4_guests 0 = .ok (.aload_n 0, 1) := by decide +kernel
theorem dX4_guests_1 : decode cX4_guests 1 = .ok (.getfield 15, 3) := by decide +kernel
theorem dX4_guests_4 : decode cX4_guests 4 = .ok (.iconst 3, 1) := by decide +kernel
theorem dX4_guests_5 : decode cX4_guests 5 = .ok (.isub, 1) := by decide +kernel
theorem dX4_guests_6 : decode cX4_guests 6 = .ok (.iconst 1, 1) := by decide +kernel
theorem dX4_guests_7 : decode cX4_guests 7 = .ok (.iadd, 1) := by decide +kernel
theorem dX4_guests_8 : decode cX4_guests 8 = .ok (.iconst 4, 1) := by decide +kernel
theorem dX4_guests_9 : decode cX4_guests 9 = .ok (.idiv, 1) := by decide +kernel
theorem dX4_guests_10 : decode cX4_guests 10 = .ok (.ireturn, 1) := by decide +kernel
theorem dX4_placeOf_0 : decode cX4_placeOf 0 = .ok (.iconst 3, 1) := by decide +kernel
theorem dX4_placeOf_1 : decode cX4_placeOf 1 = .ok (.iconst 4, 1) := by decide +kernel
theorem dX4_placeOf_2 : decode cX4_placeOf 2 = .ok (.iload_n 0, 1) := by decide +kernel
theorem dX4_placeOf_3 : decode cX4_placeOf 3 = .ok (.imul, 1) := by decide +kernel
theorem dX4_placeOf_4 : decode cX4_placeOf 4 = .ok (.iadd, 1) := by decide +kernel
theorem dX4_placeOf_5 : decode cX4_placeOf 5 = .ok (.ireturn, 1) := by decide +kernel
theorem dX4_fits_0 : decode cX4_fits 0 = .ok (.iload_n 0, 1) := by decide +kernel
theorem dX4_fits_1 : decode cX4_fits 1 = .ok (.iconst 2, 1) := by decide +kernel
theorem dX4_fits_2 : decode cX4_fits 2 = .ok (.if_icmp .ge 10, 3) := by decide +kernel
theorem dX4_fits_5 : decode cX4_fits 5 = .ok (.iload_n 1, 1) := by decide +kernel
theorem dX4_fits_6 : decode cX4_fits 6 = .ok (.bipush 10, 2) := by decide +kernel
theorem dX4_fits_8 : decode cX4_fits 8 = .ok (.invokestatic 34, 3) := by decide +kernel
theorem dX4_fits_11 : decode cX4_fits 11 = .ok (.ireturn, 1) := by decide +kernel
theorem dX4_fits_12 : decode cX4_fits 12 = .ok (.iload_n 0, 1) := by decide +kernel
theorem dX4_fits_13 : decode cX4_fits 13 = .ok (.iconst 2, 1) := by decide +kernel
theorem dX4_fits_14 : decode cX4_fits 14 = .ok (.if_icmp .ne 15, 3) := by decide +kernel
theorem dX4_fits_17 : decode cX4_fits 17 = .ok (.iload_n 1, 1) := by decide +kernel
theorem dX4_fits_18 : decode cX4_fits 18 = .ok (.bipush 59, 2) := by decide +kernel
theorem dX4_fits_20 : decode cX4_fits 20 = .ok (.if_icmp .ne 7, 3) := by decide +kernel
theorem dX4_fits_23 : decode cX4_fits 23 = .ok (.iconst 1, 1) := by decide +kernel
theorem dX4_fits_24 : decode cX4_fits 24 = .ok (.goto 4, 3) := by decide +kernel
theorem dX4_fits_27 : decode cX4_fits 27 = .ok (.iconst 0, 1) := by decide +kernel
theorem dX4_fits_28 : decode cX4_fits 28 = .ok (.ireturn, 1) := by decide +kernel
theorem dX4_fits_29 : decode cX4_fits 29 = .ok (.iload_n 0, 1) := by decide +kernel
theorem dX4_fits_30 : decode cX4_fits 30 = .ok (.iconst 3, 1) := by decide +kernel
theorem dX4_fits_31 : decode cX4_fits 31 = .ok (.isub, 1) := by decide +kernel
theorem dX4_fits_32 : decode cX4_fits 32 = .ok (.iconst 4, 1) := by decide +kernel
theorem dX4_fits_33 : decode cX4_fits 33 = .ok (.idiv, 1) := by decide +kernel
theorem dX4_fits_34 : decode cX4_fits 34 = .ok (.iload_n 0, 1) := by decide +kernel
theorem dX4_fits_35 : decode cX4_fits 35 = .ok (.iconst 3, 1) := by decide +kernel
theorem dX4_fits_36 : decode cX4_fits 36 = .ok (.isub, 1) := by decide +kernel
theorem dX4_fits_37 : decode cX4_fits 37 = .ok (.iconst 4, 1) := by decide +kernel
theorem dX4_fits_38 : decode cX4_fits 38 = .ok (.irem, 1) := by decide +kernel
theorem dX4_fits_39 : decode cX4_fits 39 = .ok (.iload_n 1, 1) := by decide +kernel
theorem dX4_fits_40 : decode cX4_fits 40 = .ok (.invokestatic 37, 3) := by decide +kernel
theorem dX4_fits_43 : decode cX4_fits 43 = .ok (.ireturn, 1) := by decide +kernel
theorem dX4_fitsGuest_0 : decode cX4_fitsGuest 0 = .ok (.iload_n 0, 1) := by decide +kernel
theorem dX4_fitsGuest_1 : decode cX4_fitsGuest 1 = .ok (.bipush 8, 2) := by decide +kernel
theorem dX4_fitsGuest_3 : decode cX4_fitsGuest 3 = .ok (.if_icmp .lt 5, 3) := by decide +kernel
theorem dX4_fitsGuest_6 : decode cX4_fitsGuest 6 = .ok (.iconst 0, 1) := by decide +kernel
theorem dX4_fitsGuest_7 : decode cX4_fitsGuest 7 = .ok (.ireturn, 1) := by decide +kernel
theorem dX4_fitsGuest_8 : decode cX4_fitsGuest 8 = .ok (.iload_n 1, 1) := by decide +kernel
theorem dX4_fitsGuest_9 : decode cX4_fitsGuest 9 = .ok (.tableswitch 68 0 2 #[27, 41, 48], 27) := by decide +kernel
theorem dX4_fitsGuest_36 : decode cX4_fitsGuest 36 = .ok (.iload_n 2, 1) := by decide +kernel
theorem dX4_fitsGuest_37 : decode cX4_fitsGuest 37 = .ok (.invokestatic 41, 3) := by decide +kernel
theorem dX4_fitsGuest_40 : decode cX4_fitsGuest 40 = .ok (.iconst (-1), 1) := by decide +kernel
theorem dX4_fitsGuest_41 : decode cX4_fitsGuest 41 = .ok (.if_icmp .eq 7, 3) := by decide +kernel
theorem dX4_fitsGuest_44 : decode cX4_fitsGuest 44 = .ok (.iconst 1, 1) := by decide +kernel
theorem dX4_fitsGuest_45 : decode cX4_fitsGuest 45 = .ok (.goto 4, 3) := by decide +kernel
theorem dX4_fitsGuest_48 : decode cX4_fitsGuest 48 = .ok (.iconst 0, 1) := by decide +kernel
theorem dX4_fitsGuest_49 : decode cX4_fitsGuest 49 = .ok (.ireturn, 1) := by decide +kernel
theorem dX4_fitsGuest_50 : decode cX4_fitsGuest 50 = .ok (.iload_n 2, 1) := by decide +kernel
theorem dX4_fitsGuest_51 : decode cX4_fitsGuest 51 = .ok (.bipush 10, 2) := by decide +kernel
theorem dX4_fitsGuest_53 : decode cX4_fitsGuest 53 = .ok (.invokestatic 34, 3) := by decide +kernel
theorem dX4_fitsGuest_56 : decode cX4_fitsGuest 56 = .ok (.ireturn, 1) := by decide +kernel
theorem dX4_fitsGuest_57 : decode cX4_fitsGuest 57 = .ok (.iload_n 2, 1) := by decide +kernel
theorem dX4_fitsGuest_58 : decode cX4_fitsGuest 58 = .ok (.bipush 45, 2) := by decide +kernel
theorem dX4_fitsGuest_60 : decode cX4_fitsGuest 60 = .ok (.if_icmp .eq 11, 3) := by decide +kernel
theorem dX4_fitsGuest_63 : decode cX4_fitsGuest 63 = .ok (.iload_n 2, 1) := by decide +kernel
theorem dX4_fitsGuest_64 : decode cX4_fitsGuest 64 = .ok (.iload_n 0, 1) := by decide +kernel
theorem dX4_fitsGuest_65 : decode cX4_fitsGuest 65 = .ok (.invokestatic 34, 3) := by decide +kernel
theorem dX4_fitsGuest_68 : decode cX4_fitsGuest 68 = .ok (.ifCond .eq 7, 3) := by decide +kernel
theorem dX4_fitsGuest_71 : decode cX4_fitsGuest 71 = .ok (.iconst 1, 1) := by decide +kernel
theorem dX4_fitsGuest_72 : decode cX4_fitsGuest 72 = .ok (.goto 4, 3) := by decide +kernel
theorem dX4_fitsGuest_75 : decode cX4_fitsGuest 75 = .ok (.iconst 0, 1) := by decide +kernel
theorem dX4_fitsGuest_76 : decode cX4_fitsGuest 76 = .ok (.ireturn, 1) := by decide +kernel
theorem dX4_fitsGuest_77 : decode cX4_fitsGuest 77 = .ok (.iload_n 2, 1) := by decide +kernel
theorem dX4_fitsGuest_78 : decode cX4_fitsGuest 78 = .ok (.bipush 44, 2) := by decide +kernel
theorem dX4_fitsGuest_80 : decode cX4_fitsGuest 80 = .ok (.if_icmp .ne 13, 3) := by decide +kernel
theorem dX4_fitsGuest_83 : decode cX4_fitsGuest 83 = .ok (.iload_n 0, 1) := by decide +kernel
theorem dX4_fitsGuest_84 : decode cX4_fitsGuest 84 = .ok (.bipush 7, 2) := by decide +kernel
theorem dX4_fitsGuest_86 : decode cX4_fitsGuest 86 = .ok (.if_icmp .ge 7, 3) := by decide +kernel
theorem dX4_fitsGuest_89 : decode cX4_fitsGuest 89 = .ok (.iconst 1, 1) := by decide +kernel
theorem dX4_fitsGuest_90 : decode cX4_fitsGuest 90 = .ok (.goto 4, 3) := by decide +kernel
theorem dX4_fitsGuest_93 : decode cX4_fitsGuest 93 = .ok (.iconst 0, 1) := by decide +kernel
theorem dX4_fitsGuest_94 : decode cX4_fitsGuest 94 = .ok (.ireturn, 1) := by decide +kernel
theorem dX4_isDigitBelow_0 : decode cX4_isDigitBelow 0 = .ok (.iload_n 0, 1) := by decide +kernel
theorem dX4_isDigitBelow_1 : decode cX4_isDigitBelow 1 = .ok (.bipush 48, 2) := by decide +kernel
theorem dX4_isDigitBelow_3 : decode cX4_isDigitBelow 3 = .ok (.if_icmp .lt 15, 3) := by decide +kernel
theorem dX4_isDigitBelow_6 : decode cX4_isDigitBelow 6 = .ok (.iload_n 0, 1) := by decide +kernel
theorem dX4_isDigitBelow_7 : decode cX4_isDigitBelow 7 = .ok (.bipush 48, 2) := by decide +kernel
theorem dX4_isDigitBelow_9 : decode cX4_isDigitBelow 9 = .ok (.iload_n 1, 1) := by decide +kernel
theorem dX4_isDigitBelow_10 : decode cX4_isDigitBelow 10 = .ok (.iadd, 1) := by decide +kernel
theorem dX4_isDigitBelow_11 : decode cX4_isDigitBelow 11 = .ok (.if_icmp .ge 7, 3) := by decide +kernel
theorem dX4_isDigitBelow_14 : decode cX4_isDigitBelow 14 = .ok (.iconst 1, 1) := by decide +kernel
theorem dX4_isDigitBelow_15 : decode cX4_isDigitBelow 15 = .ok (.goto 4, 3) := by decide +kernel
theorem dX4_isDigitBelow_18 : decode cX4_isDigitBelow 18 = .ok (.iconst 0, 1) := by decide +kernel
theorem dX4_isDigitBelow_19 : decode cX4_isDigitBelow 19 = .ok (.ireturn, 1) := by decide +kernel
theorem dX5_init_0 : decode cX5_init 0 = .ok (.aload_n 0, 1) := by decide +kernel
theorem dX5_init_1 : decode cX5_init 1 = .ok (.invokespecial 3, 3) := by decide +kernel
theorem dX5_init_4 : decode cX5_init 4 = .ok (.aload_n 0, 1) := by decide +kernel
theorem dX5_init_5 : decode cX5_init 5 = .ok (.sipush 256, 3) := by decide +kernel
theorem dX5_init_8 : decode cX5_init 8 = .ok (.newarray .int, 2) := by decide +kernel
theorem dX5_init_10 : decode cX5_init 10 = .ok (.putfield 9, 3) := by decide +kernel
theorem dX5_init_13 : decode cX5_init 13 = .ok (.return_, 1) := by decide +kernel
theorem dX5_find_0 : decode cX5_find 0 = .ok (.aload_n 0, 1) := by decide +kernel
theorem dX5_find_1 : decode cX5_find 1 = .ok (.aload_n 1, 1) := by decide +kernel
theorem dX5_find_2 : decode cX5_find 2 = .ok (.getfield 15, 3) := by decide +kernel
theorem dX5_find_5 : decode cX5_find 5 = .ok (.putfield 21, 3) := by decide +kernel
theorem dX5_find_8 : decode cX5_find 8 = .ok (.iconst 1, 1) := by decide +kernel
theorem dX5_find_9 : decode cX5_find 9 = .ok (.istore_n 2, 1) := by decide +kernel
theorem dX5_find_10 : decode cX5_find 10 = .ok (.iload_n 2, 1) := by decide +kernel
theorem dX5_find_11 : decode cX5_find 11 = .ok (.aload_n 0, 1) := by decide +kernel
theorem dX5_find_12 : decode cX5_find 12 = .ok (.getfield 21, 3) := by decide +kernel
theorem dX5_find_15 : decode cX5_find 15 = .ok (.if_icmp .gt 53, 3) := by decide +kernel
theorem dX5_find_18 : decode cX5_find 18 = .ok (.iload_n 2, 1) := by decide +kernel
theorem dX5_find_19 : decode cX5_find 19 = .ok (.aload_n 0, 1) := by decide +kernel
theorem dX5_find_20 : decode cX5_find 20 = .ok (.getfield 9, 3) := by decide +kernel
theorem dX5_find_23 : decode cX5_find 23 = .ok (.arraylength, 1) := by decide +kernel
theorem dX5_find_24 : decode cX5_find 24 = .ok (.if_icmp .ge 44, 3) := by decide +kernel
theorem dX5_find_27 : decode cX5_find 27 = .ok (.aload_n 0, 1) := by decide +kernel
theorem dX5_find_28 : decode cX5_find 28 = .ok (.iload_n 2, 1) := by decide +kernel
theorem dX5_find_29 : decode cX5_find 29 = .ok (.invokevirtual 22, 3) := by decide +kernel
theorem dX5_find_32 : decode cX5_find 32 = .ok (.ifCond .eq 30, 3) := by decide +kernel
theorem dX5_find_35 : decode cX5_find 35 = .ok (.aload_n 1, 1) := by decide +kernel
theorem dX5_find_36 : decode cX5_find 36 = .ok (.iload_n 2, 1) := by decide +kernel
theorem dX5_find_37 : decode cX5_find 37 = .ok (.invokevirtual 26, 3) := by decide +kernel
theorem dX5_find_40 : decode cX5_find 40 = .ok (.istore_n 3, 1) := by decide +kernel
theorem dX5_find_41 : decode cX5_find 41 = .ok (.aload_n 0, 1) := by decide +kernel
theorem dX5_find_42 : decode cX5_find 42 = .ok (.getfield 9, 3) := by decide +kernel
theorem dX5_find_45 : decode cX5_find 45 = .ok (.iload_n 2, 1) := by decide +kernel
theorem dX5_find_46 : decode cX5_find 46 = .ok (.iload_n 3, 1) := by decide +kernel
theorem dX5_find_47 : decode cX5_find 47 = .ok (.iload_n 2, 1) := by decide +kernel
theorem dX5_find_48 : decode cX5_find 48 = .ok (.if_icmp .ne 7, 3) := by decide +kernel
theorem dX5_find_51 : decode cX5_find 51 = .ok (.iload_n 2, 1) := by decide +kernel
theorem dX5_find_52 : decode cX5_find 52 = .ok (.goto 9, 3) := by decide +kernel
theorem dX5_find_55 : decode cX5_find 55 = .ok (.aload_n 0, 1) := by decide +kernel
theorem dX5_find_56 : decode cX5_find 56 = .ok (.getfield 9, 3) := by decide +kernel
theorem dX5_find_59 : decode cX5_find 59 = .ok (.iload_n 3, 1) := by decide +kernel
theorem dX5_find_60 : decode cX5_find 60 = .ok (.iaload, 1) := by decide +kernel
theorem dX5_find_61 : decode cX5_find 61 = .ok (.iastore, 1) := by decide +kernel
theorem dX5_find_62 : decode cX5_find 62 = .ok (.iinc 2 1, 3) := by decide +kernel
theorem dX5_find_65 : decode cX5_find 65 = .ok (.goto (-55), 3) := by decide +kernel
theorem dX5_find_68 : decode cX5_find 68 = .ok (.return_, 1) := by decide +kernel
theorem dX5_isChoice_0 : decode cX5_isChoice 0 = .ok (.iload_n 1, 1) := by decide +kernel
theorem dX5_isChoice_1 : decode cX5_isChoice 1 = .ok (.aload_n 0, 1) := by decide +kernel
theorem dX5_isChoice_2 : decode cX5_isChoice 2 = .ok (.getfield 21, 3) := by decide +kernel
theorem dX5_isChoice_5 : decode cX5_isChoice 5 = .ok (.iconst (-1), 1) := by decide +kernel
theorem dX5_isChoice_6 : decode cX5_isChoice 6 = .ok (.ixor, 1) := by decide +kernel
theorem dX5_isChoice_7 : decode cX5_isChoice 7 = .ok (.iand, 1) := by decide +kernel
theorem dX5_isChoice_8 : decode cX5_isChoice 8 = .ok (.ifCond .ne 7, 3) := by decide +kernel
theorem dX5_isChoice_11 : decode cX5_isChoice 11 = .ok (.iconst 1, 1) := by decide +kernel
theorem dX5_isChoice_12 : decode cX5_isChoice 12 = .ok (.goto 4, 3) := by decide +kernel
theorem dX5_isChoice_15 : decode cX5_isChoice 15 = .ok (.iconst 0, 1) := by decide +kernel
theorem dX5_isChoice_16 : decode cX5_isChoice 16 = .ok (.ireturn, 1) := by decide +kernel
theorem dX5_fewest_0 : decode cX5_fewest 0 = .ok (.iconst 0, 1) := by decide +kernel
theorem dX5_fewest_1 : decode cX5_fewest 1 = .ok (.istore_n 1, 1) := by decide +kernel
theorem dX5_fewest_2 : decode cX5_fewest 2 = .ok (.iconst 1, 1) := by decide +kernel
theorem dX5_fewest_3 : decode cX5_fewest 3 = .ok (.istore_n 2, 1) := by decide +kernel
theorem dX5_fewest_4 : decode cX5_fewest 4 = .ok (.iload_n 2, 1) := by decide +kernel
theorem dX5_fewest_5 : decode cX5_fewest 5 = .ok (.aload_n 0, 1) := by decide +kernel
theorem dX5_fewest_6 : decode cX5_fewest 6 = .ok (.getfield 21, 3) := by decide +kernel
theorem dX5_fewest_9 : decode cX5_fewest 9 = .ok (.if_icmp .gt 53, 3) := by decide +kernel
theorem dX5_fewest_12 : decode cX5_fewest 12 = .ok (.iload_n 2, 1) := by decide +kernel
theorem dX5_fewest_13 : decode cX5_fewest 13 = .ok (.aload_n 0, 1) := by decide +kernel
theorem dX5_fewest_14 : decode cX5_fewest 14 = .ok (.getfield 9, 3) := by decide +kernel
theorem dX5_fewest_17 : decode cX5_fewest 17 = .ok (.arraylength, 1) := by decide +kernel
theorem dX5_fewest_18 : decode cX5_fewest 18 = .ok (.if_icmp .ge 44, 3) := by decide +kernel
theorem dX5_fewest_21 : decode cX5_fewest 21 = .ok (.aload_n 0, 1) := by decide +kernel
theorem dX5_fewest_22 : decode cX5_fewest 22 = .ok (.iload_n 2, 1) := by decide +kernel
theorem dX5_fewest_23 : decode cX5_fewest 23 = .ok (.invokevirtual 22, 3) := by decide +kernel
theorem dX5_fewest_26 : decode cX5_fewest 26 = .ok (.ifCond .eq 30, 3) := by decide +kernel
theorem dX5_fewest_29 : decode cX5_fewest 29 = .ok (.aload_n 0, 1) := by decide +kernel
theorem dX5_fewest_30 : decode cX5_fewest 30 = .ok (.getfield 9, 3) := by decide +kernel
theorem dX5_fewest_33 : decode cX5_fewest 33 = .ok (.iload_n 2, 1) := by decide +kernel
theorem dX5_fewest_34 : decode cX5_fewest 34 = .ok (.iaload, 1) := by decide +kernel
theorem dX5_fewest_35 : decode cX5_fewest 35 = .ok (.iload_n 2, 1) := by decide +kernel
theorem dX5_fewest_36 : decode cX5_fewest 36 = .ok (.if_icmp .ne 20, 3) := by decide +kernel
theorem dX5_fewest_39 : decode cX5_fewest 39 = .ok (.iload_n 1, 1) := by decide +kernel
theorem dX5_fewest_40 : decode cX5_fewest 40 = .ok (.ifCond .eq 14, 3) := by decide +kernel
theorem dX5_fewest_43 : decode cX5_fewest 43 = .ok (.iload_n 2, 1) := by decide +kernel
theorem dX5_fewest_44 : decode cX5_fewest 44 = .ok (.invokestatic 30, 3) := by decide +kernel
theorem dX5_fewest_47 : decode cX5_fewest 47 = .ok (.iload_n 1, 1) := by decide +kernel
theorem dX5_fewest_48 : decode cX5_fewest 48 = .ok (.invokestatic 30, 3) := by decide +kernel
theorem dX5_fewest_51 : decode cX5_fewest 51 = .ok (.if_icmp .ge 5, 3) := by decide +kernel
theorem dX5_fewest_54 : decode cX5_fewest 54 = .ok (.iload_n 2, 1) := by decide +kernel
theorem dX5_fewest_55 : decode cX5_fewest 55 = .ok (.istore_n 1, 1) := by decide +kernel
theorem dX5_fewest_56 : decode cX5_fewest 56 = .ok (.iinc 2 1, 3) := by decide +kernel
theorem dX5_fewest_59 : decode cX5_fewest 59 = .ok (.goto (-55), 3) := by decide +kernel
theorem dX5_fewest_62 : decode cX5_fewest 62 = .ok (.iload_n 1, 1) := by decide +kernel
theorem dX5_fewest_63 : decode cX5_fewest 63 = .ok (.ireturn, 1) := by decide +kernel
theorem dX6_init_0 : decode cX6_init 0 = .ok (.aload_n 0, 1) := by decide +kernel
theorem dX6_init_1 : decode cX6_init 1 = .ok (.invokespecial 3, 3) := by decide +kernel
theorem dX6_init_4 : decode cX6_init 4 = .ok (.aload_n 0, 1) := by decide +kernel
theorem dX6_init_5 : decode cX6_init 5 = .ok (.bipush 8, 2) := by decide +kernel
theorem dX6_init_7 : decode cX6_init 7 = .ok (.newarray .int, 2) := by decide +kernel
theorem dX6_init_9 : decode cX6_init 9 = .ok (.putfield 9, 3) := by decide +kernel
theorem dX6_init_12 : decode cX6_init 12 = .ok (.aload_n 0, 1) := by decide +kernel
theorem dX6_init_13 : decode cX6_init 13 = .ok (.bipush 8, 2) := by decide +kernel
theorem dX6_init_15 : decode cX6_init 15 = .ok (.newarray .int, 2) := by decide +kernel
theorem dX6_init_17 : decode cX6_init 17 = .ok (.putfield 15, 3) := by decide +kernel
theorem dX6_init_20 : decode cX6_init 20 = .ok (.aload_n 0, 1) := by decide +kernel
theorem dX6_init_21 : decode cX6_init 21 = .ok (.bipush 8, 2) := by decide +kernel
theorem dX6_init_23 : decode cX6_init 23 = .ok (.newarray .int, 2) := by decide +kernel
theorem dX6_init_25 : decode cX6_init 25 = .ok (.putfield 18, 3) := by decide +kernel
theorem dX6_init_28 : decode cX6_init 28 = .ok (.return_, 1) := by decide +kernel
theorem dX6_readFrom_0 : decode cX6_readFrom 0 = .ok (.aload_n 0, 1) := by decide +kernel
theorem dX6_readFrom_1 : decode cX6_readFrom 1 = .ok (.aload_n 1, 1) := by decide +kernel
theorem dX6_readFrom_2 : decode cX6_readFrom 2 = .ok (.invokevirtual 21, 3) := by decide +kernel
theorem dX6_readFrom_5 : decode cX6_readFrom 5 = .ok (.putfield 27, 3) := by decide +kernel
theorem dX6_readFrom_8 : decode cX6_readFrom 8 = .ok (.aload_n 0, 1) := by decide +kernel
theorem dX6_readFrom_9 : decode cX6_readFrom 9 = .ok (.aload_n 0, 1) := by decide +kernel
theorem dX6_readFrom_10 : decode cX6_readFrom 10 = .ok (.invokevirtual 30, 3) := by decide +kernel
theorem dX6_readFrom_13 : decode cX6_readFrom 13 = .ok (.putfield 33, 3) := by decide +kernel
theorem dX6_readFrom_16 : decode cX6_readFrom 16 = .ok (.aload_n 0, 1) := by decide +kernel
theorem dX6_readFrom_17 : decode cX6_readFrom 17 = .ok (.bipush 10, 2) := by decide +kernel
theorem dX6_readFrom_19 : decode cX6_readFrom 19 = .ok (.aload_n 1, 1) := by decide +kernel
theorem dX6_readFrom_20 : decode cX6_readFrom 20 = .ok (.iconst 0, 1) := by decide +kernel
theorem dX6_readFrom_21 : decode cX6_readFrom 21 = .ok (.invokevirtual 36, 3) := by decide +kernel
theorem dX6_readFrom_24 : decode cX6_readFrom 24 = .ok (.imul, 1) := by decide +kernel
theorem dX6_readFrom_25 : decode cX6_readFrom 25 = .ok (.aload_n 1, 1) := by decide +kernel
theorem dX6_readFrom_26 : decode cX6_readFrom 26 = .ok (.iconst 1, 1) := by decide +kernel
theorem dX6_readFrom_27 : decode cX6_readFrom 27 = .ok (.invokevirtual 36, 3) := by decide +kernel
theorem dX6_readFrom_30 : decode cX6_readFrom 30 = .ok (.iadd, 1) := by decide +kernel
theorem dX6_readFrom_31 : decode cX6_readFrom 31 = .ok (.putfield 40, 3) := by decide +kernel
theorem dX6_readFrom_34 : decode cX6_readFrom 34 = .ok (.aload_n 0, 1) := by decide +kernel
theorem dX6_readFrom_35 : decode cX6_readFrom 35 = .ok (.iconst 0, 1) := by decide +kernel
theorem dX6_readFrom_36 : decode cX6_readFrom 36 = .ok (.putfield 43, 3) := by decide +kernel
theorem dX6_readFrom_39 : decode cX6_readFrom 39 = .ok (.iconst 0, 1) := by decide +kernel
theorem dX6_readFrom_40 : decode cX6_readFrom 40 = .ok (.istore_n 2, 1) := by decide +kernel
theorem dX6_readFrom_41 : decode cX6_readFrom 41 = .ok (.iload_n 2, 1) := by decide +kernel
theorem dX6_readFrom_42 : decode cX6_readFrom 42 = .ok (.aload_n 0, 1) := by decide +kernel
theorem dX6_readFrom_43 : decode cX6_readFrom 43 = .ok (.getfield 27, 3) := by decide +kernel
theorem dX6_readFrom_46 : decode cX6_readFrom 46 = .ok (.if_icmp .ge 76, 3) := by decide +kernel
theorem dX6_readFrom_49 : decode cX6_readFrom 49 = .ok (.iload_n 2, 1) := by decide +kernel
theorem dX6_readFrom_50 : decode cX6_readFrom 50 = .ok (.bipush 8, 2) := by decide +kernel
theorem dX6_readFrom_52 : decode cX6_readFrom 52 = .ok (.if_icmp .ge 70, 3) := by decide +kernel
theorem dX6_readFrom_55 : decode cX6_readFrom 55 = .ok (.iload_n 2, 1) := by decide +kernel
theorem dX6_readFrom_56 : decode cX6_readFrom 56 = .ok (.invokestatic 46, 3) := by decide +kernel
theorem dX6_readFrom_59 : decode cX6_readFrom 59 = .ok (.istore_n 3, 1) := by decide +kernel
theorem dX6_readFrom_60 : decode cX6_readFrom 60 = .ok (.aload_n 0, 1) := by decide +kernel
theorem dX6_readFrom_61 : decode cX6_readFrom 61 = .ok (.getfield 9, 3) := by decide +kernel
theorem dX6_readFrom_64 : decode cX6_readFrom 64 = .ok (.iload_n 2, 1) := by decide +kernel
theorem dX6_readFrom_65 : decode cX6_readFrom 65 = .ok (.aload_n 1, 1) := by decide +kernel
theorem dX6_readFrom_66 : decode cX6_readFrom 66 = .ok (.iload_n 3, 1) := by decide +kernel
theorem dX6_readFrom_67 : decode cX6_readFrom 67 = .ok (.invokevirtual 49, 3) := by decide +kernel
theorem dX6_readFrom_70 : decode cX6_readFrom 70 = .ok (.invokestatic 52, 3) := by decide +kernel
theorem dX6_readFrom_73 : decode cX6_readFrom 73 = .ok (.iastore, 1) := by decide +kernel
theorem dX6_readFrom_74 : decode cX6_readFrom 74 = .ok (.aload_n 0, 1) := by decide +kernel
theorem dX6_readFrom_75 : decode cX6_readFrom 75 = .ok (.getfield 15, 3) := by decide +kernel
theorem dX6_readFrom_78 : decode cX6_readFrom 78 = .ok (.iload_n 2, 1) := by decide +kernel
theorem dX6_readFrom_79 : decode cX6_readFrom 79 = .ok (.aload_n 1, 1) := by decide +kernel
theorem dX6_readFrom_80 : decode cX6_readFrom 80 = .ok (.iload_n 3, 1) := by decide +kernel
theorem dX6_readFrom_81 : decode cX6_readFrom 81 = .ok (.iconst 1, 1) := by decide +kernel
theorem dX6_readFrom_82 : decode cX6_readFrom 82 = .ok (.iadd, 1) := by decide +kernel
theorem dX6_readFrom_83 : decode cX6_readFrom 83 = .ok (.invokevirtual 36, 3) := by decide +kernel
theorem dX6_readFrom_86 : decode cX6_readFrom 86 = .ok (.iastore, 1) := by decide +kernel
theorem dX6_readFrom_87 : decode cX6_readFrom 87 = .ok (.aload_n 0, 1) := by decide +kernel
theorem dX6_readFrom_88 : decode cX6_readFrom 88 = .ok (.getfield 18, 3) := by decide +kernel
theorem dX6_readFrom_91 : decode cX6_readFrom 91 = .ok (.iload_n 2, 1) := by decide +kernel
theorem dX6_readFrom_92 : decode cX6_readFrom 92 = .ok (.aload_n 1, 1) := by decide +kernel
theorem dX6_readFrom_93 : decode cX6_readFrom 93 = .ok (.iload_n 3, 1) := by decide +kernel
theorem dX6_readFrom_94 : decode cX6_readFrom 94 = .ok (.iconst 2, 1) := by decide +kernel
theorem dX6_readFrom_95 : decode cX6_readFrom 95 = .ok (.iadd, 1) := by decide +kernel
theorem dX6_readFrom_96 : decode cX6_readFrom 96 = .ok (.invokevirtual 49, 3) := by decide +kernel
theorem dX6_readFrom_99 : decode cX6_readFrom 99 = .ok (.bipush 45, 2) := by decide +kernel
theorem dX6_readFrom_101 : decode cX6_readFrom 101 = .ok (.if_icmp .ne 7, 3) := by decide +kernel
theorem dX6_readFrom_104 : decode cX6_readFrom 104 = .ok (.iconst (-1), 1) := by decide +kernel
theorem dX6_readFrom_105 : decode cX6_readFrom 105 = .ok (.goto 10, 3) := by decide +kernel
theorem dX6_readFrom_108 : decode cX6_readFrom 108 = .ok (.aload_n 1, 1) := by decide +kernel
theorem dX6_readFrom_109 : decode cX6_readFrom 109 = .ok (.iload_n 3, 1) := by decide +kernel
theorem dX6_readFrom_110 : decode cX6_readFrom 110 = .ok (.iconst 2, 1) := by decide +kernel
theorem dX6_readFrom_111 : decode cX6_readFrom 111 = .ok (.iadd, 1) := by decide +kernel
theorem dX6_readFrom_112 : decode cX6_readFrom 112 = .ok (.invokevirtual 36, 3) := by decide +kernel
theorem dX6_readFrom_115 : decode cX6_readFrom 115 = .ok (.iastore, 1) := by decide +kernel
theorem dX6_readFrom_116 : decode cX6_readFrom 116 = .ok (.iinc 2 1, 3) := by decide +kernel
theorem dX6_readFrom_119 : decode cX6_readFrom 119 = .ok (.goto (-78), 3) := by decide +kernel
theorem dX6_readFrom_122 : decode cX6_readFrom 122 = .ok (.return_, 1) := by decide +kernel
theorem dX6_copyFrom_0 : decode cX6_copyFrom 0 = .ok (.aload_n 1, 1) := by decide +kernel
theorem dX6_copyFrom_1 : decode cX6_copyFrom 1 = .ok (.getfield 9, 3) := by decide +kernel
theorem dX6_copyFrom_4 : decode cX6_copyFrom 4 = .ok (.iconst 0, 1) := by decide +kernel
theorem dX6_copyFrom_5 : decode cX6_copyFrom 5 = .ok (.aload_n 0, 1) := by decide +kernel
theorem dX6_copyFrom_6 : decode cX6_copyFrom 6 = .ok (.getfield 9, 3) := by decide +kernel
theorem dX6_copyFrom_9 : decode cX6_copyFrom 9 = .ok (.iconst 0, 1) := by decide +kernel
theorem dX6_copyFrom_10 : decode cX6_copyFrom 10 = .ok (.bipush 8, 2) := by decide +kernel
theorem dX6_copyFrom_12 : decode cX6_copyFrom 12 = .ok (.invokestatic 57, 3) := by decide +kernel
theorem dX6_copyFrom_15 : decode cX6_copyFrom 15 = .ok (.aload_n 1, 1) := by decide +kernel
theorem dX6_copyFrom_16 : decode cX6_copyFrom 16 = .ok (.getfield 15, 3) := by decide +kernel
theorem dX6_copyFrom_19 : decode cX6_copyFrom 19 = .ok (.iconst 0, 1) := by decide +kernel
theorem dX6_copyFrom_20 : decode cX6_copyFrom 20 = .ok (.aload_n 0, 1) := by decide +kernel
theorem dX6_copyFrom_21 : decode cX6_copyFrom 21 = .ok (.getfield 15, 3) := by decide +kernel
theorem dX6_copyFrom_24 : decode cX6_copyFrom 24 = .ok (.iconst 0, 1) := by decide +kernel
theorem dX6_copyFrom_25 : decode cX6_copyFrom 25 = .ok (.bipush 8, 2) := by decide +kernel
theorem dX6_copyFrom_27 : decode cX6_copyFrom 27 = .ok (.invokestatic 57, 3) := by decide +kernel
theorem dX6_copyFrom_30 : decode cX6_copyFrom 30 = .ok (.aload_n 1, 1) := by decide +kernel
theorem dX6_copyFrom_31 : decode cX6_copyFrom 31 = .ok (.getfield 18, 3) := by decide +kernel
theorem dX6_copyFrom_34 : decode cX6_copyFrom 34 = .ok (.iconst 0, 1) := by decide +kernel
theorem dX6_copyFrom_35 : decode cX6_copyFrom 35 = .ok (.aload_n 0, 1) := by decide +kernel
theorem dX6_copyFrom_36 : decode cX6_copyFrom 36 = .ok (.getfield 18, 3) := by decide +kernel
theorem dX6_copyFrom_39 : decode cX6_copyFrom 39 = .ok (.iconst 0, 1) := by decide +kernel
theorem dX6_copyFrom_40 : decode cX6_copyFrom 40 = .ok (.bipush 8, 2) := by decide +kernel
theorem dX6_copyFrom_42 : decode cX6_copyFrom 42 = .ok (.invokestatic 57, 3) := by decide +kernel
theorem dX6_copyFrom_45 : decode cX6_copyFrom 45 = .ok (.aload_n 0, 1) := by decide +kernel
theorem dX6_copyFrom_46 : decode cX6_copyFrom 46 = .ok (.aload_n 1, 1) := by decide +kernel
theorem dX6_copyFrom_47 : decode cX6_copyFrom 47 = .ok (.getfield 27, 3) := by decide +kernel
theorem dX6_copyFrom_50 : decode cX6_copyFrom 50 = .ok (.putfield 27, 3) := by decide +kernel
theorem dX6_copyFrom_53 : decode cX6_copyFrom 53 = .ok (.aload_n 0, 1) := by decide +kernel
theorem dX6_copyFrom_54 : decode cX6_copyFrom 54 = .ok (.aload_n 1, 1) := by decide +kernel
theorem dX6_copyFrom_55 : decode cX6_copyFrom 55 = .ok (.getfield 33, 3) := by decide +kernel
theorem dX6_copyFrom_58 : decode cX6_copyFrom 58 = .ok (.putfield 33, 3) := by decide +kernel
theorem dX6_copyFrom_61 : decode cX6_copyFrom 61 = .ok (.aload_n 0, 1) := by decide +kernel
theorem dX6_copyFrom_62 : decode cX6_copyFrom 62 = .ok (.aload_n 1, 1) := by decide +kernel
theorem dX6_copyFrom_63 : decode cX6_copyFrom 63 = .ok (.getfield 40, 3) := by decide +kernel
theorem dX6_copyFrom_66 : decode cX6_copyFrom 66 = .ok (.putfield 40, 3) := by decide +kernel
theorem dX6_copyFrom_69 : decode cX6_copyFrom 69 = .ok (.aload_n 0, 1) := by decide +kernel
theorem dX6_copyFrom_70 : decode cX6_copyFrom 70 = .ok (.aload_n 1, 1) := by decide +kernel
theorem dX6_copyFrom_71 : decode cX6_copyFrom 71 = .ok (.getfield 43, 3) := by decide +kernel
theorem dX6_copyFrom_74 : decode cX6_copyFrom 74 = .ok (.putfield 43, 3) := by decide +kernel
theorem dX6_copyFrom_77 : decode cX6_copyFrom 77 = .ok (.return_, 1) := by decide +kernel
theorem dX6_hasGuest_0 : decode cX6_hasGuest 0 = .ok (.iload_n 1, 1) := by decide +kernel
theorem dX6_hasGuest_1 : decode cX6_hasGuest 1 = .ok (.ifCond .lt 15, 3) := by decide +kernel
theorem dX6_hasGuest_4 : decode cX6_hasGuest 4 = .ok (.iload_n 1, 1) := by decide +kernel
theorem dX6_hasGuest_5 : decode cX6_hasGuest 5 = .ok (.aload_n 0, 1) := by decide +kernel
theorem dX6_hasGuest_6 : decode cX6_hasGuest 6 = .ok (.getfield 27, 3) := by decide +kernel
theorem dX6_hasGuest_9 : decode cX6_hasGuest 9 = .ok (.if_icmp .ge 7, 3) := by decide +kernel
theorem dX6_hasGuest_12 : decode cX6_hasGuest 12 = .ok (.iconst 1, 1) := by decide +kernel
theorem dX6_hasGuest_13 : decode cX6_hasGuest 13 = .ok (.goto 4, 3) := by decide +kernel
theorem dX6_hasGuest_16 : decode cX6_hasGuest 16 = .ok (.iconst 0, 1) := by decide +kernel
theorem dX6_hasGuest_17 : decode cX6_hasGuest 17 = .ok (.ireturn, 1) := by decide +kernel
theorem dX6_isHere_0 : decode cX6_isHere 0 = .ok (.iload_n 1, 1) := by decide +kernel
theorem dX6_isHere_1 : decode cX6_isHere 1 = .ok (.aload_n 0, 1) := by decide +kernel
theorem dX6_isHere_2 : decode cX6_isHere 2 = .ok (.getfield 33, 3) := by decide +kernel
theorem dX6_isHere_5 : decode cX6_isHere 5 = .ok (.invokestatic 63, 3) := by decide +kernel
theorem dX6_isHere_8 : decode cX6_isHere 8 = .ok (.ireturn, 1) := by decide +kernel
theorem dX6_everyone_0 : decode cX6_everyone 0 = .ok (.iconst 1, 1) := by decide +kernel
theorem dX6_everyone_1 : decode cX6_everyone 1 = .ok (.aload_n 0, 1) := by decide +kernel
theorem dX6_everyone_2 : decode cX6_everyone 2 = .ok (.getfield 27, 3) := by decide +kernel
theorem dX6_everyone_5 : decode cX6_everyone 5 = .ok (.ishl, 1) := by decide +kernel
theorem dX6_everyone_6 : decode cX6_everyone 6 = .ok (.iconst 1, 1) := by decide +kernel
theorem dX6_everyone_7 : decode cX6_everyone 7 = .ok (.isub, 1) := by decide +kernel
theorem dX6_everyone_8 : decode cX6_everyone 8 = .ok (.ireturn, 1) := by decide +kernel
theorem dX6_gone_0 : decode cX6_gone 0 = .ok (.aload_n 0, 1) := by decide +kernel
theorem dX6_gone_1 : decode cX6_gone 1 = .ok (.invokevirtual 30, 3) := by decide +kernel
theorem dX6_gone_4 : decode cX6_gone 4 = .ok (.aload_n 0, 1) := by decide +kernel
theorem dX6_gone_5 : decode cX6_gone 5 = .ok (.getfield 33, 3) := by decide +kernel
theorem dX6_gone_8 : decode cX6_gone 8 = .ok (.iconst (-1), 1) := by decide +kernel
theorem dX6_gone_9 : decode cX6_gone 9 = .ok (.ixor, 1) := by decide +kernel
theorem dX6_gone_10 : decode cX6_gone 10 = .ok (.iand, 1) := by decide +kernel
theorem dX6_gone_11 : decode cX6_gone 11 = .ok (.ireturn, 1) := by decide +kernel
theorem dX6_needsOf_0 : decode cX6_needsOf 0 = .ok (.aload_n 0, 1) := by decide +kernel
theorem dX6_needsOf_1 : decode cX6_needsOf 1 = .ok (.getfield 9, 3) := by decide +kernel
theorem dX6_needsOf_4 : decode cX6_needsOf 4 = .ok (.iload_n 1, 1) := by decide +kernel
theorem dX6_needsOf_5 : decode cX6_needsOf 5 = .ok (.iaload, 1) := by decide +kernel
theorem dX6_needsOf_6 : decode cX6_needsOf 6 = .ok (.aload_n 0, 1) := by decide +kernel
theorem dX6_needsOf_7 : decode cX6_needsOf 7 = .ok (.getfield 15, 3) := by decide +kernel
theorem dX6_needsOf_10 : decode cX6_needsOf 10 = .ok (.iload_n 1, 1) := by decide +kernel
theorem dX6_needsOf_11 : decode cX6_needsOf 11 = .ok (.iaload, 1) := by decide +kernel
theorem dX6_needsOf_12 : decode cX6_needsOf 12 = .ok (.invokestatic 67, 3) := by decide +kernel
theorem dX6_needsOf_15 : decode cX6_needsOf 15 = .ok (.ireturn, 1) := by decide +kernel
theorem dX6_countTogether_0 : decode cX6_countTogether 0 = .ok (.iconst 0, 1) := by decide +kernel
theorem dX6_countTogether_1 : decode cX6_countTogether 1 = .ok (.istore_n 2, 1) := by decide +kernel
theorem dX6_countTogether_2 : decode cX6_countTogether 2 = .ok (.iconst 0, 1) := by decide +kernel
theorem dX6_countTogether_3 : decode cX6_countTogether 3 = .ok (.istore_n 3, 1) := by decide +kernel
theorem dX6_countTogether_4 : decode cX6_countTogether 4 = .ok (.iload_n 3, 1) := by decide +kernel
theorem dX6_countTogether_5 : decode cX6_countTogether 5 = .ok (.bipush 8, 2) := by decide +kernel
theorem dX6_countTogether_7 : decode cX6_countTogether 7 = .ok (.if_icmp .ge 29, 3) := by decide +kernel
theorem dX6_countTogether_10 : decode cX6_countTogether 10 = .ok (.iload_n 3, 1) := by decide +kernel
theorem dX6_countTogether_11 : decode cX6_countTogether 11 = .ok (.iload_n 1, 1) := by decide +kernel
theorem dX6_countTogether_12 : decode cX6_countTogether 12 = .ok (.invokestatic 63, 3) := by decide +kernel
theorem dX6_countTogether_15 : decode cX6_countTogether 15 = .ok (.ifCond .eq 15, 3) := by decide +kernel
theorem dX6_countTogether_18 : decode cX6_countTogether 18 = .ok (.iload_n 2, 1) := by decide +kernel
theorem dX6_countTogether_19 : decode cX6_countTogether 19 = .ok (.aload_n 0, 1) := by decide +kernel
theorem dX6_countTogether_20 : decode cX6_countTogether 20 = .ok (.getfield 9, 3) := by decide +kernel
theorem dX6_countTogether_23 : decode cX6_countTogether 23 = .ok (.iload_n 3, 1) := by decide +kernel
theorem dX6_countTogether_24 : decode cX6_countTogether 24 = .ok (.iaload, 1) := by decide +kernel
theorem dX6_countTogether_25 : decode cX6_countTogether 25 = .ok (.invokestatic 71, 3) := by decide +kernel
theorem dX6_countTogether_28 : decode cX6_countTogether 28 = .ok (.iadd, 1) := by decide +kernel
theorem dX6_countTogether_29 : decode cX6_countTogether 29 = .ok (.istore_n 2, 1) := by decide +kernel
theorem dX6_countTogether_30 : decode cX6_countTogether 30 = .ok (.iinc 3 1, 3) := by decide +kernel
theorem dX6_countTogether_33 : decode cX6_countTogether 33 = .ok (.goto (-29), 3) := by decide +kernel
theorem dX6_countTogether_36 : decode cX6_countTogether 36 = .ok (.iload_n 2, 1) := by decide +kernel
theorem dX6_countTogether_37 : decode cX6_countTogether 37 = .ok (.ireturn, 1) := by decide +kernel
theorem dX6_shyTogether_0 : decode cX6_shyTogether 0 = .ok (.iconst 0, 1) := by decide +kernel
theorem dX6_shyTogether_1 : decode cX6_shyTogether 1 = .ok (.istore_n 2, 1) := by decide +kernel
theorem dX6_shyTogether_2 : decode cX6_shyTogether 2 = .ok (.iconst 0, 1) := by decide +kernel
theorem dX6_shyTogether_3 : decode cX6_shyTogether 3 = .ok (.istore_n 3, 1) := by decide +kernel
theorem dX6_shyTogether_4 : decode cX6_shyTogether 4 = .ok (.iload_n 3, 1) := by decide +kernel
theorem dX6_shyTogether_5 : decode cX6_shyTogether 5 = .ok (.bipush 8, 2) := by decide +kernel
theorem dX6_shyTogether_7 : decode cX6_shyTogether 7 = .ok (.if_icmp .ge 26, 3) := by decide +kernel
theorem dX6_shyTogether_10 : decode cX6_shyTogether 10 = .ok (.iload_n 3, 1) := by decide +kernel
theorem dX6_shyTogether_11 : decode cX6_shyTogether 11 = .ok (.iload_n 1, 1) := by decide +kernel
theorem dX6_shyTogether_12 : decode cX6_shyTogether 12 = .ok (.invokestatic 63, 3) := by decide +kernel
theorem dX6_shyTogether_15 : decode cX6_shyTogether 15 = .ok (.ifCond .eq 12, 3) := by decide +kernel
theorem dX6_shyTogether_18 : decode cX6_shyTogether 18 = .ok (.iload_n 2, 1) := by decide +kernel
theorem dX6_shyTogether_19 : decode cX6_shyTogether 19 = .ok (.aload_n 0, 1) := by decide +kernel
theorem dX6_shyTogether_20 : decode cX6_shyTogether 20 = .ok (.getfield 15, 3) := by decide +kernel
theorem dX6_shyTogether_23 : decode cX6_shyTogether 23 = .ok (.iload_n 3, 1) := by decide +kernel
theorem dX6_shyTogether_24 : decode cX6_shyTogether 24 = .ok (.iaload, 1) := by decide +kernel
theorem dX6_shyTogether_25 : decode cX6_shyTogether 25 = .ok (.iadd, 1) := by decide +kernel
theorem dX6_shyTogether_26 : decode cX6_shyTogether 26 = .ok (.istore_n 2, 1) := by decide +kernel
theorem dX6_shyTogether_27 : decode cX6_shyTogether 27 = .ok (.iinc 3 1, 3) := by decide +kernel
theorem dX6_shyTogether_30 : decode cX6_shyTogether 30 = .ok (.goto (-26), 3) := by decide +kernel
theorem dX6_shyTogether_33 : decode cX6_shyTogether 33 = .ok (.iload_n 2, 1) := by decide +kernel
theorem dX6_shyTogether_34 : decode cX6_shyTogether 34 = .ok (.ireturn, 1) := by decide +kernel
theorem dX6_hasFriendAmong_0 : decode cX6_hasFriendAmong 0 = .ok (.aload_n 0, 1) := by decide +kernel
theorem dX6_hasFriendAmong_1 : decode cX6_hasFriendAmong 1 = .ok (.getfield 18, 3) := by decide +kernel
theorem dX6_hasFriendAmong_4 : decode cX6_hasFriendAmong 4 = .ok (.iload_n 1, 1) := by decide +kernel
theorem dX6_hasFriendAmong_5 : decode cX6_hasFriendAmong 5 = .ok (.iaload, 1) := by decide +kernel
theorem dX6_hasFriendAmong_6 : decode cX6_hasFriendAmong 6 = .ok (.iconst (-1), 1) := by decide +kernel
theorem dX6_hasFriendAmong_7 : decode cX6_hasFriendAmong 7 = .ok (.if_icmp .eq 16, 3) := by decide +kernel
theorem dX6_hasFriendAmong_10 : decode cX6_hasFriendAmong 10 = .ok (.aload_n 0, 1) := by decide +kernel
theorem dX6_hasFriendAmong_11 : decode cX6_hasFriendAmong 11 = .ok (.getfield 18, 3) := by decide +kernel
theorem dX6_hasFriendAmong_14 : decode cX6_hasFriendAmong 14 = .ok (.iload_n 1, 1) := by decide +kernel
theorem dX6_hasFriendAmong_15 : decode cX6_hasFriendAmong 15 = .ok (.iaload, 1) := by decide +kernel
theorem dX6_hasFriendAmong_16 : decode cX6_hasFriendAmong 16 = .ok (.iload_n 2, 1) := by decide +kernel
theorem dX6_hasFriendAmong_17 : decode cX6_hasFriendAmong 17 = .ok (.invokestatic 63, 3) := by decide +kernel
theorem dX6_hasFriendAmong_20 : decode cX6_hasFriendAmong 20 = .ok (.ifCond .eq 7, 3) := by decide +kernel
theorem dX6_hasFriendAmong_23 : decode cX6_hasFriendAmong 23 = .ok (.iconst 1, 1) := by decide +kernel
theorem dX6_hasFriendAmong_24 : decode cX6_hasFriendAmong 24 = .ok (.goto 4, 3) := by decide +kernel
theorem dX6_hasFriendAmong_27 : decode cX6_hasFriendAmong 27 = .ok (.iconst 0, 1) := by decide +kernel
theorem dX6_hasFriendAmong_28 : decode cX6_hasFriendAmong 28 = .ok (.ireturn, 1) := by decide +kernel
theorem dX6_whoCanGo_0 : decode cX6_whoCanGo 0 = .ok (.iload_n 1, 1) := by decide +kernel
theorem dX6_whoCanGo_1 : decode cX6_whoCanGo 1 = .ok (.aload_n 0, 1) := by decide +kernel
theorem dX6_whoCanGo_2 : decode cX6_whoCanGo 2 = .ok (.invokevirtual 74, 3) := by decide +kernel
theorem dX6_whoCanGo_5 : decode cX6_whoCanGo 5 = .ok (.ior, 1) := by decide +kernel
theorem dX6_whoCanGo_6 : decode cX6_whoCanGo 6 = .ok (.istore_n 2, 1) := by decide +kernel
theorem dX6_whoCanGo_7 : decode cX6_whoCanGo 7 = .ok (.aload_n 0, 1) := by decide +kernel
theorem dX6_whoCanGo_8 : decode cX6_whoCanGo 8 = .ok (.iload_n 2, 1) := by decide +kernel
theorem dX6_whoCanGo_9 : decode cX6_whoCanGo 9 = .ok (.invokevirtual 77, 3) := by decide +kernel
theorem dX6_whoCanGo_12 : decode cX6_whoCanGo 12 = .ok (.istore_n 3, 1) := by decide +kernel
theorem dX6_whoCanGo_13 : decode cX6_whoCanGo 13 = .ok (.iconst 0, 1) := by decide +kernel
theorem dX6_whoCanGo_14 : decode cX6_whoCanGo 14 = .ok (.istore 4, 2) := by decide +kernel
theorem dX6_whoCanGo_16 : decode cX6_whoCanGo 16 = .ok (.iconst 0, 1) := by decide +kernel
theorem dX6_whoCanGo_17 : decode cX6_whoCanGo 17 = .ok (.istore 5, 2) := by decide +kernel
theorem dX6_whoCanGo_19 : decode cX6_whoCanGo 19 = .ok (.iload 5, 2) := by decide +kernel
theorem dX6_whoCanGo_21 : decode cX6_whoCanGo 21 = .ok (.bipush 8, 2) := by decide +kernel
theorem dX6_whoCanGo_23 : decode cX6_whoCanGo 23 = .ok (.if_icmp .ge 58, 3) := by decide +kernel
theorem dX6_whoCanGo_26 : decode cX6_whoCanGo 26 = .ok (.iload 5, 2) := by decide +kernel
theorem dX6_whoCanGo_28 : decode cX6_whoCanGo 28 = .ok (.iload_n 1, 1) := by decide +kernel
theorem dX6_whoCanGo_29 : decode cX6_whoCanGo 29 = .ok (.invokestatic 63, 3) := by decide +kernel
theorem dX6_whoCanGo_32 : decode cX6_whoCanGo 32 = .ok (.ifCond .eq 43, 3) := by decide +kernel
theorem dX6_whoCanGo_35 : decode cX6_whoCanGo 35 = .ok (.aload_n 0, 1) := by decide +kernel
theorem dX6_whoCanGo_36 : decode cX6_whoCanGo 36 = .ok (.iload 5, 2) := by decide +kernel
theorem dX6_whoCanGo_38 : decode cX6_whoCanGo 38 = .ok (.iload_n 2, 1) := by decide +kernel
theorem dX6_whoCanGo_39 : decode cX6_whoCanGo 39 = .ok (.invokevirtual 80, 3) := by decide +kernel
theorem dX6_whoCanGo_42 : decode cX6_whoCanGo 42 = .ok (.ifCond .eq 33, 3) := by decide +kernel
theorem dX6_whoCanGo_45 : decode cX6_whoCanGo 45 = .ok (.iload_n 3, 1) := by decide +kernel
theorem dX6_whoCanGo_46 : decode cX6_whoCanGo 46 = .ok (.aload_n 0, 1) := by decide +kernel
theorem dX6_whoCanGo_47 : decode cX6_whoCanGo 47 = .ok (.getfield 9, 3) := by decide +kernel
theorem dX6_whoCanGo_50 : decode cX6_whoCanGo 50 = .ok (.iload 5, 2) := by decide +kernel
theorem dX6_whoCanGo_52 : decode cX6_whoCanGo 52 = .ok (.iaload, 1) := by decide +kernel
theorem dX6_whoCanGo_53 : decode cX6_whoCanGo 53 = .ok (.invokestatic 71, 3) := by decide +kernel
theorem dX6_whoCanGo_56 : decode cX6_whoCanGo 56 = .ok (.isub, 1) := by decide +kernel
theorem dX6_whoCanGo_57 : decode cX6_whoCanGo 57 = .ok (.aload_n 0, 1) := by decide +kernel
theorem dX6_whoCanGo_58 : decode cX6_whoCanGo 58 = .ok (.iload 5, 2) := by decide +kernel
theorem dX6_whoCanGo_60 : decode cX6_whoCanGo 60 = .ok (.invokevirtual 83, 3) := by decide +kernel
theorem dX6_whoCanGo_63 : decode cX6_whoCanGo 63 = .ok (.if_icmp .lt 12, 3) := by decide +kernel
theorem dX6_whoCanGo_66 : decode cX6_whoCanGo 66 = .ok (.iload 4, 2) := by decide +kernel
theorem dX6_whoCanGo_68 : decode cX6_whoCanGo 68 = .ok (.iconst 1, 1) := by decide +kernel
theorem dX6_whoCanGo_69 : decode cX6_whoCanGo 69 = .ok (.iload 5, 2) := by decide +kernel
theorem dX6_whoCanGo_71 : decode cX6_whoCanGo 71 = .ok (.ishl, 1) := by decide +kernel
theorem dX6_whoCanGo_72 : decode cX6_whoCanGo 72 = .ok (.ior, 1) := by decide +kernel
theorem dX6_whoCanGo_73 : decode cX6_whoCanGo 73 = .ok (.istore 4, 2) := by decide +kernel
theorem dX6_whoCanGo_75 : decode cX6_whoCanGo 75 = .ok (.iinc 5 1, 3) := by decide +kernel
theorem dX6_whoCanGo_78 : decode cX6_whoCanGo 78 = .ok (.goto (-59), 3) := by decide +kernel
theorem dX6_whoCanGo_81 : decode cX6_whoCanGo 81 = .ok (.iload 4, 2) := by decide +kernel
theorem dX6_whoCanGo_83 : decode cX6_whoCanGo 83 = .ok (.ireturn, 1) := by decide +kernel
theorem dX6_mostWhoRise_0 : decode cX6_mostWhoRise 0 = .ok (.aload_n 0, 1) := by decide +kernel
theorem dX6_mostWhoRise_1 : decode cX6_mostWhoRise 1 = .ok (.getfield 33, 3) := by decide +kernel
theorem dX6_mostWhoRise_4 : decode cX6_mostWhoRise 4 = .ok (.istore_n 1, 1) := by decide +kernel
theorem dX6_mostWhoRise_5 : decode cX6_mostWhoRise 5 = .ok (.iconst 0, 1) := by decide +kernel
theorem dX6_mostWhoRise_6 : decode cX6_mostWhoRise 6 = .ok (.istore_n 2, 1) := by decide +kernel
theorem dX6_mostWhoRise_7 : decode cX6_mostWhoRise 7 = .ok (.iload_n 2, 1) := by decide +kernel
theorem dX6_mostWhoRise_8 : decode cX6_mostWhoRise 8 = .ok (.bipush 8, 2) := by decide +kernel
theorem dX6_mostWhoRise_10 : decode cX6_mostWhoRise 10 = .ok (.if_icmp .ge 15, 3) := by decide +kernel
theorem dX6_mostWhoRise_13 : decode cX6_mostWhoRise 13 = .ok (.aload_n 0, 1) := by decide +kernel
theorem dX6_mostWhoRise_14 : decode cX6_mostWhoRise 14 = .ok (.iload_n 1, 1) := by decide +kernel
theorem dX6_mostWhoRise_15 : decode cX6_mostWhoRise 15 = .ok (.invokevirtual 86, 3) := by decide +kernel
theorem dX6_mostWhoRise_18 : decode cX6_mostWhoRise 18 = .ok (.istore_n 1, 1) := by decide +kernel
theorem dX6_mostWhoRise_19 : decode cX6_mostWhoRise 19 = .ok (.iinc 2 1, 3) := by decide +kernel
theorem dX6_mostWhoRise_22 : decode cX6_mostWhoRise 22 = .ok (.goto (-15), 3) := by decide +kernel
theorem dX6_mostWhoRise_25 : decode cX6_mostWhoRise 25 = .ok (.iload_n 1, 1) := by decide +kernel
theorem dX6_mostWhoRise_26 : decode cX6_mostWhoRise 26 = .ok (.ireturn, 1) := by decide +kernel
theorem dX6_whoCanGoAlone_0 : decode cX6_whoCanGoAlone 0 = .ok (.aload_n 0, 1) := by decide +kernel
theorem dX6_whoCanGoAlone_1 : decode cX6_whoCanGoAlone 1 = .ok (.invokevirtual 74, 3) := by decide +kernel
theorem dX6_whoCanGoAlone_4 : decode cX6_whoCanGoAlone 4 = .ok (.istore_n 1, 1) := by decide +kernel
theorem dX6_whoCanGoAlone_5 : decode cX6_whoCanGoAlone 5 = .ok (.aload_n 0, 1) := by decide +kernel
theorem dX6_whoCanGoAlone_6 : decode cX6_whoCanGoAlone 6 = .ok (.iload_n 1, 1) := by decide +kernel
theorem dX6_whoCanGoAlone_7 : decode cX6_whoCanGoAlone 7 = .ok (.invokevirtual 77, 3) := by decide +kernel
theorem dX6_whoCanGoAlone_10 : decode cX6_whoCanGoAlone 10 = .ok (.istore_n 2, 1) := by decide +kernel
theorem dX6_whoCanGoAlone_11 : decode cX6_whoCanGoAlone 11 = .ok (.iconst 0, 1) := by decide +kernel
theorem dX6_whoCanGoAlone_12 : decode cX6_whoCanGoAlone 12 = .ok (.istore_n 3, 1) := by decide +kernel
theorem dX6_whoCanGoAlone_13 : decode cX6_whoCanGoAlone 13 = .ok (.iconst 0, 1) := by decide +kernel
theorem dX6_whoCanGoAlone_14 : decode cX6_whoCanGoAlone 14 = .ok (.istore 4, 2) := by decide +kernel
theorem dX6_whoCanGoAlone_16 : decode cX6_whoCanGoAlone 16 = .ok (.iload 4, 2) := by decide +kernel
theorem dX6_whoCanGoAlone_18 : decode cX6_whoCanGoAlone 18 = .ok (.bipush 8, 2) := by decide +kernel
theorem dX6_whoCanGoAlone_20 : decode cX6_whoCanGoAlone 20 = .ok (.if_icmp .ge 45, 3) := by decide +kernel
theorem dX6_whoCanGoAlone_23 : decode cX6_whoCanGoAlone 23 = .ok (.aload_n 0, 1) := by decide +kernel
theorem dX6_whoCanGoAlone_24 : decode cX6_whoCanGoAlone 24 = .ok (.iload 4, 2) := by decide +kernel
theorem dX6_whoCanGoAlone_26 : decode cX6_whoCanGoAlone 26 = .ok (.invokevirtual 89, 3) := by decide +kernel
theorem dX6_whoCanGoAlone_29 : decode cX6_whoCanGoAlone 29 = .ok (.ifCond .eq 30, 3) := by decide +kernel
theorem dX6_whoCanGoAlone_32 : decode cX6_whoCanGoAlone 32 = .ok (.aload_n 0, 1) := by decide +kernel
theorem dX6_whoCanGoAlone_33 : decode cX6_whoCanGoAlone 33 = .ok (.iload 4, 2) := by decide +kernel
theorem dX6_whoCanGoAlone_35 : decode cX6_whoCanGoAlone 35 = .ok (.iload_n 1, 1) := by decide +kernel
theorem dX6_whoCanGoAlone_36 : decode cX6_whoCanGoAlone 36 = .ok (.invokevirtual 80, 3) := by decide +kernel
theorem dX6_whoCanGoAlone_39 : decode cX6_whoCanGoAlone 39 = .ok (.ifCond .eq 20, 3) := by decide +kernel
theorem dX6_whoCanGoAlone_42 : decode cX6_whoCanGoAlone 42 = .ok (.iload_n 2, 1) := by decide +kernel
theorem dX6_whoCanGoAlone_43 : decode cX6_whoCanGoAlone 43 = .ok (.aload_n 0, 1) := by decide +kernel
theorem dX6_whoCanGoAlone_44 : decode cX6_whoCanGoAlone 44 = .ok (.iload 4, 2) := by decide +kernel
theorem dX6_whoCanGoAlone_46 : decode cX6_whoCanGoAlone 46 = .ok (.invokevirtual 83, 3) := by decide +kernel
theorem dX6_whoCanGoAlone_49 : decode cX6_whoCanGoAlone 49 = .ok (.if_icmp .lt 10, 3) := by decide +kernel
theorem dX6_whoCanGoAlone_52 : decode cX6_whoCanGoAlone 52 = .ok (.iload_n 3, 1) := by decide +kernel
theorem dX6_whoCanGoAlone_53 : decode cX6_whoCanGoAlone 53 = .ok (.iconst 1, 1) := by decide +kernel
theorem dX6_whoCanGoAlone_54 : decode cX6_whoCanGoAlone 54 = .ok (.iload 4, 2) := by decide +kernel
theorem dX6_whoCanGoAlone_56 : decode cX6_whoCanGoAlone 56 = .ok (.ishl, 1) := by decide +kernel
theorem dX6_whoCanGoAlone_57 : decode cX6_whoCanGoAlone 57 = .ok (.ior, 1) := by decide +kernel
theorem dX6_whoCanGoAlone_58 : decode cX6_whoCanGoAlone 58 = .ok (.istore_n 3, 1) := by decide +kernel
theorem dX6_whoCanGoAlone_59 : decode cX6_whoCanGoAlone 59 = .ok (.iinc 4 1, 3) := by decide +kernel
theorem dX6_whoCanGoAlone_62 : decode cX6_whoCanGoAlone 62 = .ok (.goto (-46), 3) := by decide +kernel
theorem dX6_whoCanGoAlone_65 : decode cX6_whoCanGoAlone 65 = .ok (.iload_n 3, 1) := by decide +kernel
theorem dX6_whoCanGoAlone_66 : decode cX6_whoCanGoAlone 66 = .ok (.ireturn, 1) := by decide +kernel
theorem dX6_letHourPass_0 : decode cX6_letHourPass 0 = .ok (.aload_n 0, 1) := by decide +kernel
theorem dX6_letHourPass_1 : decode cX6_letHourPass 1 = .ok (.getfield 33, 3) := by decide +kernel
theorem dX6_letHourPass_4 : decode cX6_letHourPass 4 = .ok (.invokestatic 93, 3) := by decide +kernel
theorem dX6_letHourPass_7 : decode cX6_letHourPass 7 = .ok (.istore_n 1, 1) := by decide +kernel
theorem dX6_letHourPass_8 : decode cX6_letHourPass 8 = .ok (.aload_n 0, 1) := by decide +kernel
theorem dX6_letHourPass_9 : decode cX6_letHourPass 9 = .ok (.dup, 1) := by decide +kernel
theorem dX6_letHourPass_10 : decode cX6_letHourPass 10 = .ok (.getfield 43, 3) := by decide +kernel
theorem dX6_letHourPass_13 : decode cX6_letHourPass 13 = .ok (.iconst 1, 1) := by decide +kernel
theorem dX6_letHourPass_14 : decode cX6_letHourPass 14 = .ok (.iadd, 1) := by decide +kernel
theorem dX6_letHourPass_15 : decode cX6_letHourPass 15 = .ok (.putfield 43, 3) := by decide +kernel
theorem dX6_letHourPass_18 : decode cX6_letHourPass 18 = .ok (.aload_n 0, 1) := by decide +kernel
theorem dX6_letHourPass_19 : decode cX6_letHourPass 19 = .ok (.iconst 0, 1) := by decide +kernel
theorem dX6_letHourPass_20 : decode cX6_letHourPass 20 = .ok (.aload_n 0, 1) := by decide +kernel
theorem dX6_letHourPass_21 : decode cX6_letHourPass 21 = .ok (.getfield 40, 3) := by decide +kernel
theorem dX6_letHourPass_24 : decode cX6_letHourPass 24 = .ok (.iload_n 1, 1) := by decide +kernel
theorem dX6_letHourPass_25 : decode cX6_letHourPass 25 = .ok (.isub, 1) := by decide +kernel
theorem dX6_letHourPass_26 : decode cX6_letHourPass 26 = .ok (.invokestatic 98, 3) := by decide +kernel
theorem dX6_letHourPass_29 : decode cX6_letHourPass 29 = .ok (.putfield 40, 3) := by decide +kernel
theorem dX6_letHourPass_32 : decode cX6_letHourPass 32 = .ok (.aload_n 0, 1) := by decide +kernel
theorem dX6_letHourPass_33 : decode cX6_letHourPass 33 = .ok (.getfield 40, 3) := by decide +kernel
theorem dX6_letHourPass_36 : decode cX6_letHourPass 36 = .ok (.ifCond .ne 7, 3) := by decide +kernel
theorem dX6_letHourPass_39 : decode cX6_letHourPass 39 = .ok (.aload_n 0, 1) := by decide +kernel
theorem dX6_letHourPass_40 : decode cX6_letHourPass 40 = .ok (.invokevirtual 103, 3) := by decide +kernel
theorem dX6_letHourPass_43 : decode cX6_letHourPass 43 = .ok (.aload_n 0, 1) := by decide +kernel
theorem dX6_letHourPass_44 : decode cX6_letHourPass 44 = .ok (.invokevirtual 106, 3) := by decide +kernel
theorem dX6_letHourPass_47 : decode cX6_letHourPass 47 = .ok (.iload_n 1, 1) := by decide +kernel
theorem dX6_letHourPass_48 : decode cX6_letHourPass 48 = .ok (.aload_n 0, 1) := by decide +kernel
theorem dX6_letHourPass_49 : decode cX6_letHourPass 49 = .ok (.getfield 33, 3) := by decide +kernel
theorem dX6_letHourPass_52 : decode cX6_letHourPass 52 = .ok (.invokestatic 93, 3) := by decide +kernel
theorem dX6_letHourPass_55 : decode cX6_letHourPass 55 = .ok (.isub, 1) := by decide +kernel
theorem dX6_letHourPass_56 : decode cX6_letHourPass 56 = .ok (.ireturn, 1) := by decide +kernel
theorem dX6_makeLessShy_0 : decode cX6_makeLessShy 0 = .ok (.aload_n 0, 1) := by decide +kernel
theorem dX6_makeLessShy_1 : decode cX6_makeLessShy 1 = .ok (.getfield 15, 3) := by decide +kernel
theorem dX6_makeLessShy_4 : decode cX6_makeLessShy 4 = .ok (.iload_n 1, 1) := by decide +kernel
theorem dX6_makeLessShy_5 : decode cX6_makeLessShy 5 = .ok (.iconst 0, 1) := by decide +kernel
theorem dX6_makeLessShy_6 : decode cX6_makeLessShy 6 = .ok (.aload_n 0, 1) := by decide +kernel
theorem dX6_makeLessShy_7 : decode cX6_makeLessShy 7 = .ok (.getfield 15, 3) := by decide +kernel
theorem dX6_makeLessShy_10 : decode cX6_makeLessShy 10 = .ok (.iload_n 1, 1) := by decide +kernel
theorem dX6_makeLessShy_11 : decode cX6_makeLessShy 11 = .ok (.iaload, 1) := by decide +kernel
theorem dX6_makeLessShy_12 : decode cX6_makeLessShy 12 = .ok (.iconst 1, 1) := by decide +kernel
theorem dX6_makeLessShy_13 : decode cX6_makeLessShy 13 = .ok (.isub, 1) := by decide +kernel
theorem dX6_makeLessShy_14 : decode cX6_makeLessShy 14 = .ok (.invokestatic 98, 3) := by decide +kernel
theorem dX6_makeLessShy_17 : decode cX6_makeLessShy 17 = .ok (.iastore, 1) := by decide +kernel
theorem dX6_makeLessShy_18 : decode cX6_makeLessShy 18 = .ok (.return_, 1) := by decide +kernel
theorem dX6_makeAllLessShy_0 : decode cX6_makeAllLessShy 0 = .ok (.iconst 0, 1) := by decide +kernel
theorem dX6_makeAllLessShy_1 : decode cX6_makeAllLessShy 1 = .ok (.istore_n 1, 1) := by decide +kernel
theorem dX6_makeAllLessShy_2 : decode cX6_makeAllLessShy 2 = .ok (.iload_n 1, 1) := by decide +kernel
theorem dX6_makeAllLessShy_3 : decode cX6_makeAllLessShy 3 = .ok (.bipush 8, 2) := by decide +kernel
theorem dX6_makeAllLessShy_5 : decode cX6_makeAllLessShy 5 = .ok (.if_icmp .ge 22, 3) := by decide +kernel
theorem dX6_makeAllLessShy_8 : decode cX6_makeAllLessShy 8 = .ok (.aload_n 0, 1) := by decide +kernel
theorem dX6_makeAllLessShy_9 : decode cX6_makeAllLessShy 9 = .ok (.iload_n 1, 1) := by decide +kernel
theorem dX6_makeAllLessShy_10 : decode cX6_makeAllLessShy 10 = .ok (.invokevirtual 89, 3) := by decide +kernel
theorem dX6_makeAllLessShy_13 : decode cX6_makeAllLessShy 13 = .ok (.ifCond .eq 8, 3) := by decide +kernel
theorem dX6_makeAllLessShy_16 : decode cX6_makeAllLessShy 16 = .ok (.aload_n 0, 1) := by decide +kernel
theorem dX6_makeAllLessShy_17 : decode cX6_makeAllLessShy 17 = .ok (.iload_n 1, 1) := by decide +kernel
theorem dX6_makeAllLessShy_18 : decode cX6_makeAllLessShy 18 = .ok (.invokevirtual 109, 3) := by decide +kernel
theorem dX6_makeAllLessShy_21 : decode cX6_makeAllLessShy 21 = .ok (.iinc 1 1, 3) := by decide +kernel
theorem dX6_makeAllLessShy_24 : decode cX6_makeAllLessShy 24 = .ok (.goto (-22), 3) := by decide +kernel
theorem dX6_makeAllLessShy_27 : decode cX6_makeAllLessShy 27 = .ok (.return_, 1) := by decide +kernel
theorem dX6_goOneByOne_0 : decode cX6_goOneByOne 0 = .ok (.aload_n 0, 1) := by decide +kernel
theorem dX6_goOneByOne_1 : decode cX6_goOneByOne 1 = .ok (.invokevirtual 113, 3) := by decide +kernel
theorem dX6_goOneByOne_4 : decode cX6_goOneByOne 4 = .ok (.istore_n 1, 1) := by decide +kernel
theorem dX6_goOneByOne_5 : decode cX6_goOneByOne 5 = .ok (.iconst 0, 1) := by decide +kernel
theorem dX6_goOneByOne_6 : decode cX6_goOneByOne 6 = .ok (.istore_n 2, 1) := by decide +kernel
theorem dX6_goOneByOne_7 : decode cX6_goOneByOne 7 = .ok (.iload_n 2, 1) := by decide +kernel
theorem dX6_goOneByOne_8 : decode cX6_goOneByOne 8 = .ok (.bipush 8, 2) := by decide +kernel
theorem dX6_goOneByOne_10 : decode cX6_goOneByOne 10 = .ok (.if_icmp .ge 35, 3) := by decide +kernel
theorem dX6_goOneByOne_13 : decode cX6_goOneByOne 13 = .ok (.iload_n 1, 1) := by decide +kernel
theorem dX6_goOneByOne_14 : decode cX6_goOneByOne 14 = .ok (.ifCond .eq 31, 3) := by decide +kernel
theorem dX6_goOneByOne_17 : decode cX6_goOneByOne 17 = .ok (.iload_n 1, 1) := by decide +kernel
theorem dX6_goOneByOne_18 : decode cX6_goOneByOne 18 = .ok (.iload_n 1, 1) := by decide +kernel
theorem dX6_goOneByOne_19 : decode cX6_goOneByOne 19 = .ok (.ineg, 1) := by decide +kernel
theorem dX6_goOneByOne_20 : decode cX6_goOneByOne 20 = .ok (.iand, 1) := by decide +kernel
theorem dX6_goOneByOne_21 : decode cX6_goOneByOne 21 = .ok (.istore_n 3, 1) := by decide +kernel
theorem dX6_goOneByOne_22 : decode cX6_goOneByOne 22 = .ok (.aload_n 0, 1) := by decide +kernel
theorem dX6_goOneByOne_23 : decode cX6_goOneByOne 23 = .ok (.dup, 1) := by decide +kernel
theorem dX6_goOneByOne_24 : decode cX6_goOneByOne 24 = .ok (.getfield 33, 3) := by decide +kernel
theorem dX6_goOneByOne_27 : decode cX6_goOneByOne 27 = .ok (.iload_n 3, 1) := by decide +kernel
theorem dX6_goOneByOne_28 : decode cX6_goOneByOne 28 = .ok (.iconst (-1), 1) := by decide +kernel
theorem dX6_goOneByOne_29 : decode cX6_goOneByOne 29 = .ok (.ixor, 1) := by decide +kernel
theorem dX6_goOneByOne_30 : decode cX6_goOneByOne 30 = .ok (.iand, 1) := by decide +kernel
theorem dX6_goOneByOne_31 : decode cX6_goOneByOne 31 = .ok (.putfield 33, 3) := by decide +kernel
theorem dX6_goOneByOne_34 : decode cX6_goOneByOne 34 = .ok (.aload_n 0, 1) := by decide +kernel
theorem dX6_goOneByOne_35 : decode cX6_goOneByOne 35 = .ok (.invokevirtual 113, 3) := by decide +kernel
theorem dX6_goOneByOne_38 : decode cX6_goOneByOne 38 = .ok (.istore_n 1, 1) := by decide +kernel
theorem dX6_goOneByOne_39 : decode cX6_goOneByOne 39 = .ok (.iinc 2 1, 3) := by decide +kernel
theorem dX6_goOneByOne_42 : decode cX6_goOneByOne 42 = .ok (.goto (-35), 3) := by decide +kernel
theorem dX6_goOneByOne_45 : decode cX6_goOneByOne 45 = .ok (.return_, 1) := by decide +kernel
theorem dX7_init_0 : decode cX7_init 0 = .ok (.aload_n 0, 1) := by decide +kernel
theorem dX7_init_1 : decode cX7_init 1 = .ok (.invokespecial 3, 3) := by decide +kernel
theorem dX7_init_4 : decode cX7_init 4 = .ok (.aload_n 0, 1) := by decide +kernel
theorem dX7_init_5 : decode cX7_init 5 = .ok (.bipush 6, 2) := by decide +kernel
theorem dX7_init_7 : decode cX7_init 7 = .ok (.newarray .int, 2) := by decide +kernel
theorem dX7_init_9 : decode cX7_init 9 = .ok (.putfield 9, 3) := by decide +kernel
theorem dX7_init_12 : decode cX7_init 12 = .ok (.aload_n 0, 1) := by decide +kernel
theorem dX7_init_13 : decode cX7_init 13 = .ok (.bipush 6, 2) := by decide +kernel
theorem dX7_init_15 : decode cX7_init 15 = .ok (.newarray .int, 2) := by decide +kernel
theorem dX7_init_17 : decode cX7_init 17 = .ok (.putfield 15, 3) := by decide +kernel
theorem dX7_init_20 : decode cX7_init 20 = .ok (.aload_n 0, 1) := by decide +kernel
theorem dX7_init_21 : decode cX7_init 21 = .ok (.bipush 6, 2) := by decide +kernel
theorem dX7_init_23 : decode cX7_init 23 = .ok (.newarray .boolean, 2) := by decide +kernel
theorem dX7_init_25 : decode cX7_init 25 = .ok (.putfield 18, 3) := by decide +kernel
theorem dX7_init_28 : decode cX7_init 28 = .ok (.return_, 1) := by decide +kernel
theorem dX7_add_0 : decode cX7_add 0 = .ok (.aload_n 0, 1) := by decide +kernel
theorem dX7_add_1 : decode cX7_add 1 = .ok (.getfield 22, 3) := by decide +kernel
theorem dX7_add_4 : decode cX7_add 4 = .ok (.bipush 6, 2) := by decide +kernel
theorem dX7_add_6 : decode cX7_add 6 = .ok (.if_icmp .ge 43, 3) := by decide +kernel
theorem dX7_add_9 : decode cX7_add 9 = .ok (.aload_n 0, 1) := by decide +kernel
theorem dX7_add_10 : decode cX7_add 10 = .ok (.getfield 9, 3) := by decide +kernel
theorem dX7_add_13 : decode cX7_add 13 = .ok (.aload_n 0, 1) := by decide +kernel
theorem dX7_add_14 : decode cX7_add 14 = .ok (.getfield 22, 3) := by decide +kernel
theorem dX7_add_17 : decode cX7_add 17 = .ok (.iload_n 1, 1) := by decide +kernel
theorem dX7_add_18 : decode cX7_add 18 = .ok (.iastore, 1) := by decide +kernel
theorem dX7_add_19 : decode cX7_add 19 = .ok (.aload_n 0, 1) := by decide +kernel
theorem dX7_add_20 : decode cX7_add 20 = .ok (.getfield 15, 3) := by decide +kernel
theorem dX7_add_23 : decode cX7_add 23 = .ok (.aload_n 0, 1) := by decide +kernel
theorem dX7_add_24 : decode cX7_add 24 = .ok (.getfield 22, 3) := by decide +kernel
theorem dX7_add_27 : decode cX7_add 27 = .ok (.iload_n 2, 1) := by decide +kernel
theorem dX7_add_28 : decode cX7_add 28 = .ok (.iastore, 1) := by decide +kernel
theorem dX7_add_29 : decode cX7_add 29 = .ok (.aload_n 0, 1) := by decide +kernel
theorem dX7_add_30 : decode cX7_add 30 = .ok (.getfield 18, 3) := by decide +kernel
theorem dX7_add_33 : decode cX7_add 33 = .ok (.aload_n 0, 1) := by decide +kernel
theorem dX7_add_34 : decode cX7_add 34 = .ok (.getfield 22, 3) := by decide +kernel
theorem dX7_add_37 : decode cX7_add 37 = .ok (.iload_n 3, 1) := by decide +kernel
theorem dX7_add_38 : decode cX7_add 38 = .ok (.bastore, 1) := by decide +kernel
theorem dX7_add_39 : decode cX7_add 39 = .ok (.aload_n 0, 1) := by decide +kernel
theorem dX7_add_40 : decode cX7_add 40 = .ok (.dup, 1) := by decide +kernel
theorem dX7_add_41 : decode cX7_add 41 = .ok (.getfield 22, 3) := by decide +kernel
theorem dX7_add_44 : decode cX7_add 44 = .ok (.iconst 1, 1) := by decide +kernel
theorem dX7_add_45 : decode cX7_add 45 = .ok (.iadd, 1) := by decide +kernel
theorem dX7_add_46 : decode cX7_add 46 = .ok (.putfield 22, 3) := by decide +kernel
theorem dX7_add_49 : decode cX7_add 49 = .ok (.aload_n 0, 1) := by decide +kernel
theorem dX7_add_50 : decode cX7_add 50 = .ok (.getfield 22, 3) := by decide +kernel
theorem dX7_add_53 : decode cX7_add 53 = .ok (.ireturn, 1) := by decide +kernel
theorem dX7_clear_0 : decode cX7_clear 0 = .ok (.aload_n 0, 1) := by decide +kernel
theorem dX7_clear_1 : decode cX7_clear 1 = .ok (.getfield 22, 3) := by decide +kernel
theorem dX7_clear_4 : decode cX7_clear 4 = .ok (.istore_n 1, 1) := by decide +kernel
theorem dX7_clear_5 : decode cX7_clear 5 = .ok (.aload_n 0, 1) := by decide +kernel
theorem dX7_clear_6 : decode cX7_clear 6 = .ok (.iconst 0, 1) := by decide +kernel
theorem dX7_clear_7 : decode cX7_clear 7 = .ok (.putfield 22, 3) := by decide +kernel
theorem dX7_clear_10 : decode cX7_clear 10 = .ok (.iload_n 1, 1) := by decide +kernel
theorem dX7_clear_11 : decode cX7_clear 11 = .ok (.ireturn, 1) := by decide +kernel
theorem dX7_copyFrom_0 : decode cX7_copyFrom 0 = .ok (.aload_n 0, 1) := by decide +kernel
theorem dX7_copyFrom_1 : decode cX7_copyFrom 1 = .ok (.aload_n 1, 1) := by decide +kernel
theorem dX7_copyFrom_2 : decode cX7_copyFrom 2 = .ok (.getfield 22, 3) := by decide +kernel
theorem dX7_copyFrom_5 : decode cX7_copyFrom 5 = .ok (.putfield 22, 3) := by decide +kernel
theorem dX7_copyFrom_8 : decode cX7_copyFrom 8 = .ok (.iconst 0, 1) := by decide +kernel
theorem dX7_copyFrom_9 : decode cX7_copyFrom 9 = .ok (.istore_n 2, 1) := by decide +kernel
theorem dX7_copyFrom_10 : decode cX7_copyFrom 10 = .ok (.iload_n 2, 1) := by decide +kernel
theorem dX7_copyFrom_11 : decode cX7_copyFrom 11 = .ok (.bipush 6, 2) := by decide +kernel
theorem dX7_copyFrom_13 : decode cX7_copyFrom 13 = .ok (.if_icmp .ge 45, 3) := by decide +kernel
theorem dX7_copyFrom_16 : decode cX7_copyFrom 16 = .ok (.aload_n 0, 1) := by decide +kernel
theorem dX7_copyFrom_17 : decode cX7_copyFrom 17 = .ok (.getfield 9, 3) := by decide +kernel
theorem dX7_copyFrom_20 : decode cX7_copyFrom 20 = .ok (.iload_n 2, 1) := by decide +kernel
theorem dX7_copyFrom_21 : decode cX7_copyFrom 21 = .ok (.aload_n 1, 1) := by decide +kernel
theorem dX7_copyFrom_22 : decode cX7_copyFrom 22 = .ok (.getfield 9, 3) := by decide +kernel
theorem dX7_copyFrom_25 : decode cX7_copyFrom 25 = .ok (.iload_n 2, 1) := by decide +kernel
theorem dX7_copyFrom_26 : decode cX7_copyFrom 26 = .ok (.iaload, 1) := by decide +kernel
theorem dX7_copyFrom_27 : decode cX7_copyFrom 27 = .ok (.iastore, 1) := by decide +kernel
theorem dX7_copyFrom_28 : decode cX7_copyFrom 28 = .ok (.aload_n 0, 1) := by decide +kernel
theorem dX7_copyFrom_29 : decode cX7_copyFrom 29 = .ok (.getfield 15, 3) := by decide +kernel
theorem dX7_copyFrom_32 : decode cX7_copyFrom 32 = .ok (.iload_n 2, 1) := by decide +kernel
theorem dX7_copyFrom_33 : decode cX7_copyFrom 33 = .ok (.aload_n 1, 1) := by decide +kernel
theorem dX7_copyFrom_34 : decode cX7_copyFrom 34 = .ok (.getfield 15, 3) := by decide +kernel
theorem dX7_copyFrom_37 : decode cX7_copyFrom 37 = .ok (.iload_n 2, 1) := by decide +kernel
theorem dX7_copyFrom_38 : decode cX7_copyFrom 38 = .ok (.iaload, 1) := by decide +kernel
theorem dX7_copyFrom_39 : decode cX7_copyFrom 39 = .ok (.iastore, 1) := by decide +kernel
theorem dX7_copyFrom_40 : decode cX7_copyFrom 40 = .ok (.aload_n 0, 1) := by decide +kernel
theorem dX7_copyFrom_41 : decode cX7_copyFrom 41 = .ok (.getfield 18, 3) := by decide +kernel
theorem dX7_copyFrom_44 : decode cX7_copyFrom 44 = .ok (.iload_n 2, 1) := by decide +kernel
theorem dX7_copyFrom_45 : decode cX7_copyFrom 45 = .ok (.aload_n 1, 1) := by decide +kernel
theorem dX7_copyFrom_46 : decode cX7_copyFrom 46 = .ok (.getfield 18, 3) := by decide +kernel
theorem dX7_copyFrom_49 : decode cX7_copyFrom 49 = .ok (.iload_n 2, 1) := by decide +kernel
theorem dX7_copyFrom_50 : decode cX7_copyFrom 50 = .ok (.baload, 1) := by decide +kernel
theorem dX7_copyFrom_51 : decode cX7_copyFrom 51 = .ok (.bastore, 1) := by decide +kernel
theorem dX7_copyFrom_52 : decode cX7_copyFrom 52 = .ok (.iinc 2 1, 3) := by decide +kernel
theorem dX7_copyFrom_55 : decode cX7_copyFrom 55 = .ok (.goto (-45), 3) := by decide +kernel
theorem dX7_copyFrom_58 : decode cX7_copyFrom 58 = .ok (.return_, 1) := by decide +kernel
theorem dX7_shynessOf_0 : decode cX7_shynessOf 0 = .ok (.sipush 1023, 3) := by decide +kernel
theorem dX7_shynessOf_3 : decode cX7_shynessOf 3 = .ok (.istore_n 3, 1) := by decide +kernel
theorem dX7_shynessOf_4 : decode cX7_shynessOf 4 = .ok (.iconst 0, 1) := by decide +kernel
theorem dX7_shynessOf_5 : decode cX7_shynessOf 5 = .ok (.istore 4, 2) := by decide +kernel
theorem dX7_shynessOf_7 : decode cX7_shynessOf 7 = .ok (.iload 4, 2) := by decide +kernel
theorem dX7_shynessOf_9 : decode cX7_shynessOf 9 = .ok (.aload_n 0, 1) := by decide +kernel
theorem dX7_shynessOf_10 : decode cX7_shynessOf 10 = .ok (.getfield 22, 3) := by decide +kernel
theorem dX7_shynessOf_13 : decode cX7_shynessOf 13 = .ok (.if_icmp .ge 62, 3) := by decide +kernel
theorem dX7_shynessOf_16 : decode cX7_shynessOf 16 = .ok (.iload 4, 2) := by decide +kernel
theorem dX7_shynessOf_18 : decode cX7_shynessOf 18 = .ok (.bipush 6, 2) := by decide +kernel
theorem dX7_shynessOf_20 : decode cX7_shynessOf 20 = .ok (.if_icmp .ge 55, 3) := by decide +kernel
theorem dX7_shynessOf_23 : decode cX7_shynessOf 23 = .ok (.aload_n 0, 1) := by decide +kernel
theorem dX7_shynessOf_24 : decode cX7_shynessOf 24 = .ok (.getfield 9, 3) := by decide +kernel
theorem dX7_shynessOf_27 : decode cX7_shynessOf 27 = .ok (.iload 4, 2) := by decide +kernel
theorem dX7_shynessOf_29 : decode cX7_shynessOf 29 = .ok (.iaload, 1) := by decide +kernel
theorem dX7_shynessOf_30 : decode cX7_shynessOf 30 = .ok (.iload_n 1, 1) := by decide +kernel
theorem dX7_shynessOf_31 : decode cX7_shynessOf 31 = .ok (.if_icmp .ne 38, 3) := by decide +kernel
theorem dX7_shynessOf_34 : decode cX7_shynessOf 34 = .ok (.iload_n 2, 1) := by decide +kernel
theorem dX7_shynessOf_35 : decode cX7_shynessOf 35 = .ok (.aload_n 0, 1) := by decide +kernel
theorem dX7_shynessOf_36 : decode cX7_shynessOf 36 = .ok (.getfield 15, 3) := by decide +kernel
theorem dX7_shynessOf_39 : decode cX7_shynessOf 39 = .ok (.iload 4, 2) := by decide +kernel
theorem dX7_shynessOf_41 : decode cX7_shynessOf 41 = .ok (.iaload, 1) := by decide +kernel
theorem dX7_shynessOf_42 : decode cX7_shynessOf 42 = .ok (.invokestatic 26, 3) := by decide +kernel
theorem dX7_shynessOf_45 : decode cX7_shynessOf 45 = .ok (.istore 5, 2) := by decide +kernel
theorem dX7_shynessOf_47 : decode cX7_shynessOf 47 = .ok (.iload_n 3, 1) := by decide +kernel
theorem dX7_shynessOf_48 : decode cX7_shynessOf 48 = .ok (.aload_n 0, 1) := by decide +kernel
theorem dX7_shynessOf_49 : decode cX7_shynessOf 49 = .ok (.getfield 18, 3) := by decide +kernel
theorem dX7_shynessOf_52 : decode cX7_shynessOf 52 = .ok (.iload 4, 2) := by decide +kernel
theorem dX7_shynessOf_54 : decode cX7_shynessOf 54 = .ok (.baload, 1) := by decide +kernel
theorem dX7_shynessOf_55 : decode cX7_shynessOf 55 = .ok (.ifCond .eq 8, 3) := by decide +kernel
theorem dX7_shynessOf_58 : decode cX7_shynessOf 58 = .ok (.iload 5, 2) := by decide +kernel
theorem dX7_shynessOf_60 : decode cX7_shynessOf 60 = .ok (.goto 7, 3) := by decide +kernel
theorem dX7_shynessOf_63 : decode cX7_shynessOf 63 = .ok (.iload 5, 2) := by decide +kernel
theorem dX7_shynessOf_65 : decode cX7_shynessOf 65 = .ok (.iconst (-1), 1) := by decide +kernel
theorem dX7_shynessOf_66 : decode cX7_shynessOf 66 = .ok (.ixor, 1) := by decide +kernel
theorem dX7_shynessOf_67 : decode cX7_shynessOf 67 = .ok (.iand, 1) := by decide +kernel
theorem dX7_shynessOf_68 : decode cX7_shynessOf 68 = .ok (.istore_n 3, 1) := by decide +kernel
theorem dX7_shynessOf_69 : decode cX7_shynessOf 69 = .ok (.iinc 4 1, 3) := by decide +kernel
theorem dX7_shynessOf_72 : decode cX7_shynessOf 72 = .ok (.goto (-65), 3) := by decide +kernel
theorem dX7_shynessOf_75 : decode cX7_shynessOf 75 = .ok (.iload_n 3, 1) := by decide +kernel
theorem dX7_shynessOf_76 : decode cX7_shynessOf 76 = .ok (.ireturn, 1) := by decide +kernel
theorem dX7_whatToAsk_0 : decode cX7_whatToAsk 0 = .ok (.iload_n 1, 1) := by decide +kernel
theorem dX7_whatToAsk_1 : decode cX7_whatToAsk 1 = .ok (.ifCond .ne 5, 3) := by decide +kernel
theorem dX7_whatToAsk_4 : decode cX7_whatToAsk 4 = .ok (.iconst (-1), 1) := by decide +kernel
theorem dX7_whatToAsk_5 : decode cX7_whatToAsk 5 = .ok (.ireturn, 1) := by decide +kernel
theorem dX7_whatToAsk_6 : decode cX7_whatToAsk 6 = .ok (.iconst (-1), 1) := by decide +kernel
theorem dX7_whatToAsk_7 : decode cX7_whatToAsk 7 = .ok (.istore_n 2, 1) := by decide +kernel
theorem dX7_whatToAsk_8 : decode cX7_whatToAsk 8 = .ok (.bipush 11, 2) := by decide +kernel
theorem dX7_whatToAsk_10 : decode cX7_whatToAsk 10 = .ok (.istore_n 3, 1) := by decide +kernel
theorem dX7_whatToAsk_11 : decode cX7_whatToAsk 11 = .ok (.iconst 0, 1) := by decide +kernel
theorem dX7_whatToAsk_12 : decode cX7_whatToAsk 12 = .ok (.istore 4, 2) := by decide +kernel
theorem dX7_whatToAsk_14 : decode cX7_whatToAsk 14 = .ok (.iload 4, 2) := by decide +kernel
theorem dX7_whatToAsk_16 : decode cX7_whatToAsk 16 = .ok (.bipush 16, 2) := by decide +kernel
theorem dX7_whatToAsk_18 : decode cX7_whatToAsk 18 = .ok (.if_icmp .gt 50, 3) := by decide +kernel
theorem dX7_whatToAsk_21 : decode cX7_whatToAsk 21 = .ok (.iload_n 1, 1) := by decide +kernel
theorem dX7_whatToAsk_22 : decode cX7_whatToAsk 22 = .ok (.iload_n 0, 1) := by decide +kernel
theorem dX7_whatToAsk_23 : decode cX7_whatToAsk 23 = .ok (.iload 4, 2) := by decide +kernel
theorem dX7_whatToAsk_25 : decode cX7_whatToAsk 25 = .ok (.invokestatic 26, 3) := by decide +kernel
theorem dX7_whatToAsk_28 : decode cX7_whatToAsk 28 = .ok (.iand, 1) := by decide +kernel
theorem dX7_whatToAsk_29 : decode cX7_whatToAsk 29 = .ok (.istore 5, 2) := by decide +kernel
theorem dX7_whatToAsk_31 : decode cX7_whatToAsk 31 = .ok (.iload 5, 2) := by decide +kernel
theorem dX7_whatToAsk_33 : decode cX7_whatToAsk 33 = .ok (.invokestatic 30, 3) := by decide +kernel
theorem dX7_whatToAsk_36 : decode cX7_whatToAsk 36 = .ok (.iload_n 1, 1) := by decide +kernel
theorem dX7_whatToAsk_37 : decode cX7_whatToAsk 37 = .ok (.iload 5, 2) := by decide +kernel
theorem dX7_whatToAsk_39 : decode cX7_whatToAsk 39 = .ok (.iconst (-1), 1) := by decide +kernel
theorem dX7_whatToAsk_40 : decode cX7_whatToAsk 40 = .ok (.ixor, 1) := by decide +kernel
theorem dX7_whatToAsk_41 : decode cX7_whatToAsk 41 = .ok (.iand, 1) := by decide +kernel
theorem dX7_whatToAsk_42 : decode cX7_whatToAsk 42 = .ok (.invokestatic 30, 3) := by decide +kernel
theorem dX7_whatToAsk_45 : decode cX7_whatToAsk 45 = .ok (.invokestatic 36, 3) := by decide +kernel
theorem dX7_whatToAsk_48 : decode cX7_whatToAsk 48 = .ok (.istore 6, 2) := by decide +kernel
theorem dX7_whatToAsk_50 : decode cX7_whatToAsk 50 = .ok (.iload 6, 2) := by decide +kernel
theorem dX7_whatToAsk_52 : decode cX7_whatToAsk 52 = .ok (.iload_n 3, 1) := by decide +kernel
theorem dX7_whatToAsk_53 : decode cX7_whatToAsk 53 = .ok (.if_icmp .ge 9, 3) := by decide +kernel
theorem dX7_whatToAsk_56 : decode cX7_whatToAsk 56 = .ok (.iload 4, 2) := by decide +kernel
theorem dX7_whatToAsk_58 : decode cX7_whatToAsk 58 = .ok (.istore_n 2, 1) := by decide +kernel
theorem dX7_whatToAsk_59 : decode cX7_whatToAsk 59 = .ok (.iload 6, 2) := by decide +kernel
theorem dX7_whatToAsk_61 : decode cX7_whatToAsk 61 = .ok (.istore_n 3, 1) := by decide +kernel
theorem dX7_whatToAsk_62 : decode cX7_whatToAsk 62 = .ok (.iinc 4 1, 3) := by decide +kernel
theorem dX7_whatToAsk_65 : decode cX7_whatToAsk 65 = .ok (.goto (-51), 3) := by decide +kernel
theorem dX7_whatToAsk_68 : decode cX7_whatToAsk 68 = .ok (.iload_n 2, 1) := by decide +kernel
theorem dX7_whatToAsk_69 : decode cX7_whatToAsk 69 = .ok (.ireturn, 1) := by decide +kernel
theorem dX7_shynessThatGoes_0 : decode cX7_shynessThatGoes 0 = .ok (.iconst 0, 1) := by decide +kernel
theorem dX7_shynessThatGoes_1 : decode cX7_shynessThatGoes 1 = .ok (.istore_n 2, 1) := by decide +kernel
theorem dX7_shynessThatGoes_2 : decode cX7_shynessThatGoes 2 = .ok (.iconst 0, 1) := by decide +kernel
theorem dX7_shynessThatGoes_3 : decode cX7_shynessThatGoes 3 = .ok (.istore_n 3, 1) := by decide +kernel
theorem dX7_shynessThatGoes_4 : decode cX7_shynessThatGoes 4 = .ok (.iload_n 3, 1) := by decide +kernel
theorem dX7_shynessThatGoes_5 : decode cX7_shynessThatGoes 5 = .ok (.bipush 9, 2) := by decide +kernel
theorem dX7_shynessThatGoes_7 : decode cX7_shynessThatGoes 7 = .ok (.if_icmp .gt 24, 3) := by decide +kernel
theorem dX7_shynessThatGoes_10 : decode cX7_shynessThatGoes 10 = .ok (.iload_n 0, 1) := by decide +kernel
theorem dX7_shynessThatGoes_11 : decode cX7_shynessThatGoes 11 = .ok (.iload_n 3, 1) := by decide +kernel
theorem dX7_shynessThatGoes_12 : decode cX7_shynessThatGoes 12 = .ok (.invokestatic 41, 3) := by decide +kernel
theorem dX7_shynessThatGoes_15 : decode cX7_shynessThatGoes 15 = .ok (.iload_n 1, 1) := by decide +kernel
theorem dX7_shynessThatGoes_16 : decode cX7_shynessThatGoes 16 = .ok (.if_icmp .gt 9, 3) := by decide +kernel
theorem dX7_shynessThatGoes_19 : decode cX7_shynessThatGoes 19 = .ok (.iload_n 2, 1) := by decide +kernel
theorem dX7_shynessThatGoes_20 : decode cX7_shynessThatGoes 20 = .ok (.iconst 1, 1) := by decide +kernel
theorem dX7_shynessThatGoes_21 : decode cX7_shynessThatGoes 21 = .ok (.iload_n 3, 1) := by decide +kernel
theorem dX7_shynessThatGoes_22 : decode cX7_shynessThatGoes 22 = .ok (.ishl, 1) := by decide +kernel
theorem dX7_shynessThatGoes_23 : decode cX7_shynessThatGoes 23 = .ok (.ior, 1) := by decide +kernel
theorem dX7_shynessThatGoes_24 : decode cX7_shynessThatGoes 24 = .ok (.istore_n 2, 1) := by decide +kernel
theorem dX7_shynessThatGoes_25 : decode cX7_shynessThatGoes 25 = .ok (.iinc 3 1, 3) := by decide +kernel
theorem dX7_shynessThatGoes_28 : decode cX7_shynessThatGoes 28 = .ok (.goto (-24), 3) := by decide +kernel
theorem dX7_shynessThatGoes_31 : decode cX7_shynessThatGoes 31 = .ok (.iload_n 2, 1) := by decide +kernel
theorem dX7_shynessThatGoes_32 : decode cX7_shynessThatGoes 32 = .ok (.ireturn, 1) := by decide +kernel
end
section
theorem dX8_init_0 : decode cX8_init 0 = .ok (.aload_n 0, 1) := by decide +kernel
theorem dX8_init_1 : decode cX8_init 1 = .ok (.invokespecial 1, 3) := by decide +kernel
theorem dX8_init_4 : decode cX8_init 4 = .ok (.aload_n 0, 1) := by decide +kernel
theorem dX8_init_5 : decode cX8_init 5 = .ok (.new 7, 3) := by decide +kernel
theorem dX8_init_8 : decode cX8_init 8 = .ok (.dup, 1) := by decide +kernel
theorem dX8_init_9 : decode cX8_init 9 = .ok (.invokespecial 9, 3) := by decide +kernel
theorem dX8_init_12 : decode cX8_init 12 = .ok (.putfield 10, 3) := by decide +kernel
theorem dX8_init_15 : decode cX8_init 15 = .ok (.aload_n 0, 1) := by decide +kernel
theorem dX8_init_16 : decode cX8_init 16 = .ok (.new 16, 3) := by decide +kernel
theorem dX8_init_19 : decode cX8_init 19 = .ok (.dup, 1) := by decide +kernel
theorem dX8_init_20 : decode cX8_init 20 = .ok (.invokespecial 18, 3) := by decide +kernel
theorem dX8_init_23 : decode cX8_init 23 = .ok (.putfield 19, 3) := by decide +kernel
theorem dX8_init_26 : decode cX8_init 26 = .ok (.aload_n 0, 1) := by decide +kernel
theorem dX8_init_27 : decode cX8_init 27 = .ok (.new 23, 3) := by decide +kernel
theorem dX8_init_30 : decode cX8_init 30 = .ok (.dup, 1) := by decide +kernel
theorem dX8_init_31 : decode cX8_init 31 = .ok (.invokespecial 25, 3) := by decide +kernel
theorem dX8_init_34 : decode cX8_init 34 = .ok (.putfield 26, 3) := by decide +kernel
theorem dX8_init_37 : decode cX8_init 37 = .ok (.aload_n 0, 1) := by decide +kernel
theorem dX8_init_38 : decode cX8_init 38 = .ok (.new 16, 3) := by decide +kernel
theorem dX8_init_41 : decode cX8_init 41 = .ok (.dup, 1) := by decide +kernel
theorem dX8_init_42 : decode cX8_init 42 = .ok (.invokespecial 18, 3) := by decide +kernel
theorem dX8_init_45 : decode cX8_init 45 = .ok (.putfield 30, 3) := by decide +kernel
theorem dX8_init_48 : decode cX8_init 48 = .ok (.aload_n 0, 1) := by decide +kernel
theorem dX8_init_49 : decode cX8_init 49 = .ok (.new 23, 3) := by decide +kernel
theorem dX8_init_52 : decode cX8_init 52 = .ok (.dup, 1) := by decide +kernel
theorem dX8_init_53 : decode cX8_init 53 = .ok (.invokespecial 25, 3) := by decide +kernel
theorem dX8_init_56 : decode cX8_init 56 = .ok (.putfield 33, 3) := by decide +kernel
theorem dX8_init_59 : decode cX8_init 59 = .ok (.aload_n 0, 1) := by decide +kernel
theorem dX8_init_60 : decode cX8_init 60 = .ok (.new 16, 3) := by decide +kernel
theorem dX8_init_63 : decode cX8_init 63 = .ok (.dup, 1) := by decide +kernel
theorem dX8_init_64 : decode cX8_init 64 = .ok (.invokespecial 18, 3) := by decide +kernel
theorem dX8_init_67 : decode cX8_init 67 = .ok (.putfield 36, 3) := by decide +kernel
theorem dX8_init_70 : decode cX8_init 70 = .ok (.aload_n 0, 1) := by decide +kernel
theorem dX8_init_71 : decode cX8_init 71 = .ok (.new 39, 3) := by decide +kernel
theorem dX8_init_74 : decode cX8_init 74 = .ok (.dup, 1) := by decide +kernel
theorem dX8_init_75 : decode cX8_init 75 = .ok (.invokespecial 41, 3) := by decide +kernel
theorem dX8_init_78 : decode cX8_init 78 = .ok (.putfield 42, 3) := by decide +kernel
theorem dX8_init_81 : decode cX8_init 81 = .ok (.aload_n 0, 1) := by decide +kernel
theorem dX8_init_82 : decode cX8_init 82 = .ok (.new 46, 3) := by decide +kernel
theorem dX8_init_85 : decode cX8_init 85 = .ok (.dup, 1) := by decide +kernel
theorem dX8_init_86 : decode cX8_init 86 = .ok (.invokespecial 48, 3) := by decide +kernel
theorem dX8_init_89 : decode cX8_init 89 = .ok (.putfield 49, 3) := by decide +kernel
theorem dX8_init_92 : decode cX8_init 92 = .ok (.aload_n 0, 1) := by decide +kernel
theorem dX8_init_93 : decode cX8_init 93 = .ok (.new 53, 3) := by decide +kernel
theorem dX8_init_96 : decode cX8_init 96 = .ok (.dup, 1) := by decide +kernel
theorem dX8_init_97 : decode cX8_init 97 = .ok (.invokespecial 55, 3) := by decide +kernel
theorem dX8_init_100 : decode cX8_init 100 = .ok (.putfield 56, 3) := by decide +kernel
theorem dX8_init_103 : decode cX8_init 103 = .ok (.aload_n 0, 1) := by decide +kernel
theorem dX8_init_104 : decode cX8_init 104 = .ok (.new 60, 3) := by decide +kernel
theorem dX8_init_107 : decode cX8_init 107 = .ok (.dup, 1) := by decide +kernel
theorem dX8_init_108 : decode cX8_init 108 = .ok (.invokespecial 62, 3) := by decide +kernel
theorem dX8_init_111 : decode cX8_init 111 = .ok (.putfield 63, 3) := by decide +kernel
theorem dX8_init_114 : decode cX8_init 114 = .ok (.return_, 1) := by decide +kernel
theorem dX8_letter_0 : decode cX8_letter 0 = .ok (.iload_n 1, 1) := by decide +kernel
theorem dX8_letter_1 : decode cX8_letter 1 = .ok (.bipush 32, 2) := by decide +kernel
theorem dX8_letter_3 : decode cX8_letter 3 = .ok (.if_icmp .lt 9, 3) := by decide +kernel
theorem dX8_letter_6 : decode cX8_letter 6 = .ok (.iload_n 1, 1) := by decide +kernel
theorem dX8_letter_7 : decode cX8_letter 7 = .ok (.bipush 126, 2) := by decide +kernel
theorem dX8_letter_9 : decode cX8_letter 9 = .ok (.if_icmp .le 6, 3) := by decide +kernel
theorem dX8_letter_12 : decode cX8_letter 12 = .ok (.bipush (-102), 2) := by decide +kernel
theorem dX8_letter_14 : decode cX8_letter 14 = .ok (.ireturn, 1) := by decide +kernel
theorem dX8_letter_15 : decode cX8_letter 15 = .ok (.aload_n 0, 1) := by decide +kernel
theorem dX8_letter_16 : decode cX8_letter 16 = .ok (.getfield 10, 3) := by decide +kernel
theorem dX8_letter_19 : decode cX8_letter 19 = .ok (.getfield 67, 3) := by decide +kernel
theorem dX8_letter_22 : decode cX8_letter 22 = .ok (.bipush 36, 2) := by decide +kernel
theorem dX8_letter_24 : decode cX8_letter 24 = .ok (.if_icmp .lt 6, 3) := by decide +kernel
theorem dX8_letter_27 : decode cX8_letter 27 = .ok (.bipush (-104), 2) := by decide +kernel
theorem dX8_letter_29 : decode cX8_letter 29 = .ok (.ireturn, 1) := by decide +kernel
theorem dX8_letter_30 : decode cX8_letter 30 = .ok (.aload_n 0, 1) := by decide +kernel
theorem dX8_letter_31 : decode cX8_letter 31 = .ok (.getfield 10, 3) := by decide +kernel
theorem dX8_letter_34 : decode cX8_letter 34 = .ok (.iload_n 1, 1) := by decide +kernel
theorem dX8_letter_35 : decode cX8_letter 35 = .ok (.invokevirtual 71, 3) := by decide +kernel
theorem dX8_letter_38 : decode cX8_letter 38 = .ok (.ireturn, 1) := by decide +kernel
theorem dX8_blank_0 : decode cX8_blank 0 = .ok (.aload_n 0, 1) := by decide +kernel
theorem dX8_blank_1 : decode cX8_blank 1 = .ok (.getfield 10, 3) := by decide +kernel
theorem dX8_blank_4 : decode cX8_blank 4 = .ok (.invokevirtual 75, 3) := by decide +kernel
theorem dX8_blank_7 : decode cX8_blank 7 = .ok (.ireturn, 1) := by decide +kernel
theorem dX8_fault_0 : decode cX8_fault 0 = .ok (.aload_n 0, 1) := by decide +kernel
theorem dX8_fault_1 : decode cX8_fault 1 = .ok (.getfield 10, 3) := by decide +kernel
theorem dX8_fault_4 : decode cX8_fault 4 = .ok (.invokevirtual 79, 3) := by decide +kernel
theorem dX8_fault_7 : decode cX8_fault 7 = .ok (.ireturn, 1) := by decide +kernel
theorem dX8_party_0 : decode cX8_party 0 = .ok (.aload_n 0, 1) := by decide +kernel
theorem dX8_party_1 : decode cX8_party 1 = .ok (.getfield 10, 3) := by decide +kernel
theorem dX8_party_4 : decode cX8_party 4 = .ok (.invokevirtual 82, 3) := by decide +kernel
theorem dX8_party_7 : decode cX8_party 7 = .ok (.ifCond .ne 6, 3) := by decide +kernel
theorem dX8_party_10 : decode cX8_party 10 = .ok (.bipush (-103), 2) := by decide +kernel
theorem dX8_party_12 : decode cX8_party 12 = .ok (.ireturn, 1) := by decide +kernel
theorem dX8_party_13 : decode cX8_party 13 = .ok (.aload_n 0, 1) := by decide +kernel
theorem dX8_party_14 : decode cX8_party 14 = .ok (.getfield 19, 3) := by decide +kernel
theorem dX8_party_17 : decode cX8_party 17 = .ok (.aload_n 0, 1) := by decide +kernel
theorem dX8_party_18 : decode cX8_party 18 = .ok (.getfield 10, 3) := by decide +kernel
theorem dX8_party_21 : decode cX8_party 21 = .ok (.invokevirtual 86, 3) := by decide +kernel
theorem dX8_party_24 : decode cX8_party 24 = .ok (.aload_n 0, 1) := by decide +kernel
theorem dX8_party_25 : decode cX8_party 25 = .ok (.getfield 10, 3) := by decide +kernel
theorem dX8_party_28 : decode cX8_party 28 = .ok (.invokevirtual 75, 3) := by decide +kernel
theorem dX8_party_31 : decode cX8_party 31 = .ok (.pop, 1) := by decide +kernel
theorem dX8_party_32 : decode cX8_party 32 = .ok (.aload_n 0, 1) := by decide +kernel
theorem dX8_party_33 : decode cX8_party 33 = .ok (.getfield 26, 3) := by decide +kernel
theorem dX8_party_36 : decode cX8_party 36 = .ok (.invokevirtual 90, 3) := by decide +kernel
theorem dX8_party_39 : decode cX8_party 39 = .ok (.pop, 1) := by decide +kernel
theorem dX8_party_40 : decode cX8_party 40 = .ok (.aload_n 0, 1) := by decide +kernel
theorem dX8_party_41 : decode cX8_party 41 = .ok (.iconst 0, 1) := by decide +kernel
theorem dX8_party_42 : decode cX8_party 42 = .ok (.putfield 91, 3) := by decide +kernel
theorem dX8_party_45 : decode cX8_party 45 = .ok (.aload_n 0, 1) := by decide +kernel
theorem dX8_party_46 : decode cX8_party 46 = .ok (.dup, 1) := by decide +kernel
theorem dX8_party_47 : decode cX8_party 47 = .ok (.getfield 95, 3) := by decide +kernel
theorem dX8_party_50 : decode cX8_party 50 = .ok (.iconst 1, 1) := by decide +kernel
theorem dX8_party_51 : decode cX8_party 51 = .ok (.iadd, 1) := by decide +kernel
theorem dX8_party_52 : decode cX8_party 52 = .ok (.putfield 95, 3) := by decide +kernel
theorem dX8_party_55 : decode cX8_party 55 = .ok (.aload_n 0, 1) := by decide +kernel
theorem dX8_party_56 : decode cX8_party 56 = .ok (.getfield 19, 3) := by decide +kernel
theorem dX8_party_59 : decode cX8_party 59 = .ok (.getfield 98, 3) := by decide +kernel
theorem dX8_party_62 : decode cX8_party 62 = .ok (.ireturn, 1) := by decide +kernel
theorem dX8_guest_0 : decode cX8_guest 0 = .ok (.aload_n 0, 1) := by decide +kernel
theorem dX8_guest_1 : decode cX8_guest 1 = .ok (.getfield 19, 3) := by decide +kernel
theorem dX8_guest_4 : decode cX8_guest 4 = .ok (.iload_n 1, 1) := by decide +kernel
theorem dX8_guest_5 : decode cX8_guest 5 = .ok (.invokevirtual 101, 3) := by decide +kernel
theorem dX8_guest_8 : decode cX8_guest 8 = .ok (.ifCond .ne 6, 3) := by decide +kernel
theorem dX8_guest_11 : decode cX8_guest 11 = .ok (.bipush (-101), 2) := by decide +kernel
theorem dX8_guest_13 : decode cX8_guest 13 = .ok (.ireturn, 1) := by decide +kernel
theorem dX8_guest_14 : decode cX8_guest 14 = .ok (.iload_n 2, 1) := by decide +kernel
theorem dX8_guest_15 : decode cX8_guest 15 = .ok (.ifCond .lt 9, 3) := by decide +kernel
theorem dX8_guest_18 : decode cX8_guest 18 = .ok (.iload_n 2, 1) := by decide +kernel
theorem dX8_guest_19 : decode cX8_guest 19 = .ok (.bipush 8, 2) := by decide +kernel
theorem dX8_guest_21 : decode cX8_guest 21 = .ok (.if_icmp .le 6, 3) := by decide +kernel
theorem dX8_guest_24 : decode cX8_guest 24 = .ok (.bipush (-102), 2) := by decide +kernel
theorem dX8_guest_26 : decode cX8_guest 26 = .ok (.ireturn, 1) := by decide +kernel
theorem dX8_guest_27 : decode cX8_guest 27 = .ok (.iload_n 2, 1) := by decide +kernel
theorem dX8_guest_28 : decode cX8_guest 28 = .ok (.bipush 8, 2) := by decide +kernel
theorem dX8_guest_30 : decode cX8_guest 30 = .ok (.if_icmp .ne 14, 3) := by decide +kernel
theorem dX8_guest_33 : decode cX8_guest 33 = .ok (.aload_n 0, 1) := by decide +kernel
theorem dX8_guest_34 : decode cX8_guest 34 = .ok (.getfield 56, 3) := by decide +kernel
theorem dX8_guest_37 : decode cX8_guest 37 = .ok (.aload_n 0, 1) := by decide +kernel
theorem dX8_guest_38 : decode cX8_guest 38 = .ok (.getfield 19, 3) := by decide +kernel
theorem dX8_guest_41 : decode cX8_guest 41 = .ok (.invokevirtual 105, 3) := by decide +kernel
theorem dX8_guest_44 : decode cX8_guest 44 = .ok (.aload_n 0, 1) := by decide +kernel
theorem dX8_guest_45 : decode cX8_guest 45 = .ok (.iload_n 1, 1) := by decide +kernel
theorem dX8_guest_46 : decode cX8_guest 46 = .ok (.iload_n 2, 1) := by decide +kernel
theorem dX8_guest_47 : decode cX8_guest 47 = .ok (.invokevirtual 109, 3) := by decide +kernel
theorem dX8_guest_50 : decode cX8_guest 50 = .ok (.ireturn, 1) := by decide +kernel
theorem dX8_as_0 : decode cX8_as 0 = .ok (.aload_n 0, 1) := by decide +kernel
theorem dX8_as_1 : decode cX8_as 1 = .ok (.getfield 19, 3) := by decide +kernel
theorem dX8_as_4 : decode cX8_as 4 = .ok (.iload_n 1, 1) := by decide +kernel
theorem dX8_as_5 : decode cX8_as 5 = .ok (.invokevirtual 101, 3) := by decide +kernel
theorem dX8_as_8 : decode cX8_as 8 = .ok (.ifCond .ne 6, 3) := by decide +kernel
theorem dX8_as_11 : decode cX8_as 11 = .ok (.bipush (-101), 2) := by decide +kernel
theorem dX8_as_13 : decode cX8_as 13 = .ok (.ireturn, 1) := by decide +kernel
theorem dX8_as_14 : decode cX8_as 14 = .ok (.iload_n 2, 1) := by decide +kernel
theorem dX8_as_15 : decode cX8_as 15 = .ok (.invokestatic 113, 3) := by decide +kernel
theorem dX8_as_18 : decode cX8_as 18 = .ok (.ifCond .ne 6, 3) := by decide +kernel
theorem dX8_as_21 : decode cX8_as 21 = .ok (.bipush (-102), 2) := by decide +kernel
theorem dX8_as_23 : decode cX8_as 23 = .ok (.ireturn, 1) := by decide +kernel
theorem dX8_as_24 : decode cX8_as 24 = .ok (.aload_n 0, 1) := by decide +kernel
theorem dX8_as_25 : decode cX8_as 25 = .ok (.getfield 19, 3) := by decide +kernel
theorem dX8_as_28 : decode cX8_as 28 = .ok (.getfield 118, 3) := by decide +kernel
theorem dX8_as_31 : decode cX8_as 31 = .ok (.iload_n 1, 1) := by decide +kernel
theorem dX8_as_32 : decode cX8_as 32 = .ok (.iaload, 1) := by decide +kernel
theorem dX8_as_33 : decode cX8_as 33 = .ok (.iload_n 2, 1) := by decide +kernel
theorem dX8_as_34 : decode cX8_as 34 = .ok (.invokestatic 122, 3) := by decide +kernel
theorem dX8_as_37 : decode cX8_as 37 = .ok (.ifCond .eq 7, 3) := by decide +kernel
theorem dX8_as_40 : decode cX8_as 40 = .ok (.iload_n 1, 1) := by decide +kernel
theorem dX8_as_41 : decode cX8_as 41 = .ok (.goto 4, 3) := by decide +kernel
theorem dX8_as_44 : decode cX8_as 44 = .ok (.iconst (-1), 1) := by decide +kernel
theorem dX8_as_45 : decode cX8_as 45 = .ok (.ireturn, 1) := by decide +kernel
theorem dX8_rise_0 : decode cX8_rise 0 = .ok (.iload_n 1, 1) := by decide +kernel
theorem dX8_rise_1 : decode cX8_rise 1 = .ok (.ifCond .eq 17, 3) := by decide +kernel
theorem dX8_rise_4 : decode cX8_rise 4 = .ok (.iload_n 1, 1) := by decide +kernel
theorem dX8_rise_5 : decode cX8_rise 5 = .ok (.aload_n 0, 1) := by decide +kernel
theorem dX8_rise_6 : decode cX8_rise 6 = .ok (.getfield 19, 3) := by decide +kernel
theorem dX8_rise_9 : decode cX8_rise 9 = .ok (.invokevirtual 126, 3) := by decide +kernel
theorem dX8_rise_12 : decode cX8_rise 12 = .ok (.iconst (-1), 1) := by decide +kernel
theorem dX8_rise_13 : decode cX8_rise 13 = .ok (.ixor, 1) := by decide +kernel
theorem dX8_rise_14 : decode cX8_rise 14 = .ok (.iand, 1) := by decide +kernel
theorem dX8_rise_15 : decode cX8_rise 15 = .ok (.ifCond .eq 6, 3) := by decide +kernel
theorem dX8_rise_18 : decode cX8_rise 18 = .ok (.bipush (-101), 2) := by decide +kernel
theorem dX8_rise_20 : decode cX8_rise 20 = .ok (.ireturn, 1) := by decide +kernel
theorem dX8_rise_21 : decode cX8_rise 21 = .ok (.iload_n 1, 1) := by decide +kernel
theorem dX8_rise_22 : decode cX8_rise 22 = .ok (.aload_n 0, 1) := by decide +kernel
theorem dX8_rise_23 : decode cX8_rise 23 = .ok (.getfield 19, 3) := by decide +kernel
theorem dX8_rise_26 : decode cX8_rise 26 = .ok (.getfield 129, 3) := by decide +kernel
theorem dX8_rise_29 : decode cX8_rise 29 = .ok (.iconst (-1), 1) := by decide +kernel
theorem dX8_rise_30 : decode cX8_rise 30 = .ok (.ixor, 1) := by decide +kernel
theorem dX8_rise_31 : decode cX8_rise 31 = .ok (.iand, 1) := by decide +kernel
theorem dX8_rise_32 : decode cX8_rise 32 = .ok (.ifCond .ne 15, 3) := by decide +kernel
theorem dX8_rise_35 : decode cX8_rise 35 = .ok (.aload_n 0, 1) := by decide +kernel
theorem dX8_rise_36 : decode cX8_rise 36 = .ok (.getfield 19, 3) := by decide +kernel
theorem dX8_rise_39 : decode cX8_rise 39 = .ok (.iload_n 1, 1) := by decide +kernel
theorem dX8_rise_40 : decode cX8_rise 40 = .ok (.invokevirtual 132, 3) := by decide +kernel
theorem dX8_rise_43 : decode cX8_rise 43 = .ok (.iload_n 1, 1) := by decide +kernel
theorem dX8_rise_44 : decode cX8_rise 44 = .ok (.if_icmp .eq 6, 3) := by decide +kernel
theorem dX8_rise_47 : decode cX8_rise 47 = .ok (.bipush (-103), 2) := by decide +kernel
theorem dX8_rise_49 : decode cX8_rise 49 = .ok (.ireturn, 1) := by decide +kernel
theorem dX8_rise_50 : decode cX8_rise 50 = .ok (.aload_n 0, 1) := by decide +kernel
theorem dX8_rise_51 : decode cX8_rise 51 = .ok (.getfield 19, 3) := by decide +kernel
theorem dX8_rise_54 : decode cX8_rise 54 = .ok (.dup, 1) := by decide +kernel
theorem dX8_rise_55 : decode cX8_rise 55 = .ok (.getfield 129, 3) := by decide +kernel
theorem dX8_rise_58 : decode cX8_rise 58 = .ok (.iload_n 1, 1) := by decide +kernel
theorem dX8_rise_59 : decode cX8_rise 59 = .ok (.iconst (-1), 1) := by decide +kernel
theorem dX8_rise_60 : decode cX8_rise 60 = .ok (.ixor, 1) := by decide +kernel
theorem dX8_rise_61 : decode cX8_rise 61 = .ok (.iand, 1) := by decide +kernel
theorem dX8_rise_62 : decode cX8_rise 62 = .ok (.putfield 129, 3) := by decide +kernel
theorem dX8_rise_65 : decode cX8_rise 65 = .ok (.iload_n 1, 1) := by decide +kernel
theorem dX8_rise_66 : decode cX8_rise 66 = .ok (.invokestatic 135, 3) := by decide +kernel
theorem dX8_rise_69 : decode cX8_rise 69 = .ok (.ireturn, 1) := by decide +kernel
theorem dX8_hour_0 : decode cX8_hour 0 = .ok (.aload_n 0, 1) := by decide +kernel
theorem dX8_hour_1 : decode cX8_hour 1 = .ok (.invokevirtual 140, 3) := by decide +kernel
theorem dX8_hour_4 : decode cX8_hour 4 = .ok (.ifCond .ne 6, 3) := by decide +kernel
theorem dX8_hour_7 : decode cX8_hour 7 = .ok (.bipush (-103), 2) := by decide +kernel
theorem dX8_hour_9 : decode cX8_hour 9 = .ok (.ireturn, 1) := by decide +kernel
theorem dX8_hour_10 : decode cX8_hour 10 = .ok (.aload_n 0, 1) := by decide +kernel
theorem dX8_hour_11 : decode cX8_hour 11 = .ok (.getfield 19, 3) := by decide +kernel
theorem dX8_hour_14 : decode cX8_hour 14 = .ok (.getfield 143, 3) := by decide +kernel
theorem dX8_hour_17 : decode cX8_hour 17 = .ok (.sipush 999, 3) := by decide +kernel
theorem dX8_hour_20 : decode cX8_hour 20 = .ok (.if_icmp .lt 6, 3) := by decide +kernel
theorem dX8_hour_23 : decode cX8_hour 23 = .ok (.bipush (-104), 2) := by decide +kernel
theorem dX8_hour_25 : decode cX8_hour 25 = .ok (.ireturn, 1) := by decide +kernel
theorem dX8_hour_26 : decode cX8_hour 26 = .ok (.aload_n 0, 1) := by decide +kernel
theorem dX8_hour_27 : decode cX8_hour 27 = .ok (.getfield 19, 3) := by decide +kernel
theorem dX8_hour_30 : decode cX8_hour 30 = .ok (.invokevirtual 146, 3) := by decide +kernel
theorem dX8_hour_33 : decode cX8_hour 33 = .ok (.ireturn, 1) := by decide +kernel
theorem dX8_hint_0 : decode cX8_hint 0 = .ok (.aload_n 0, 1) := by decide +kernel
theorem dX8_hint_1 : decode cX8_hint 1 = .ok (.getfield 19, 3) := by decide +kernel
theorem dX8_hint_4 : decode cX8_hint 4 = .ok (.iload_n 1, 1) := by decide +kernel
theorem dX8_hint_5 : decode cX8_hint 5 = .ok (.invokevirtual 101, 3) := by decide +kernel
theorem dX8_hint_8 : decode cX8_hint 8 = .ok (.ifCond .ne 6, 3) := by decide +kernel
theorem dX8_hint_11 : decode cX8_hint 11 = .ok (.bipush (-101), 2) := by decide +kernel
theorem dX8_hint_13 : decode cX8_hint 13 = .ok (.ireturn, 1) := by decide +kernel
theorem dX8_hint_14 : decode cX8_hint 14 = .ok (.aload_n 0, 1) := by decide +kernel
theorem dX8_hint_15 : decode cX8_hint 15 = .ok (.getfield 19, 3) := by decide +kernel
theorem dX8_hint_18 : decode cX8_hint 18 = .ok (.iload_n 1, 1) := by decide +kernel
theorem dX8_hint_19 : decode cX8_hint 19 = .ok (.invokevirtual 149, 3) := by decide +kernel
theorem dX8_hint_22 : decode cX8_hint 22 = .ok (.ifCond .ne 6, 3) := by decide +kernel
theorem dX8_hint_25 : decode cX8_hint 25 = .ok (.bipush (-103), 2) := by decide +kernel
theorem dX8_hint_27 : decode cX8_hint 27 = .ok (.ireturn, 1) := by decide +kernel
theorem dX8_hint_28 : decode cX8_hint 28 = .ok (.aload_n 0, 1) := by decide +kernel
theorem dX8_hint_29 : decode cX8_hint 29 = .ok (.getfield 19, 3) := by decide +kernel
theorem dX8_hint_32 : decode cX8_hint 32 = .ok (.iload_n 1, 1) := by decide +kernel
theorem dX8_hint_33 : decode cX8_hint 33 = .ok (.invokevirtual 152, 3) := by decide +kernel
theorem dX8_hint_36 : decode cX8_hint 36 = .ok (.aload_n 0, 1) := by decide +kernel
theorem dX8_hint_37 : decode cX8_hint 37 = .ok (.getfield 19, 3) := by decide +kernel
theorem dX8_hint_40 : decode cX8_hint 40 = .ok (.getfield 156, 3) := by decide +kernel
theorem dX8_hint_43 : decode cX8_hint 43 = .ok (.iload_n 1, 1) := by decide +kernel
theorem dX8_hint_44 : decode cX8_hint 44 = .ok (.iaload, 1) := by decide +kernel
theorem dX8_hint_45 : decode cX8_hint 45 = .ok (.ireturn, 1) := by decide +kernel
theorem dX8_back_0 : decode cX8_back 0 = .ok (.aload_n 0, 1) := by decide +kernel
theorem dX8_back_1 : decode cX8_back 1 = .ok (.getfield 19, 3) := by decide +kernel
theorem dX8_back_4 : decode cX8_back 4 = .ok (.iload_n 1, 1) := by decide +kernel
theorem dX8_back_5 : decode cX8_back 5 = .ok (.invokevirtual 101, 3) := by decide +kernel
theorem dX8_back_8 : decode cX8_back 8 = .ok (.ifCond .ne 6, 3) := by decide +kernel
theorem dX8_back_11 : decode cX8_back 11 = .ok (.bipush (-101), 2) := by decide +kernel
theorem dX8_back_13 : decode cX8_back 13 = .ok (.ireturn, 1) := by decide +kernel
theorem dX8_back_14 : decode cX8_back 14 = .ok (.aload_n 0, 1) := by decide +kernel
theorem dX8_back_15 : decode cX8_back 15 = .ok (.getfield 19, 3) := by decide +kernel
theorem dX8_back_18 : decode cX8_back 18 = .ok (.iload_n 1, 1) := by decide +kernel
theorem dX8_back_19 : decode cX8_back 19 = .ok (.invokevirtual 149, 3) := by decide +kernel
theorem dX8_back_22 : decode cX8_back 22 = .ok (.ifCond .eq 6, 3) := by decide +kernel
theorem dX8_back_25 : decode cX8_back 25 = .ok (.bipush (-103), 2) := by decide +kernel
theorem dX8_back_27 : decode cX8_back 27 = .ok (.ireturn, 1) := by decide +kernel
theorem dX8_back_28 : decode cX8_back 28 = .ok (.aload_n 0, 1) := by decide +kernel
theorem dX8_back_29 : decode cX8_back 29 = .ok (.getfield 19, 3) := by decide +kernel
theorem dX8_back_32 : decode cX8_back 32 = .ok (.dup, 1) := by decide +kernel
theorem dX8_back_33 : decode cX8_back 33 = .ok (.getfield 129, 3) := by decide +kernel
theorem dX8_back_36 : decode cX8_back 36 = .ok (.iconst 1, 1) := by decide +kernel
theorem dX8_back_37 : decode cX8_back 37 = .ok (.iload_n 1, 1) := by decide +kernel
theorem dX8_back_38 : decode cX8_back 38 = .ok (.ishl, 1) := by decide +kernel
theorem dX8_back_39 : decode cX8_back 39 = .ok (.ior, 1) := by decide +kernel
theorem dX8_back_40 : decode cX8_back 40 = .ok (.putfield 129, 3) := by decide +kernel
theorem dX8_back_43 : decode cX8_back 43 = .ok (.aload_n 0, 1) := by decide +kernel
theorem dX8_back_44 : decode cX8_back 44 = .ok (.getfield 19, 3) := by decide +kernel
theorem dX8_back_47 : decode cX8_back 47 = .ok (.getfield 129, 3) := by decide +kernel
theorem dX8_back_50 : decode cX8_back 50 = .ok (.invokestatic 135, 3) := by decide +kernel
theorem dX8_back_53 : decode cX8_back 53 = .ok (.ireturn, 1) := by decide +kernel
theorem dX8_feed_0 : decode cX8_feed 0 = .ok (.iload_n 1, 1) := by decide +kernel
theorem dX8_feed_1 : decode cX8_feed 1 = .ok (.iconst 1, 1) := by decide +kernel
theorem dX8_feed_2 : decode cX8_feed 2 = .ok (.if_icmp .lt 9, 3) := by decide +kernel
theorem dX8_feed_5 : decode cX8_feed 5 = .ok (.iload_n 1, 1) := by decide +kernel
theorem dX8_feed_6 : decode cX8_feed 6 = .ok (.bipush 50, 2) := by decide +kernel
theorem dX8_feed_8 : decode cX8_feed 8 = .ok (.if_icmp .le 6, 3) := by decide +kernel
theorem dX8_feed_11 : decode cX8_feed 11 = .ok (.bipush (-102), 2) := by decide +kernel
theorem dX8_feed_13 : decode cX8_feed 13 = .ok (.ireturn, 1) := by decide +kernel
theorem dX8_feed_14 : decode cX8_feed 14 = .ok (.aload_n 0, 1) := by decide +kernel
theorem dX8_feed_15 : decode cX8_feed 15 = .ok (.invokevirtual 140, 3) := by decide +kernel
theorem dX8_feed_18 : decode cX8_feed 18 = .ok (.ifCond .ne 6, 3) := by decide +kernel
theorem dX8_feed_21 : decode cX8_feed 21 = .ok (.bipush (-103), 2) := by decide +kernel
theorem dX8_feed_23 : decode cX8_feed 23 = .ok (.ireturn, 1) := by decide +kernel
theorem dX8_feed_24 : decode cX8_feed 24 = .ok (.aload_n 0, 1) := by decide +kernel
theorem dX8_feed_25 : decode cX8_feed 25 = .ok (.getfield 19, 3) := by decide +kernel
theorem dX8_feed_28 : decode cX8_feed 28 = .ok (.getfield 159, 3) := by decide +kernel
theorem dX8_feed_31 : decode cX8_feed 31 = .ok (.iload_n 1, 1) := by decide +kernel
theorem dX8_feed_32 : decode cX8_feed 32 = .ok (.iadd, 1) := by decide +kernel
theorem dX8_feed_33 : decode cX8_feed 33 = .ok (.bipush 99, 2) := by decide +kernel
theorem dX8_feed_35 : decode cX8_feed 35 = .ok (.if_icmp .le 6, 3) := by decide +kernel
theorem dX8_feed_38 : decode cX8_feed 38 = .ok (.bipush (-104), 2) := by decide +kernel
theorem dX8_feed_40 : decode cX8_feed 40 = .ok (.ireturn, 1) := by decide +kernel
theorem dX8_feed_41 : decode cX8_feed 41 = .ok (.aload_n 0, 1) := by decide +kernel
theorem dX8_feed_42 : decode cX8_feed 42 = .ok (.getfield 19, 3) := by decide +kernel
theorem dX8_feed_45 : decode cX8_feed 45 = .ok (.dup, 1) := by decide +kernel
theorem dX8_feed_46 : decode cX8_feed 46 = .ok (.getfield 159, 3) := by decide +kernel
theorem dX8_feed_49 : decode cX8_feed 49 = .ok (.iload_n 1, 1) := by decide +kernel
theorem dX8_feed_50 : decode cX8_feed 50 = .ok (.iadd, 1) := by decide +kernel
theorem dX8_feed_51 : decode cX8_feed 51 = .ok (.putfield 159, 3) := by decide +kernel
theorem dX8_feed_54 : decode cX8_feed 54 = .ok (.aload_n 0, 1) := by decide +kernel
theorem dX8_feed_55 : decode cX8_feed 55 = .ok (.getfield 19, 3) := by decide +kernel
theorem dX8_feed_58 : decode cX8_feed 58 = .ok (.getfield 159, 3) := by decide +kernel
theorem dX8_feed_61 : decode cX8_feed 61 = .ok (.ireturn, 1) := by decide +kernel
theorem dX8_turn_0 : decode cX8_turn 0 = .ok (.aload_n 0, 1) := by decide +kernel
theorem dX8_turn_1 : decode cX8_turn 1 = .ok (.getfield 19, 3) := by decide +kernel
theorem dX8_turn_4 : decode cX8_turn 4 = .ok (.iload_n 1, 1) := by decide +kernel
theorem dX8_turn_5 : decode cX8_turn 5 = .ok (.invokevirtual 101, 3) := by decide +kernel
theorem dX8_turn_8 : decode cX8_turn 8 = .ok (.ifCond .ne 6, 3) := by decide +kernel
theorem dX8_turn_11 : decode cX8_turn 11 = .ok (.bipush (-101), 2) := by decide +kernel
theorem dX8_turn_13 : decode cX8_turn 13 = .ok (.ireturn, 1) := by decide +kernel
theorem dX8_turn_14 : decode cX8_turn 14 = .ok (.iload_n 2, 1) := by decide +kernel
theorem dX8_turn_15 : decode cX8_turn 15 = .ok (.invokestatic 113, 3) := by decide +kernel
theorem dX8_turn_18 : decode cX8_turn 18 = .ok (.ifCond .eq 13, 3) := by decide +kernel
theorem dX8_turn_21 : decode cX8_turn 21 = .ok (.iload_n 3, 1) := by decide +kernel
theorem dX8_turn_22 : decode cX8_turn 22 = .ok (.ifCond .lt 9, 3) := by decide +kernel
theorem dX8_turn_25 : decode cX8_turn 25 = .ok (.iload_n 3, 1) := by decide +kernel
theorem dX8_turn_26 : decode cX8_turn 26 = .ok (.bipush 9, 2) := by decide +kernel
theorem dX8_turn_28 : decode cX8_turn 28 = .ok (.if_icmp .le 6, 3) := by decide +kernel
theorem dX8_turn_31 : decode cX8_turn 31 = .ok (.bipush (-102), 2) := by decide +kernel
theorem dX8_turn_33 : decode cX8_turn 33 = .ok (.ireturn, 1) := by decide +kernel
theorem dX8_turn_34 : decode cX8_turn 34 = .ok (.aload_n 0, 1) := by decide +kernel
theorem dX8_turn_35 : decode cX8_turn 35 = .ok (.getfield 19, 3) := by decide +kernel
theorem dX8_turn_38 : decode cX8_turn 38 = .ok (.getfield 118, 3) := by decide +kernel
theorem dX8_turn_41 : decode cX8_turn 41 = .ok (.iload_n 1, 1) := by decide +kernel
theorem dX8_turn_42 : decode cX8_turn 42 = .ok (.iaload, 1) := by decide +kernel
theorem dX8_turn_43 : decode cX8_turn 43 = .ok (.istore 4, 2) := by decide +kernel
theorem dX8_turn_45 : decode cX8_turn 45 = .ok (.aload_n 0, 1) := by decide +kernel
theorem dX8_turn_46 : decode cX8_turn 46 = .ok (.getfield 19, 3) := by decide +kernel
theorem dX8_turn_49 : decode cX8_turn 49 = .ok (.getfield 118, 3) := by decide +kernel
theorem dX8_turn_52 : decode cX8_turn 52 = .ok (.iload_n 1, 1) := by decide +kernel
theorem dX8_turn_53 : decode cX8_turn 53 = .ok (.iload_n 2, 1) := by decide +kernel
theorem dX8_turn_54 : decode cX8_turn 54 = .ok (.iastore, 1) := by decide +kernel
theorem dX8_turn_55 : decode cX8_turn 55 = .ok (.aload_n 0, 1) := by decide +kernel
theorem dX8_turn_56 : decode cX8_turn 56 = .ok (.getfield 19, 3) := by decide +kernel
theorem dX8_turn_59 : decode cX8_turn 59 = .ok (.getfield 156, 3) := by decide +kernel
theorem dX8_turn_62 : decode cX8_turn 62 = .ok (.iload_n 1, 1) := by decide +kernel
theorem dX8_turn_63 : decode cX8_turn 63 = .ok (.iload_n 3, 1) := by decide +kernel
theorem dX8_turn_64 : decode cX8_turn 64 = .ok (.iastore, 1) := by decide +kernel
theorem dX8_turn_65 : decode cX8_turn 65 = .ok (.iload 4, 2) := by decide +kernel
theorem dX8_turn_67 : decode cX8_turn 67 = .ok (.ireturn, 1) := by decide +kernel
theorem dX8_most_0 : decode cX8_most 0 = .ok (.aload_n 0, 1) := by decide +kernel
theorem dX8_most_1 : decode cX8_most 1 = .ok (.invokevirtual 140, 3) := by decide +kernel
theorem dX8_most_4 : decode cX8_most 4 = .ok (.ifCond .ne 6, 3) := by decide +kernel
theorem dX8_most_7 : decode cX8_most 7 = .ok (.bipush (-103), 2) := by decide +kernel
theorem dX8_most_9 : decode cX8_most 9 = .ok (.ireturn, 1) := by decide +kernel
theorem dX8_most_10 : decode cX8_most 10 = .ok (.aload_n 0, 1) := by decide +kernel
theorem dX8_most_11 : decode cX8_most 11 = .ok (.getfield 19, 3) := by decide +kernel
theorem dX8_most_14 : decode cX8_most 14 = .ok (.invokevirtual 162, 3) := by decide +kernel
theorem dX8_most_17 : decode cX8_most 17 = .ok (.ireturn, 1) := by decide +kernel
theorem dX8_least_0 : decode cX8_least 0 = .ok (.aload_n 0, 1) := by decide +kernel
theorem dX8_least_1 : decode cX8_least 1 = .ok (.invokevirtual 140, 3) := by decide +kernel
theorem dX8_least_4 : decode cX8_least 4 = .ok (.ifCond .ne 6, 3) := by decide +kernel
theorem dX8_least_7 : decode cX8_least 7 = .ok (.bipush (-103), 2) := by decide +kernel
theorem dX8_least_9 : decode cX8_least 9 = .ok (.ireturn, 1) := by decide +kernel
theorem dX8_least_10 : decode cX8_least 10 = .ok (.aload_n 0, 1) := by decide +kernel
theorem dX8_least_11 : decode cX8_least 11 = .ok (.getfield 42, 3) := by decide +kernel
theorem dX8_least_14 : decode cX8_least 14 = .ok (.aload_n 0, 1) := by decide +kernel
theorem dX8_least_15 : decode cX8_least 15 = .ok (.getfield 19, 3) := by decide +kernel
theorem dX8_least_18 : decode cX8_least 18 = .ok (.invokevirtual 165, 3) := by decide +kernel
theorem dX8_least_21 : decode cX8_least 21 = .ok (.aload_n 0, 1) := by decide +kernel
theorem dX8_least_22 : decode cX8_least 22 = .ok (.getfield 42, 3) := by decide +kernel
theorem dX8_least_25 : decode cX8_least 25 = .ok (.invokevirtual 166, 3) := by decide +kernel
theorem dX8_least_28 : decode cX8_least 28 = .ok (.ireturn, 1) := by decide +kernel
theorem dX8_hire_0 : decode cX8_hire 0 = .ok (.iload_n 1, 1) := by decide +kernel
theorem dX8_hire_1 : decode cX8_hire 1 = .ok (.ifCond .lt 8, 3) := by decide +kernel
theorem dX8_hire_4 : decode cX8_hire 4 = .ok (.iload_n 1, 1) := by decide +kernel
theorem dX8_hire_5 : decode cX8_hire 5 = .ok (.iconst 1, 1) := by decide +kernel
theorem dX8_hire_6 : decode cX8_hire 6 = .ok (.if_icmp .le 6, 3) := by decide +kernel
theorem dX8_hire_9 : decode cX8_hire 9 = .ok (.bipush (-102), 2) := by decide +kernel
theorem dX8_hire_11 : decode cX8_hire 11 = .ok (.ireturn, 1) := by decide +kernel
theorem dX8_hire_12 : decode cX8_hire 12 = .ok (.aload_n 0, 1) := by decide +kernel
theorem dX8_hire_13 : decode cX8_hire 13 = .ok (.invokevirtual 140, 3) := by decide +kernel
theorem dX8_hire_16 : decode cX8_hire 16 = .ok (.ifCond .ne 6, 3) := by decide +kernel
theorem dX8_hire_19 : decode cX8_hire 19 = .ok (.bipush (-103), 2) := by decide +kernel
theorem dX8_hire_21 : decode cX8_hire 21 = .ok (.ireturn, 1) := by decide +kernel
theorem dX8_hire_22 : decode cX8_hire 22 = .ok (.iload_n 1, 1) := by decide +kernel
theorem dX8_hire_23 : decode cX8_hire 23 = .ok (.ifCond .ne 13, 3) := by decide +kernel
theorem dX8_hire_26 : decode cX8_hire 26 = .ok (.aload_n 0, 1) := by decide +kernel
theorem dX8_hire_27 : decode cX8_hire 27 = .ok (.invokevirtual 169, 3) := by decide +kernel
theorem dX8_hire_30 : decode cX8_hire 30 = .ok (.invokestatic 135, 3) := by decide +kernel
theorem dX8_hire_33 : decode cX8_hire 33 = .ok (.goto 7, 3) := by decide +kernel
theorem dX8_hire_36 : decode cX8_hire 36 = .ok (.aload_n 0, 1) := by decide +kernel
theorem dX8_hire_37 : decode cX8_hire 37 = .ok (.invokevirtual 169, 3) := by decide +kernel
theorem dX8_hire_40 : decode cX8_hire 40 = .ok (.ireturn, 1) := by decide +kernel
theorem dX8_ends_0 : decode cX8_ends 0 = .ok (.aload_n 0, 1) := by decide +kernel
theorem dX8_ends_1 : decode cX8_ends 1 = .ok (.invokevirtual 140, 3) := by decide +kernel
theorem dX8_ends_4 : decode cX8_ends 4 = .ok (.ifCond .ne 6, 3) := by decide +kernel
theorem dX8_ends_7 : decode cX8_ends 7 = .ok (.bipush (-103), 2) := by decide +kernel
theorem dX8_ends_9 : decode cX8_ends 9 = .ok (.ireturn, 1) := by decide +kernel
theorem dX8_ends_10 : decode cX8_ends 10 = .ok (.aload_n 0, 1) := by decide +kernel
theorem dX8_ends_11 : decode cX8_ends 11 = .ok (.getfield 36, 3) := by decide +kernel
theorem dX8_ends_14 : decode cX8_ends 14 = .ok (.aload_n 0, 1) := by decide +kernel
theorem dX8_ends_15 : decode cX8_ends 15 = .ok (.getfield 19, 3) := by decide +kernel
theorem dX8_ends_18 : decode cX8_ends 18 = .ok (.invokevirtual 172, 3) := by decide +kernel
theorem dX8_ends_21 : decode cX8_ends 21 = .ok (.iconst 0, 1) := by decide +kernel
theorem dX8_ends_22 : decode cX8_ends 22 = .ok (.istore_n 1, 1) := by decide +kernel
theorem dX8_ends_23 : decode cX8_ends 23 = .ok (.iload_n 1, 1) := by decide +kernel
theorem dX8_ends_24 : decode cX8_ends 24 = .ok (.bipush 60, 2) := by decide +kernel
theorem dX8_ends_26 : decode cX8_ends 26 = .ok (.if_icmp .gt 29, 3) := by decide +kernel
theorem dX8_ends_29 : decode cX8_ends 29 = .ok (.aload_n 0, 1) := by decide +kernel
theorem dX8_ends_30 : decode cX8_ends 30 = .ok (.getfield 36, 3) := by decide +kernel
theorem dX8_ends_33 : decode cX8_ends 33 = .ok (.getfield 129, 3) := by decide +kernel
theorem dX8_ends_36 : decode cX8_ends 36 = .ok (.ifCond .ne 5, 3) := by decide +kernel
theorem dX8_ends_39 : decode cX8_ends 39 = .ok (.iload_n 1, 1) := by decide +kernel
theorem dX8_ends_40 : decode cX8_ends 40 = .ok (.ireturn, 1) := by decide +kernel
theorem dX8_ends_41 : decode cX8_ends 41 = .ok (.aload_n 0, 1) := by decide +kernel
theorem dX8_ends_42 : decode cX8_ends 42 = .ok (.getfield 36, 3) := by decide +kernel
theorem dX8_ends_45 : decode cX8_ends 45 = .ok (.invokevirtual 146, 3) := by decide +kernel
theorem dX8_ends_48 : decode cX8_ends 48 = .ok (.pop, 1) := by decide +kernel
theorem dX8_ends_49 : decode cX8_ends 49 = .ok (.iinc 1 1, 3) := by decide +kernel
theorem dX8_ends_52 : decode cX8_ends 52 = .ok (.goto (-29), 3) := by decide +kernel
theorem dX8_ends_55 : decode cX8_ends 55 = .ok (.iconst (-1), 1) := by decide +kernel
theorem dX8_ends_56 : decode cX8_ends 56 = .ok (.ireturn, 1) := by decide +kernel
theorem dX8_odds_0 : decode cX8_odds 0 = .ok (.aload_n 0, 1) := by decide +kernel
theorem dX8_odds_1 : decode cX8_odds 1 = .ok (.getfield 19, 3) := by decide +kernel
theorem dX8_odds_4 : decode cX8_odds 4 = .ok (.iload_n 1, 1) := by decide +kernel
theorem dX8_odds_5 : decode cX8_odds 5 = .ok (.invokevirtual 101, 3) := by decide +kernel
theorem dX8_odds_8 : decode cX8_odds 8 = .ok (.ifCond .ne 6, 3) := by decide +kernel
theorem dX8_odds_11 : decode cX8_odds 11 = .ok (.bipush (-101), 2) := by decide +kernel
theorem dX8_odds_13 : decode cX8_odds 13 = .ok (.ireturn, 1) := by decide +kernel
theorem dX8_odds_14 : decode cX8_odds 14 = .ok (.iload_n 2, 1) := by decide +kernel
theorem dX8_odds_15 : decode cX8_odds 15 = .ok (.ifCond .lt 18, 3) := by decide +kernel
theorem dX8_odds_18 : decode cX8_odds 18 = .ok (.iload_n 2, 1) := by decide +kernel
theorem dX8_odds_19 : decode cX8_odds 19 = .ok (.bipush 10, 2) := by decide +kernel
theorem dX8_odds_21 : decode cX8_odds 21 = .ok (.if_icmp .gt 12, 3) := by decide +kernel
theorem dX8_odds_24 : decode cX8_odds 24 = .ok (.iload_n 3, 1) := by decide +kernel
theorem dX8_odds_25 : decode cX8_odds 25 = .ok (.ifCond .lt 8, 3) := by decide +kernel
theorem dX8_odds_28 : decode cX8_odds 28 = .ok (.iload_n 3, 1) := by decide +kernel
theorem dX8_odds_29 : decode cX8_odds 29 = .ok (.iconst 1, 1) := by decide +kernel
theorem dX8_odds_30 : decode cX8_odds 30 = .ok (.if_icmp .le 6, 3) := by decide +kernel
theorem dX8_odds_33 : decode cX8_odds 33 = .ok (.bipush (-102), 2) := by decide +kernel
theorem dX8_odds_35 : decode cX8_odds 35 = .ok (.ireturn, 1) := by decide +kernel
theorem dX8_odds_36 : decode cX8_odds 36 = .ok (.aload_n 0, 1) := by decide +kernel
theorem dX8_odds_37 : decode cX8_odds 37 = .ok (.getfield 19, 3) := by decide +kernel
theorem dX8_odds_40 : decode cX8_odds 40 = .ok (.iload_n 1, 1) := by decide +kernel
theorem dX8_odds_41 : decode cX8_odds 41 = .ok (.invokevirtual 149, 3) := by decide +kernel
theorem dX8_odds_44 : decode cX8_odds 44 = .ok (.ifCond .ne 6, 3) := by decide +kernel
theorem dX8_odds_47 : decode cX8_odds 47 = .ok (.bipush (-103), 2) := by decide +kernel
theorem dX8_odds_49 : decode cX8_odds 49 = .ok (.ireturn, 1) := by decide +kernel
theorem dX8_odds_50 : decode cX8_odds 50 = .ok (.aload_n 0, 1) := by decide +kernel
theorem dX8_odds_51 : decode cX8_odds 51 = .ok (.getfield 42, 3) := by decide +kernel
theorem dX8_odds_54 : decode cX8_odds 54 = .ok (.aload_n 0, 1) := by decide +kernel
theorem dX8_odds_55 : decode cX8_odds 55 = .ok (.getfield 19, 3) := by decide +kernel
theorem dX8_odds_58 : decode cX8_odds 58 = .ok (.invokevirtual 165, 3) := by decide +kernel
theorem dX8_odds_61 : decode cX8_odds 61 = .ok (.aload_n 0, 1) := by decide +kernel
theorem dX8_odds_62 : decode cX8_odds 62 = .ok (.getfield 49, 3) := by decide +kernel
theorem dX8_odds_65 : decode cX8_odds 65 = .ok (.aload_n 0, 1) := by decide +kernel
theorem dX8_odds_66 : decode cX8_odds 66 = .ok (.getfield 42, 3) := by decide +kernel
theorem dX8_odds_69 : decode cX8_odds 69 = .ok (.iload_n 1, 1) := by decide +kernel
theorem dX8_odds_70 : decode cX8_odds 70 = .ok (.iload_n 2, 1) := by decide +kernel
theorem dX8_odds_71 : decode cX8_odds 71 = .ok (.invokevirtual 175, 3) := by decide +kernel
theorem dX8_odds_74 : decode cX8_odds 74 = .ok (.iload_n 3, 1) := by decide +kernel
theorem dX8_odds_75 : decode cX8_odds 75 = .ok (.ifCond .ne 13, 3) := by decide +kernel
theorem dX8_odds_78 : decode cX8_odds 78 = .ok (.aload_n 0, 1) := by decide +kernel
theorem dX8_odds_79 : decode cX8_odds 79 = .ok (.getfield 49, 3) := by decide +kernel
theorem dX8_odds_82 : decode cX8_odds 82 = .ok (.getfield 178, 3) := by decide +kernel
theorem dX8_odds_85 : decode cX8_odds 85 = .ok (.goto 10, 3) := by decide +kernel
theorem dX8_odds_88 : decode cX8_odds 88 = .ok (.aload_n 0, 1) := by decide +kernel
theorem dX8_odds_89 : decode cX8_odds 89 = .ok (.getfield 49, 3) := by decide +kernel
theorem dX8_odds_92 : decode cX8_odds 92 = .ok (.getfield 181, 3) := by decide +kernel
theorem dX8_odds_95 : decode cX8_odds 95 = .ok (.ireturn, 1) := by decide +kernel
theorem dX8_see_0 : decode cX8_see 0 = .ok (.aload_n 0, 1) := by decide +kernel
theorem dX8_see_1 : decode cX8_see 1 = .ok (.getfield 19, 3) := by decide +kernel
theorem dX8_see_4 : decode cX8_see 4 = .ok (.iload_n 1, 1) := by decide +kernel
theorem dX8_see_5 : decode cX8_see 5 = .ok (.invokevirtual 101, 3) := by decide +kernel
theorem dX8_see_8 : decode cX8_see 8 = .ok (.ifCond .ne 6, 3) := by decide +kernel
theorem dX8_see_11 : decode cX8_see 11 = .ok (.bipush (-101), 2) := by decide +kernel
theorem dX8_see_13 : decode cX8_see 13 = .ok (.ireturn, 1) := by decide +kernel
theorem dX8_see_14 : decode cX8_see 14 = .ok (.iload_n 2, 1) := by decide +kernel
theorem dX8_see_15 : decode cX8_see 15 = .ok (.ifCond .lt 9, 3) := by decide +kernel
theorem dX8_see_18 : decode cX8_see 18 = .ok (.iload_n 2, 1) := by decide +kernel
theorem dX8_see_19 : decode cX8_see 19 = .ok (.bipush 16, 2) := by decide +kernel
theorem dX8_see_21 : decode cX8_see 21 = .ok (.if_icmp .le 6, 3) := by decide +kernel
theorem dX8_see_24 : decode cX8_see 24 = .ok (.bipush (-102), 2) := by decide +kernel
theorem dX8_see_26 : decode cX8_see 26 = .ok (.ireturn, 1) := by decide +kernel
theorem dX8_see_27 : decode cX8_see 27 = .ok (.aload_n 0, 1) := by decide +kernel
theorem dX8_see_28 : decode cX8_see 28 = .ok (.getfield 26, 3) := by decide +kernel
theorem dX8_see_31 : decode cX8_see 31 = .ok (.getfield 184, 3) := by decide +kernel
theorem dX8_see_34 : decode cX8_see 34 = .ok (.bipush 6, 2) := by decide +kernel
theorem dX8_see_36 : decode cX8_see 36 = .ok (.if_icmp .lt 6, 3) := by decide +kernel
theorem dX8_see_39 : decode cX8_see 39 = .ok (.bipush (-104), 2) := by decide +kernel
theorem dX8_see_41 : decode cX8_see 41 = .ok (.ireturn, 1) := by decide +kernel
theorem dX8_see_42 : decode cX8_see 42 = .ok (.aload_n 0, 1) := by decide +kernel
theorem dX8_see_43 : decode cX8_see 43 = .ok (.getfield 26, 3) := by decide +kernel
theorem dX8_see_46 : decode cX8_see 46 = .ok (.iload_n 1, 1) := by decide +kernel
theorem dX8_see_47 : decode cX8_see 47 = .ok (.iload_n 2, 1) := by decide +kernel
theorem dX8_see_48 : decode cX8_see 48 = .ok (.iload_n 3, 1) := by decide +kernel
theorem dX8_see_49 : decode cX8_see 49 = .ok (.invokevirtual 187, 3) := by decide +kernel
theorem dX8_see_52 : decode cX8_see 52 = .ok (.ireturn, 1) := by decide +kernel
theorem dX8_forget_0 : decode cX8_forget 0 = .ok (.aload_n 0, 1) := by decide +kernel
theorem dX8_forget_1 : decode cX8_forget 1 = .ok (.getfield 26, 3) := by decide +kernel
theorem dX8_forget_4 : decode cX8_forget 4 = .ok (.invokevirtual 90, 3) := by decide +kernel
theorem dX8_forget_7 : decode cX8_forget 7 = .ok (.ireturn, 1) := by decide +kernel
theorem dX8_nights_0 : decode cX8_nights 0 = .ok (.iload_n 1, 1) := by decide +kernel
theorem dX8_nights_1 : decode cX8_nights 1 = .ok (.iconst 1, 1) := by decide +kernel
theorem dX8_nights_2 : decode cX8_nights 2 = .ok (.if_icmp .lt 22, 3) := by decide +kernel
theorem dX8_nights_5 : decode cX8_nights 5 = .ok (.iload_n 1, 1) := by decide +kernel
theorem dX8_nights_6 : decode cX8_nights 6 = .ok (.bipush 60, 2) := by decide +kernel
theorem dX8_nights_8 : decode cX8_nights 8 = .ok (.if_icmp .gt 16, 3) := by decide +kernel
theorem dX8_nights_11 : decode cX8_nights 11 = .ok (.iload_n 2, 1) := by decide +kernel
theorem dX8_nights_12 : decode cX8_nights 12 = .ok (.ifCond .lt 12, 3) := by decide +kernel
theorem dX8_nights_15 : decode cX8_nights 15 = .ok (.iload_n 3, 1) := by decide +kernel
theorem dX8_nights_16 : decode cX8_nights 16 = .ok (.ifCond .lt 8, 3) := by decide +kernel
theorem dX8_nights_19 : decode cX8_nights 19 = .ok (.iload_n 3, 1) := by decide +kernel
theorem dX8_nights_20 : decode cX8_nights 20 = .ok (.iconst 2, 1) := by decide +kernel
theorem dX8_nights_21 : decode cX8_nights 21 = .ok (.if_icmp .le 6, 3) := by decide +kernel
theorem dX8_nights_24 : decode cX8_nights 24 = .ok (.bipush (-102), 2) := by decide +kernel
theorem dX8_nights_26 : decode cX8_nights 26 = .ok (.ireturn, 1) := by decide +kernel
theorem dX8_nights_27 : decode cX8_nights 27 = .ok (.aload_n 0, 1) := by decide +kernel
theorem dX8_nights_28 : decode cX8_nights 28 = .ok (.invokevirtual 140, 3) := by decide +kernel
theorem dX8_nights_31 : decode cX8_nights 31 = .ok (.ifCond .ne 6, 3) := by decide +kernel
theorem dX8_nights_34 : decode cX8_nights 34 = .ok (.bipush (-103), 2) := by decide +kernel
theorem dX8_nights_36 : decode cX8_nights 36 = .ok (.ireturn, 1) := by decide +kernel
theorem dX8_nights_37 : decode cX8_nights 37 = .ok (.aload_n 0, 1) := by decide +kernel
theorem dX8_nights_38 : decode cX8_nights 38 = .ok (.iload_n 1, 1) := by decide +kernel
theorem dX8_nights_39 : decode cX8_nights 39 = .ok (.iload_n 2, 1) := by decide +kernel
theorem dX8_nights_40 : decode cX8_nights 40 = .ok (.invokevirtual 191, 3) := by decide +kernel
theorem dX8_nights_43 : decode cX8_nights 43 = .ok (.iload_n 3, 1) := by decide +kernel
theorem dX8_nights_44 : decode cX8_nights 44 = .ok (.ifCond .ne 14, 3) := by decide +kernel
theorem dX8_nights_47 : decode cX8_nights 47 = .ok (.aload_n 0, 1) := by decide +kernel
theorem dX8_nights_48 : decode cX8_nights 48 = .ok (.getfield 36, 3) := by decide +kernel
theorem dX8_nights_51 : decode cX8_nights 51 = .ok (.invokevirtual 195, 3) := by decide +kernel
theorem dX8_nights_54 : decode cX8_nights 54 = .ok (.invokestatic 135, 3) := by decide +kernel
theorem dX8_nights_57 : decode cX8_nights 57 = .ok (.ireturn, 1) := by decide +kernel
theorem dX8_nights_58 : decode cX8_nights 58 = .ok (.iload_n 3, 1) := by decide +kernel
theorem dX8_nights_59 : decode cX8_nights 59 = .ok (.iconst 1, 1) := by decide +kernel
theorem dX8_nights_60 : decode cX8_nights 60 = .ok (.if_icmp .ne 13, 3) := by decide +kernel
theorem dX8_nights_63 : decode cX8_nights 63 = .ok (.aload_n 0, 1) := by decide +kernel
theorem dX8_nights_64 : decode cX8_nights 64 = .ok (.getfield 36, 3) := by decide +kernel
theorem dX8_nights_67 : decode cX8_nights 67 = .ok (.getfield 159, 3) := by decide +kernel
theorem dX8_nights_70 : decode cX8_nights 70 = .ok (.goto 10, 3) := by decide +kernel
theorem dX8_nights_73 : decode cX8_nights 73 = .ok (.aload_n 0, 1) := by decide +kernel
theorem dX8_nights_74 : decode cX8_nights 74 = .ok (.getfield 63, 3) := by decide +kernel
theorem dX8_nights_77 : decode cX8_nights 77 = .ok (.getfield 198, 3) := by decide +kernel
theorem dX8_nights_80 : decode cX8_nights 80 = .ok (.ireturn, 1) := by decide +kernel
theorem dX8_image_0 : decode cX8_image 0 = .ok (.aload_n 0, 1) := by decide +kernel
theorem dX8_image_1 : decode cX8_image 1 = .ok (.invokevirtual 140, 3) := by decide +kernel
theorem dX8_image_4 : decode cX8_image 4 = .ok (.ifCond .ne 6, 3) := by decide +kernel
theorem dX8_image_7 : decode cX8_image 7 = .ok (.bipush (-103), 2) := by decide +kernel
theorem dX8_image_9 : decode cX8_image 9 = .ok (.ireturn, 1) := by decide +kernel
theorem dX8_image_10 : decode cX8_image 10 = .ok (.aload_n 0, 1) := by decide +kernel
theorem dX8_image_11 : decode cX8_image 11 = .ok (.getfield 30, 3) := by decide +kernel
theorem dX8_image_14 : decode cX8_image 14 = .ok (.aload_n 0, 1) := by decide +kernel
theorem dX8_image_15 : decode cX8_image 15 = .ok (.getfield 19, 3) := by decide +kernel
theorem dX8_image_18 : decode cX8_image 18 = .ok (.invokevirtual 172, 3) := by decide +kernel
theorem dX8_image_21 : decode cX8_image 21 = .ok (.aload_n 0, 1) := by decide +kernel
theorem dX8_image_22 : decode cX8_image 22 = .ok (.getfield 33, 3) := by decide +kernel
theorem dX8_image_25 : decode cX8_image 25 = .ok (.aload_n 0, 1) := by decide +kernel
theorem dX8_image_26 : decode cX8_image 26 = .ok (.getfield 26, 3) := by decide +kernel
theorem dX8_image_29 : decode cX8_image 29 = .ok (.invokevirtual 201, 3) := by decide +kernel
theorem dX8_image_32 : decode cX8_image 32 = .ok (.aload_n 0, 1) := by decide +kernel
theorem dX8_image_33 : decode cX8_image 33 = .ok (.iconst 1, 1) := by decide +kernel
theorem dX8_image_34 : decode cX8_image 34 = .ok (.putfield 91, 3) := by decide +kernel
theorem dX8_image_37 : decode cX8_image 37 = .ok (.aload_n 0, 1) := by decide +kernel
theorem dX8_image_38 : decode cX8_image 38 = .ok (.getfield 19, 3) := by decide +kernel
theorem dX8_image_41 : decode cX8_image 41 = .ok (.getfield 143, 3) := by decide +kernel
theorem dX8_image_44 : decode cX8_image 44 = .ok (.ireturn, 1) := by decide +kernel
theorem dX8_restore_0 : decode cX8_restore 0 = .ok (.aload_n 0, 1) := by decide +kernel
theorem dX8_restore_1 : decode cX8_restore 1 = .ok (.getfield 91, 3) := by decide +kernel
theorem dX8_restore_4 : decode cX8_restore 4 = .ok (.ifCond .ne 6, 3) := by decide +kernel
theorem dX8_restore_7 : decode cX8_restore 7 = .ok (.bipush (-103), 2) := by decide +kernel
theorem dX8_restore_9 : decode cX8_restore 9 = .ok (.ireturn, 1) := by decide +kernel
theorem dX8_restore_10 : decode cX8_restore 10 = .ok (.aload_n 0, 1) := by decide +kernel
theorem dX8_restore_11 : decode cX8_restore 11 = .ok (.getfield 19, 3) := by decide +kernel
theorem dX8_restore_14 : decode cX8_restore 14 = .ok (.aload_n 0, 1) := by decide +kernel
theorem dX8_restore_15 : decode cX8_restore 15 = .ok (.getfield 30, 3) := by decide +kernel
theorem dX8_restore_18 : decode cX8_restore 18 = .ok (.invokevirtual 172, 3) := by decide +kernel
theorem dX8_restore_21 : decode cX8_restore 21 = .ok (.aload_n 0, 1) := by decide +kernel
theorem dX8_restore_22 : decode cX8_restore 22 = .ok (.getfield 26, 3) := by decide +kernel
theorem dX8_restore_25 : decode cX8_restore 25 = .ok (.aload_n 0, 1) := by decide +kernel
theorem dX8_restore_26 : decode cX8_restore 26 = .ok (.getfield 33, 3) := by decide +kernel
theorem dX8_restore_29 : decode cX8_restore 29 = .ok (.invokevirtual 201, 3) := by decide +kernel
theorem dX8_restore_32 : decode cX8_restore 32 = .ok (.aload_n 0, 1) := by decide +kernel
theorem dX8_restore_33 : decode cX8_restore 33 = .ok (.getfield 19, 3) := by decide +kernel
theorem dX8_restore_36 : decode cX8_restore 36 = .ok (.getfield 143, 3) := by decide +kernel
theorem dX8_restore_39 : decode cX8_restore 39 = .ok (.ireturn, 1) := by decide +kernel
theorem dX8_count_0 : decode cX8_count 0 = .ok (.iload_n 1, 1) := by decide +kernel
theorem dX8_count_1 : decode cX8_count 1 = .ok (.tableswitch 152 0 9 #[55, 63, 74, 82, 90, 105, 120, 131, 139, 147], 55) := by decide +kernel
theorem dX8_count_56 : decode cX8_count 56 = .ok (.aload_n 0, 1) := by decide +kernel
theorem dX8_count_57 : decode cX8_count 57 = .ok (.getfield 19, 3) := by decide +kernel
theorem dX8_count_60 : decode cX8_count 60 = .ok (.getfield 98, 3) := by decide +kernel
theorem dX8_count_63 : decode cX8_count 63 = .ok (.ireturn, 1) := by decide +kernel
theorem dX8_count_64 : decode cX8_count 64 = .ok (.aload_n 0, 1) := by decide +kernel
theorem dX8_count_65 : decode cX8_count 65 = .ok (.getfield 19, 3) := by decide +kernel
theorem dX8_count_68 : decode cX8_count 68 = .ok (.getfield 129, 3) := by decide +kernel
theorem dX8_count_71 : decode cX8_count 71 = .ok (.invokestatic 135, 3) := by decide +kernel
theorem dX8_count_74 : decode cX8_count 74 = .ok (.ireturn, 1) := by decide +kernel
theorem dX8_count_75 : decode cX8_count 75 = .ok (.aload_n 0, 1) := by decide +kernel
theorem dX8_count_76 : decode cX8_count 76 = .ok (.getfield 19, 3) := by decide +kernel
theorem dX8_count_79 : decode cX8_count 79 = .ok (.getfield 159, 3) := by decide +kernel
theorem dX8_count_82 : decode cX8_count 82 = .ok (.ireturn, 1) := by decide +kernel
theorem dX8_count_83 : decode cX8_count 83 = .ok (.aload_n 0, 1) := by decide +kernel
theorem dX8_count_84 : decode cX8_count 84 = .ok (.getfield 19, 3) := by decide +kernel
theorem dX8_count_87 : decode cX8_count 87 = .ok (.getfield 143, 3) := by decide +kernel
theorem dX8_count_90 : decode cX8_count 90 = .ok (.ireturn, 1) := by decide +kernel
theorem dX8_count_91 : decode cX8_count 91 = .ok (.aload_n 0, 1) := by decide +kernel
theorem dX8_count_92 : decode cX8_count 92 = .ok (.getfield 19, 3) := by decide +kernel
theorem dX8_count_95 : decode cX8_count 95 = .ok (.aload_n 0, 1) := by decide +kernel
theorem dX8_count_96 : decode cX8_count 96 = .ok (.getfield 19, 3) := by decide +kernel
theorem dX8_count_99 : decode cX8_count 99 = .ok (.getfield 129, 3) := by decide +kernel
theorem dX8_count_102 : decode cX8_count 102 = .ok (.invokevirtual 204, 3) := by decide +kernel
theorem dX8_count_105 : decode cX8_count 105 = .ok (.ireturn, 1) := by decide +kernel
theorem dX8_count_106 : decode cX8_count 106 = .ok (.aload_n 0, 1) := by decide +kernel
theorem dX8_count_107 : decode cX8_count 107 = .ok (.getfield 19, 3) := by decide +kernel
theorem dX8_count_110 : decode cX8_count 110 = .ok (.aload_n 0, 1) := by decide +kernel
theorem dX8_count_111 : decode cX8_count 111 = .ok (.getfield 19, 3) := by decide +kernel
theorem dX8_count_114 : decode cX8_count 114 = .ok (.invokevirtual 195, 3) := by decide +kernel
theorem dX8_count_117 : decode cX8_count 117 = .ok (.invokevirtual 207, 3) := by decide +kernel
theorem dX8_count_120 : decode cX8_count 120 = .ok (.ireturn, 1) := by decide +kernel
theorem dX8_count_121 : decode cX8_count 121 = .ok (.aload_n 0, 1) := by decide +kernel
theorem dX8_count_122 : decode cX8_count 122 = .ok (.getfield 19, 3) := by decide +kernel
theorem dX8_count_125 : decode cX8_count 125 = .ok (.invokevirtual 210, 3) := by decide +kernel
theorem dX8_count_128 : decode cX8_count 128 = .ok (.invokestatic 135, 3) := by decide +kernel
theorem dX8_count_131 : decode cX8_count 131 = .ok (.ireturn, 1) := by decide +kernel
theorem dX8_count_132 : decode cX8_count 132 = .ok (.aload_n 0, 1) := by decide +kernel
theorem dX8_count_133 : decode cX8_count 133 = .ok (.getfield 26, 3) := by decide +kernel
theorem dX8_count_136 : decode cX8_count 136 = .ok (.getfield 184, 3) := by decide +kernel
theorem dX8_count_139 : decode cX8_count 139 = .ok (.ireturn, 1) := by decide +kernel
theorem dX8_count_140 : decode cX8_count 140 = .ok (.aload_n 0, 1) := by decide +kernel
theorem dX8_count_141 : decode cX8_count 141 = .ok (.getfield 10, 3) := by decide +kernel
theorem dX8_count_144 : decode cX8_count 144 = .ok (.getfield 67, 3) := by decide +kernel
theorem dX8_count_147 : decode cX8_count 147 = .ok (.ireturn, 1) := by decide +kernel
theorem dX8_count_148 : decode cX8_count 148 = .ok (.aload_n 0, 1) := by decide +kernel
theorem dX8_count_149 : decode cX8_count 149 = .ok (.getfield 95, 3) := by decide +kernel
theorem dX8_count_152 : decode cX8_count 152 = .ok (.ireturn, 1) := by decide +kernel
theorem dX8_count_153 : decode cX8_count 153 = .ok (.bipush (-102), 2) := by decide +kernel
theorem dX8_count_155 : decode cX8_count 155 = .ok (.ireturn, 1) := by decide +kernel
theorem dX8_digest_0 : decode cX8_digest 0 = .ok (.ldc2_w 213, 3) := by decide +kernel
theorem dX8_digest_3 : decode cX8_digest 3 = .ok (.lstore_n 1, 1) := by decide +kernel
theorem dX8_digest_4 : decode cX8_digest 4 = .ok (.aload_n 0, 1) := by decide +kernel
theorem dX8_digest_5 : decode cX8_digest 5 = .ok (.invokevirtual 140, 3) := by decide +kernel
theorem dX8_digest_8 : decode cX8_digest 8 = .ok (.ifCond .eq 43, 3) := by decide +kernel
theorem dX8_digest_11 : decode cX8_digest 11 = .ok (.aload_n 0, 1) := by decide +kernel
theorem dX8_digest_12 : decode cX8_digest 12 = .ok (.getfield 56, 3) := by decide +kernel
theorem dX8_digest_15 : decode cX8_digest 15 = .ok (.aload_n 0, 1) := by decide +kernel
theorem dX8_digest_16 : decode cX8_digest 16 = .ok (.getfield 19, 3) := by decide +kernel
theorem dX8_digest_19 : decode cX8_digest 19 = .ok (.invokevirtual 105, 3) := by decide +kernel
theorem dX8_digest_22 : decode cX8_digest 22 = .ok (.aload_n 0, 1) := by decide +kernel
theorem dX8_digest_23 : decode cX8_digest 23 = .ok (.getfield 42, 3) := by decide +kernel
theorem dX8_digest_26 : decode cX8_digest 26 = .ok (.aload_n 0, 1) := by decide +kernel
theorem dX8_digest_27 : decode cX8_digest 27 = .ok (.getfield 19, 3) := by decide +kernel
theorem dX8_digest_30 : decode cX8_digest 30 = .ok (.invokevirtual 165, 3) := by decide +kernel
theorem dX8_digest_33 : decode cX8_digest 33 = .ok (.aload_n 0, 1) := by decide +kernel
theorem dX8_digest_34 : decode cX8_digest 34 = .ok (.lload_n 1, 1) := by decide +kernel
theorem dX8_digest_35 : decode cX8_digest 35 = .ok (.invokevirtual 215, 3) := by decide +kernel
theorem dX8_digest_38 : decode cX8_digest 38 = .ok (.lstore_n 1, 1) := by decide +kernel
theorem dX8_digest_39 : decode cX8_digest 39 = .ok (.aload_n 0, 1) := by decide +kernel
theorem dX8_digest_40 : decode cX8_digest 40 = .ok (.lload_n 1, 1) := by decide +kernel
theorem dX8_digest_41 : decode cX8_digest 41 = .ok (.invokevirtual 219, 3) := by decide +kernel
theorem dX8_digest_44 : decode cX8_digest 44 = .ok (.lstore_n 1, 1) := by decide +kernel
theorem dX8_digest_45 : decode cX8_digest 45 = .ok (.aload_n 0, 1) := by decide +kernel
theorem dX8_digest_46 : decode cX8_digest 46 = .ok (.lload_n 1, 1) := by decide +kernel
theorem dX8_digest_47 : decode cX8_digest 47 = .ok (.invokevirtual 222, 3) := by decide +kernel
theorem dX8_digest_50 : decode cX8_digest 50 = .ok (.lstore_n 1, 1) := by decide +kernel
theorem dX8_digest_51 : decode cX8_digest 51 = .ok (.iconst 0, 1) := by decide +kernel
theorem dX8_digest_52 : decode cX8_digest 52 = .ok (.istore_n 3, 1) := by decide +kernel
theorem dX8_digest_53 : decode cX8_digest 53 = .ok (.iload_n 3, 1) := by decide +kernel
theorem dX8_digest_54 : decode cX8_digest 54 = .ok (.aload_n 0, 1) := by decide +kernel
theorem dX8_digest_55 : decode cX8_digest 55 = .ok (.getfield 10, 3) := by decide +kernel
theorem dX8_digest_58 : decode cX8_digest 58 = .ok (.getfield 67, 3) := by decide +kernel
theorem dX8_digest_61 : decode cX8_digest 61 = .ok (.if_icmp .ge 23, 3) := by decide +kernel
theorem dX8_digest_64 : decode cX8_digest 64 = .ok (.lload_n 1, 1) := by decide +kernel
theorem dX8_digest_65 : decode cX8_digest 65 = .ok (.aload_n 0, 1) := by decide +kernel
theorem dX8_digest_66 : decode cX8_digest 66 = .ok (.getfield 10, 3) := by decide +kernel
theorem dX8_digest_69 : decode cX8_digest 69 = .ok (.iload_n 3, 1) := by decide +kernel
theorem dX8_digest_70 : decode cX8_digest 70 = .ok (.invokevirtual 225, 3) := by decide +kernel
theorem dX8_digest_73 : decode cX8_digest 73 = .ok (.i2l, 1) := by decide +kernel
theorem dX8_digest_74 : decode cX8_digest 74 = .ok (.invokestatic 228, 3) := by decide +kernel
theorem dX8_digest_77 : decode cX8_digest 77 = .ok (.lstore_n 1, 1) := by decide +kernel
theorem dX8_digest_78 : decode cX8_digest 78 = .ok (.iinc 3 1, 3) := by decide +kernel
theorem dX8_digest_81 : decode cX8_digest 81 = .ok (.goto (-28), 3) := by decide +kernel
theorem dX8_digest_84 : decode cX8_digest 84 = .ok (.iconst 0, 1) := by decide +kernel
theorem dX8_digest_85 : decode cX8_digest 85 = .ok (.istore_n 3, 1) := by decide +kernel
theorem dX8_digest_86 : decode cX8_digest 86 = .ok (.iload_n 3, 1) := by decide +kernel
theorem dX8_digest_87 : decode cX8_digest 87 = .ok (.bipush 9, 2) := by decide +kernel
theorem dX8_digest_89 : decode cX8_digest 89 = .ok (.if_icmp .gt 20, 3) := by decide +kernel
theorem dX8_digest_92 : decode cX8_digest 92 = .ok (.lload_n 1, 1) := by decide +kernel
theorem dX8_digest_93 : decode cX8_digest 93 = .ok (.aload_n 0, 1) := by decide +kernel
theorem dX8_digest_94 : decode cX8_digest 94 = .ok (.iload_n 3, 1) := by decide +kernel
theorem dX8_digest_95 : decode cX8_digest 95 = .ok (.invokevirtual 232, 3) := by decide +kernel
theorem dX8_digest_98 : decode cX8_digest 98 = .ok (.i2l, 1) := by decide +kernel
theorem dX8_digest_99 : decode cX8_digest 99 = .ok (.invokestatic 228, 3) := by decide +kernel
theorem dX8_digest_102 : decode cX8_digest 102 = .ok (.lstore_n 1, 1) := by decide +kernel
theorem dX8_digest_103 : decode cX8_digest 103 = .ok (.iinc 3 1, 3) := by decide +kernel
theorem dX8_digest_106 : decode cX8_digest 106 = .ok (.goto (-20), 3) := by decide +kernel
theorem dX8_digest_109 : decode cX8_digest 109 = .ok (.lload_n 1, 1) := by decide +kernel
theorem dX8_digest_110 : decode cX8_digest 110 = .ok (.lreturn, 1) := by decide +kernel
theorem dX8_hasParty_0 : decode cX8_hasParty 0 = .ok (.aload_n 0, 1) := by decide +kernel
theorem dX8_hasParty_1 : decode cX8_hasParty 1 = .ok (.getfield 19, 3) := by decide +kernel
theorem dX8_hasParty_4 : decode cX8_hasParty 4 = .ok (.getfield 98, 3) := by decide +kernel
theorem dX8_hasParty_7 : decode cX8_hasParty 7 = .ok (.ifCond .le 7, 3) := by decide +kernel
theorem dX8_hasParty_10 : decode cX8_hasParty 10 = .ok (.iconst 1, 1) := by decide +kernel
theorem dX8_hasParty_11 : decode cX8_hasParty 11 = .ok (.goto 4, 3) := by decide +kernel
theorem dX8_hasParty_14 : decode cX8_hasParty 14 = .ok (.iconst 0, 1) := by decide +kernel
theorem dX8_hasParty_15 : decode cX8_hasParty 15 = .ok (.ireturn, 1) := by decide +kernel
theorem dX8_tellOfGuest_0 : decode cX8_tellOfGuest 0 = .ok (.iload_n 2, 1) := by decide +kernel
theorem dX8_tellOfGuest_1 : decode cX8_tellOfGuest 1 = .ok (.tableswitch 164 0 7 #[47, 57, 67, 77, 94, 103, 116, 134], 47) := by decide +kernel
theorem dX8_tellOfGuest_48 : decode cX8_tellOfGuest 48 = .ok (.aload_n 0, 1) := by decide +kernel
theorem dX8_tellOfGuest_49 : decode cX8_tellOfGuest 49 = .ok (.getfield 19, 3) := by decide +kernel
theorem dX8_tellOfGuest_52 : decode cX8_tellOfGuest 52 = .ok (.getfield 118, 3) := by decide +kernel
theorem dX8_tellOfGuest_55 : decode cX8_tellOfGuest 55 = .ok (.iload_n 1, 1) := by decide +kernel
theorem dX8_tellOfGuest_56 : decode cX8_tellOfGuest 56 = .ok (.iaload, 1) := by decide +kernel
theorem dX8_tellOfGuest_57 : decode cX8_tellOfGuest 57 = .ok (.ireturn, 1) := by decide +kernel
theorem dX8_tellOfGuest_58 : decode cX8_tellOfGuest 58 = .ok (.aload_n 0, 1) := by decide +kernel
theorem dX8_tellOfGuest_59 : decode cX8_tellOfGuest 59 = .ok (.getfield 19, 3) := by decide +kernel
theorem dX8_tellOfGuest_62 : decode cX8_tellOfGuest 62 = .ok (.getfield 156, 3) := by decide +kernel
theorem dX8_tellOfGuest_65 : decode cX8_tellOfGuest 65 = .ok (.iload_n 1, 1) := by decide +kernel
theorem dX8_tellOfGuest_66 : decode cX8_tellOfGuest 66 = .ok (.iaload, 1) := by decide +kernel
theorem dX8_tellOfGuest_67 : decode cX8_tellOfGuest 67 = .ok (.ireturn, 1) := by decide +kernel
theorem dX8_tellOfGuest_68 : decode cX8_tellOfGuest 68 = .ok (.aload_n 0, 1) := by decide +kernel
theorem dX8_tellOfGuest_69 : decode cX8_tellOfGuest 69 = .ok (.getfield 19, 3) := by decide +kernel
theorem dX8_tellOfGuest_72 : decode cX8_tellOfGuest 72 = .ok (.getfield 235, 3) := by decide +kernel
theorem dX8_tellOfGuest_75 : decode cX8_tellOfGuest 75 = .ok (.iload_n 1, 1) := by decide +kernel
theorem dX8_tellOfGuest_76 : decode cX8_tellOfGuest 76 = .ok (.iaload, 1) := by decide +kernel
theorem dX8_tellOfGuest_77 : decode cX8_tellOfGuest 77 = .ok (.ireturn, 1) := by decide +kernel
theorem dX8_tellOfGuest_78 : decode cX8_tellOfGuest 78 = .ok (.aload_n 0, 1) := by decide +kernel
theorem dX8_tellOfGuest_79 : decode cX8_tellOfGuest 79 = .ok (.getfield 19, 3) := by decide +kernel
theorem dX8_tellOfGuest_82 : decode cX8_tellOfGuest 82 = .ok (.iload_n 1, 1) := by decide +kernel
theorem dX8_tellOfGuest_83 : decode cX8_tellOfGuest 83 = .ok (.invokevirtual 149, 3) := by decide +kernel
theorem dX8_tellOfGuest_86 : decode cX8_tellOfGuest 86 = .ok (.ifCond .eq 7, 3) := by decide +kernel
theorem dX8_tellOfGuest_89 : decode cX8_tellOfGuest 89 = .ok (.iconst 1, 1) := by decide +kernel
theorem dX8_tellOfGuest_90 : decode cX8_tellOfGuest 90 = .ok (.goto 4, 3) := by decide +kernel
theorem dX8_tellOfGuest_93 : decode cX8_tellOfGuest 93 = .ok (.iconst 0, 1) := by decide +kernel
theorem dX8_tellOfGuest_94 : decode cX8_tellOfGuest 94 = .ok (.ireturn, 1) := by decide +kernel
theorem dX8_tellOfGuest_95 : decode cX8_tellOfGuest 95 = .ok (.aload_n 0, 1) := by decide +kernel
theorem dX8_tellOfGuest_96 : decode cX8_tellOfGuest 96 = .ok (.getfield 19, 3) := by decide +kernel
theorem dX8_tellOfGuest_99 : decode cX8_tellOfGuest 99 = .ok (.iload_n 1, 1) := by decide +kernel
theorem dX8_tellOfGuest_100 : decode cX8_tellOfGuest 100 = .ok (.invokevirtual 238, 3) := by decide +kernel
theorem dX8_tellOfGuest_103 : decode cX8_tellOfGuest 103 = .ok (.ireturn, 1) := by decide +kernel
theorem dX8_tellOfGuest_104 : decode cX8_tellOfGuest 104 = .ok (.aload_n 0, 1) := by decide +kernel
theorem dX8_tellOfGuest_105 : decode cX8_tellOfGuest 105 = .ok (.getfield 19, 3) := by decide +kernel
theorem dX8_tellOfGuest_108 : decode cX8_tellOfGuest 108 = .ok (.getfield 118, 3) := by decide +kernel
theorem dX8_tellOfGuest_111 : decode cX8_tellOfGuest 111 = .ok (.iload_n 1, 1) := by decide +kernel
theorem dX8_tellOfGuest_112 : decode cX8_tellOfGuest 112 = .ok (.iaload, 1) := by decide +kernel
theorem dX8_tellOfGuest_113 : decode cX8_tellOfGuest 113 = .ok (.invokestatic 241, 3) := by decide +kernel
theorem dX8_tellOfGuest_116 : decode cX8_tellOfGuest 116 = .ok (.ireturn, 1) := by decide +kernel
theorem dX8_tellOfGuest_117 : decode cX8_tellOfGuest 117 = .ok (.aload_n 0, 1) := by decide +kernel
theorem dX8_tellOfGuest_118 : decode cX8_tellOfGuest 118 = .ok (.getfield 26, 3) := by decide +kernel
theorem dX8_tellOfGuest_121 : decode cX8_tellOfGuest 121 = .ok (.iload_n 1, 1) := by decide +kernel
theorem dX8_tellOfGuest_122 : decode cX8_tellOfGuest 122 = .ok (.aload_n 0, 1) := by decide +kernel
theorem dX8_tellOfGuest_123 : decode cX8_tellOfGuest 123 = .ok (.getfield 19, 3) := by decide +kernel
theorem dX8_tellOfGuest_126 : decode cX8_tellOfGuest 126 = .ok (.getfield 118, 3) := by decide +kernel
theorem dX8_tellOfGuest_129 : decode cX8_tellOfGuest 129 = .ok (.iload_n 1, 1) := by decide +kernel
theorem dX8_tellOfGuest_130 : decode cX8_tellOfGuest 130 = .ok (.iaload, 1) := by decide +kernel
theorem dX8_tellOfGuest_131 : decode cX8_tellOfGuest 131 = .ok (.invokevirtual 244, 3) := by decide +kernel
theorem dX8_tellOfGuest_134 : decode cX8_tellOfGuest 134 = .ok (.ireturn, 1) := by decide +kernel
theorem dX8_tellOfGuest_135 : decode cX8_tellOfGuest 135 = .ok (.aload_n 0, 1) := by decide +kernel
theorem dX8_tellOfGuest_136 : decode cX8_tellOfGuest 136 = .ok (.getfield 19, 3) := by decide +kernel
theorem dX8_tellOfGuest_139 : decode cX8_tellOfGuest 139 = .ok (.getfield 118, 3) := by decide +kernel
theorem dX8_tellOfGuest_142 : decode cX8_tellOfGuest 142 = .ok (.iload_n 1, 1) := by decide +kernel
theorem dX8_tellOfGuest_143 : decode cX8_tellOfGuest 143 = .ok (.iaload, 1) := by decide +kernel
theorem dX8_tellOfGuest_144 : decode cX8_tellOfGuest 144 = .ok (.aload_n 0, 1) := by decide +kernel
theorem dX8_tellOfGuest_145 : decode cX8_tellOfGuest 145 = .ok (.getfield 26, 3) := by decide +kernel
theorem dX8_tellOfGuest_148 : decode cX8_tellOfGuest 148 = .ok (.iload_n 1, 1) := by decide +kernel
theorem dX8_tellOfGuest_149 : decode cX8_tellOfGuest 149 = .ok (.aload_n 0, 1) := by decide +kernel
theorem dX8_tellOfGuest_150 : decode cX8_tellOfGuest 150 = .ok (.getfield 19, 3) := by decide +kernel
theorem dX8_tellOfGuest_153 : decode cX8_tellOfGuest 153 = .ok (.getfield 118, 3) := by decide +kernel
theorem dX8_tellOfGuest_156 : decode cX8_tellOfGuest 156 = .ok (.iload_n 1, 1) := by decide +kernel
theorem dX8_tellOfGuest_157 : decode cX8_tellOfGuest 157 = .ok (.iaload, 1) := by decide +kernel
theorem dX8_tellOfGuest_158 : decode cX8_tellOfGuest 158 = .ok (.invokevirtual 244, 3) := by decide +kernel
theorem dX8_tellOfGuest_161 : decode cX8_tellOfGuest 161 = .ok (.invokestatic 247, 3) := by decide +kernel
theorem dX8_tellOfGuest_164 : decode cX8_tellOfGuest 164 = .ok (.ireturn, 1) := by decide +kernel
theorem dX8_tellOfGuest_165 : decode cX8_tellOfGuest 165 = .ok (.aload_n 0, 1) := by decide +kernel
theorem dX8_tellOfGuest_166 : decode cX8_tellOfGuest 166 = .ok (.getfield 56, 3) := by decide +kernel
theorem dX8_tellOfGuest_169 : decode cX8_tellOfGuest 169 = .ok (.getfield 250, 3) := by decide +kernel
theorem dX8_tellOfGuest_172 : decode cX8_tellOfGuest 172 = .ok (.iload_n 1, 1) := by decide +kernel
theorem dX8_tellOfGuest_173 : decode cX8_tellOfGuest 173 = .ok (.iaload, 1) := by decide +kernel
theorem dX8_tellOfGuest_174 : decode cX8_tellOfGuest 174 = .ok (.ireturn, 1) := by decide +kernel
theorem dX8_whoShouldBePale_0 : decode cX8_whoShouldBePale 0 = .ok (.aload_n 0, 1) := by decide +kernel
theorem dX8_whoShouldBePale_1 : decode cX8_whoShouldBePale 1 = .ok (.getfield 19, 3) := by decide +kernel
theorem dX8_whoShouldBePale_4 : decode cX8_whoShouldBePale 4 = .ok (.getfield 129, 3) := by decide +kernel
theorem dX8_whoShouldBePale_7 : decode cX8_whoShouldBePale 7 = .ok (.aload_n 0, 1) := by decide +kernel
theorem dX8_whoShouldBePale_8 : decode cX8_whoShouldBePale 8 = .ok (.getfield 19, 3) := by decide +kernel
theorem dX8_whoShouldBePale_11 : decode cX8_whoShouldBePale 11 = .ok (.aload_n 0, 1) := by decide +kernel
theorem dX8_whoShouldBePale_12 : decode cX8_whoShouldBePale 12 = .ok (.getfield 19, 3) := by decide +kernel
theorem dX8_whoShouldBePale_15 : decode cX8_whoShouldBePale 15 = .ok (.getfield 129, 3) := by decide +kernel
theorem dX8_whoShouldBePale_18 : decode cX8_whoShouldBePale 18 = .ok (.invokevirtual 132, 3) := by decide +kernel
theorem dX8_whoShouldBePale_21 : decode cX8_whoShouldBePale 21 = .ok (.iconst (-1), 1) := by decide +kernel
theorem dX8_whoShouldBePale_22 : decode cX8_whoShouldBePale 22 = .ok (.ixor, 1) := by decide +kernel
theorem dX8_whoShouldBePale_23 : decode cX8_whoShouldBePale 23 = .ok (.iand, 1) := by decide +kernel
theorem dX8_whoShouldBePale_24 : decode cX8_whoShouldBePale 24 = .ok (.ireturn, 1) := by decide +kernel
theorem dX8_tryNights_0 : decode cX8_tryNights 0 = .ok (.aload_n 0, 1) := by decide +kernel
theorem dX8_tryNights_1 : decode cX8_tryNights 1 = .ok (.getfield 36, 3) := by decide +kernel
theorem dX8_tryNights_4 : decode cX8_tryNights 4 = .ok (.aload_n 0, 1) := by decide +kernel
theorem dX8_tryNights_5 : decode cX8_tryNights 5 = .ok (.getfield 19, 3) := by decide +kernel
theorem dX8_tryNights_8 : decode cX8_tryNights 8 = .ok (.invokevirtual 172, 3) := by decide +kernel
theorem dX8_tryNights_11 : decode cX8_tryNights 11 = .ok (.aload_n 0, 1) := by decide +kernel
theorem dX8_tryNights_12 : decode cX8_tryNights 12 = .ok (.getfield 63, 3) := by decide +kernel
theorem dX8_tryNights_15 : decode cX8_tryNights 15 = .ok (.iload_n 2, 1) := by decide +kernel
theorem dX8_tryNights_16 : decode cX8_tryNights 16 = .ok (.putfield 198, 3) := by decide +kernel
theorem dX8_tryNights_19 : decode cX8_tryNights 19 = .ok (.iconst 0, 1) := by decide +kernel
theorem dX8_tryNights_20 : decode cX8_tryNights 20 = .ok (.istore_n 3, 1) := by decide +kernel
theorem dX8_tryNights_21 : decode cX8_tryNights 21 = .ok (.iload_n 3, 1) := by decide +kernel
theorem dX8_tryNights_22 : decode cX8_tryNights 22 = .ok (.iload_n 1, 1) := by decide +kernel
theorem dX8_tryNights_23 : decode cX8_tryNights 23 = .ok (.if_icmp .ge 68, 3) := by decide +kernel
theorem dX8_tryNights_26 : decode cX8_tryNights 26 = .ok (.aload_n 0, 1) := by decide +kernel
theorem dX8_tryNights_27 : decode cX8_tryNights 27 = .ok (.getfield 63, 3) := by decide +kernel
theorem dX8_tryNights_30 : decode cX8_tryNights 30 = .ok (.iconst 3, 1) := by decide +kernel
theorem dX8_tryNights_31 : decode cX8_tryNights 31 = .ok (.invokevirtual 253, 3) := by decide +kernel
theorem dX8_tryNights_34 : decode cX8_tryNights 34 = .ok (.ifCond .ne 43, 3) := by decide +kernel
theorem dX8_tryNights_37 : decode cX8_tryNights 37 = .ok (.aload_n 0, 1) := by decide +kernel
theorem dX8_tryNights_38 : decode cX8_tryNights 38 = .ok (.getfield 63, 3) := by decide +kernel
theorem dX8_tryNights_41 : decode cX8_tryNights 41 = .ok (.aload_n 0, 1) := by decide +kernel
theorem dX8_tryNights_42 : decode cX8_tryNights 42 = .ok (.getfield 36, 3) := by decide +kernel
theorem dX8_tryNights_45 : decode cX8_tryNights 45 = .ok (.getfield 98, 3) := by decide +kernel
theorem dX8_tryNights_48 : decode cX8_tryNights 48 = .ok (.invokevirtual 253, 3) := by decide +kernel
theorem dX8_tryNights_51 : decode cX8_tryNights 51 = .ok (.istore 4, 2) := by decide +kernel
theorem dX8_tryNights_53 : decode cX8_tryNights 53 = .ok (.aload_n 0, 1) := by decide +kernel
theorem dX8_tryNights_54 : decode cX8_tryNights 54 = .ok (.getfield 36, 3) := by decide +kernel
theorem dX8_tryNights_57 : decode cX8_tryNights 57 = .ok (.iload 4, 2) := by decide +kernel
theorem dX8_tryNights_59 : decode cX8_tryNights 59 = .ok (.invokevirtual 149, 3) := by decide +kernel
theorem dX8_tryNights_62 : decode cX8_tryNights 62 = .ok (.ifCond .eq 12, 3) := by decide +kernel
theorem dX8_tryNights_65 : decode cX8_tryNights 65 = .ok (.aload_n 0, 1) := by decide +kernel
theorem dX8_tryNights_66 : decode cX8_tryNights 66 = .ok (.getfield 36, 3) := by decide +kernel
theorem dX8_tryNights_69 : decode cX8_tryNights 69 = .ok (.iload 4, 2) := by decide +kernel
theorem dX8_tryNights_71 : decode cX8_tryNights 71 = .ok (.invokevirtual 152, 3) := by decide +kernel
theorem dX8_tryNights_74 : decode cX8_tryNights 74 = .ok (.goto 11, 3) := by decide +kernel
theorem dX8_tryNights_77 : decode cX8_tryNights 77 = .ok (.aload_n 0, 1) := by decide +kernel
theorem dX8_tryNights_78 : decode cX8_tryNights 78 = .ok (.getfield 36, 3) := by decide +kernel
theorem dX8_tryNights_81 : decode cX8_tryNights 81 = .ok (.invokevirtual 146, 3) := by decide +kernel
theorem dX8_tryNights_84 : decode cX8_tryNights 84 = .ok (.pop, 1) := by decide +kernel
theorem dX8_tryNights_85 : decode cX8_tryNights 85 = .ok (.iinc 3 1, 3) := by decide +kernel
theorem dX8_tryNights_88 : decode cX8_tryNights 88 = .ok (.goto (-67), 3) := by decide +kernel
theorem dX8_tryNights_91 : decode cX8_tryNights 91 = .ok (.return_, 1) := by decide +kernel
theorem dX8_mixGuests_0 : decode cX8_mixGuests 0 = .ok (.lload_n 1, 1) := by decide +kernel
theorem dX8_mixGuests_1 : decode cX8_mixGuests 1 = .ok (.lstore_n 3, 1) := by decide +kernel
theorem dX8_mixGuests_2 : decode cX8_mixGuests 2 = .ok (.iconst 0, 1) := by decide +kernel
theorem dX8_mixGuests_3 : decode cX8_mixGuests 3 = .ok (.istore 5, 2) := by decide +kernel
theorem dX8_mixGuests_5 : decode cX8_mixGuests 5 = .ok (.iload 5, 2) := by decide +kernel
theorem dX8_mixGuests_7 : decode cX8_mixGuests 7 = .ok (.aload_n 0, 1) := by decide +kernel
theorem dX8_mixGuests_8 : decode cX8_mixGuests 8 = .ok (.getfield 19, 3) := by decide +kernel
theorem dX8_mixGuests_11 : decode cX8_mixGuests 11 = .ok (.getfield 98, 3) := by decide +kernel
theorem dX8_mixGuests_14 : decode cX8_mixGuests 14 = .ok (.if_icmp .ge 39, 3) := by decide +kernel
theorem dX8_mixGuests_17 : decode cX8_mixGuests 17 = .ok (.iconst 0, 1) := by decide +kernel
theorem dX8_mixGuests_18 : decode cX8_mixGuests 18 = .ok (.istore 6, 2) := by decide +kernel
theorem dX8_mixGuests_20 : decode cX8_mixGuests 20 = .ok (.iload 6, 2) := by decide +kernel
theorem dX8_mixGuests_22 : decode cX8_mixGuests 22 = .ok (.bipush 8, 2) := by decide +kernel
theorem dX8_mixGuests_24 : decode cX8_mixGuests 24 = .ok (.if_icmp .gt 23, 3) := by decide +kernel
theorem dX8_mixGuests_27 : decode cX8_mixGuests 27 = .ok (.lload_n 3, 1) := by decide +kernel
theorem dX8_mixGuests_28 : decode cX8_mixGuests 28 = .ok (.aload_n 0, 1) := by decide +kernel
theorem dX8_mixGuests_29 : decode cX8_mixGuests 29 = .ok (.iload 5, 2) := by decide +kernel
theorem dX8_mixGuests_31 : decode cX8_mixGuests 31 = .ok (.iload 6, 2) := by decide +kernel
theorem dX8_mixGuests_33 : decode cX8_mixGuests 33 = .ok (.invokevirtual 109, 3) := by decide +kernel
theorem dX8_mixGuests_36 : decode cX8_mixGuests 36 = .ok (.i2l, 1) := by decide +kernel
theorem dX8_mixGuests_37 : decode cX8_mixGuests 37 = .ok (.invokestatic 228, 3) := by decide +kernel
theorem dX8_mixGuests_40 : decode cX8_mixGuests 40 = .ok (.lstore_n 3, 1) := by decide +kernel
theorem dX8_mixGuests_41 : decode cX8_mixGuests 41 = .ok (.iinc 6 1, 3) := by decide +kernel
theorem dX8_mixGuests_44 : decode cX8_mixGuests 44 = .ok (.goto (-24), 3) := by decide +kernel
theorem dX8_mixGuests_47 : decode cX8_mixGuests 47 = .ok (.iinc 5 1, 3) := by decide +kernel
theorem dX8_mixGuests_50 : decode cX8_mixGuests 50 = .ok (.goto (-45), 3) := by decide +kernel
theorem dX8_mixGuests_53 : decode cX8_mixGuests 53 = .ok (.lload_n 3, 1) := by decide +kernel
theorem dX8_mixGuests_54 : decode cX8_mixGuests 54 = .ok (.lreturn, 1) := by decide +kernel
theorem dX8_mixWouldBe_0 : decode cX8_mixWouldBe 0 = .ok (.lload_n 1, 1) := by decide +kernel
theorem dX8_mixWouldBe_1 : decode cX8_mixWouldBe 1 = .ok (.aload_n 0, 1) := by decide +kernel
theorem dX8_mixWouldBe_2 : decode cX8_mixWouldBe 2 = .ok (.invokevirtual 256, 3) := by decide +kernel
theorem dX8_mixWouldBe_5 : decode cX8_mixWouldBe 5 = .ok (.i2l, 1) := by decide +kernel
theorem dX8_mixWouldBe_6 : decode cX8_mixWouldBe 6 = .ok (.invokestatic 228, 3) := by decide +kernel
theorem dX8_mixWouldBe_9 : decode cX8_mixWouldBe 9 = .ok (.lstore_n 3, 1) := by decide +kernel
theorem dX8_mixWouldBe_10 : decode cX8_mixWouldBe 10 = .ok (.lload_n 3, 1) := by decide +kernel
theorem dX8_mixWouldBe_11 : decode cX8_mixWouldBe 11 = .ok (.aload_n 0, 1) := by decide +kernel
theorem dX8_mixWouldBe_12 : decode cX8_mixWouldBe 12 = .ok (.getfield 42, 3) := by decide +kernel
theorem dX8_mixWouldBe_15 : decode cX8_mixWouldBe 15 = .ok (.invokevirtual 166, 3) := by decide +kernel
theorem dX8_mixWouldBe_18 : decode cX8_mixWouldBe 18 = .ok (.i2l, 1) := by decide +kernel
theorem dX8_mixWouldBe_19 : decode cX8_mixWouldBe 19 = .ok (.invokestatic 228, 3) := by decide +kernel
theorem dX8_mixWouldBe_22 : decode cX8_mixWouldBe 22 = .ok (.lstore_n 3, 1) := by decide +kernel
theorem dX8_mixWouldBe_23 : decode cX8_mixWouldBe 23 = .ok (.lload_n 3, 1) := by decide +kernel
theorem dX8_mixWouldBe_24 : decode cX8_mixWouldBe 24 = .ok (.aload_n 0, 1) := by decide +kernel
theorem dX8_mixWouldBe_25 : decode cX8_mixWouldBe 25 = .ok (.iconst 0, 1) := by decide +kernel
theorem dX8_mixWouldBe_26 : decode cX8_mixWouldBe 26 = .ok (.invokevirtual 259, 3) := by decide +kernel
theorem dX8_mixWouldBe_29 : decode cX8_mixWouldBe 29 = .ok (.i2l, 1) := by decide +kernel
theorem dX8_mixWouldBe_30 : decode cX8_mixWouldBe 30 = .ok (.invokestatic 228, 3) := by decide +kernel
theorem dX8_mixWouldBe_33 : decode cX8_mixWouldBe 33 = .ok (.lstore_n 3, 1) := by decide +kernel
theorem dX8_mixWouldBe_34 : decode cX8_mixWouldBe 34 = .ok (.lload_n 3, 1) := by decide +kernel
theorem dX8_mixWouldBe_35 : decode cX8_mixWouldBe 35 = .ok (.aload_n 0, 1) := by decide +kernel
theorem dX8_mixWouldBe_36 : decode cX8_mixWouldBe 36 = .ok (.iconst 1, 1) := by decide +kernel
theorem dX8_mixWouldBe_37 : decode cX8_mixWouldBe 37 = .ok (.invokevirtual 259, 3) := by decide +kernel
theorem dX8_mixWouldBe_40 : decode cX8_mixWouldBe 40 = .ok (.i2l, 1) := by decide +kernel
theorem dX8_mixWouldBe_41 : decode cX8_mixWouldBe 41 = .ok (.invokestatic 228, 3) := by decide +kernel
theorem dX8_mixWouldBe_44 : decode cX8_mixWouldBe 44 = .ok (.lstore_n 3, 1) := by decide +kernel
theorem dX8_mixWouldBe_45 : decode cX8_mixWouldBe 45 = .ok (.lload_n 3, 1) := by decide +kernel
theorem dX8_mixWouldBe_46 : decode cX8_mixWouldBe 46 = .ok (.aload_n 0, 1) := by decide +kernel
theorem dX8_mixWouldBe_47 : decode cX8_mixWouldBe 47 = .ok (.invokevirtual 262, 3) := by decide +kernel
theorem dX8_mixWouldBe_50 : decode cX8_mixWouldBe 50 = .ok (.i2l, 1) := by decide +kernel
theorem dX8_mixWouldBe_51 : decode cX8_mixWouldBe 51 = .ok (.invokestatic 228, 3) := by decide +kernel
theorem dX8_mixWouldBe_54 : decode cX8_mixWouldBe 54 = .ok (.lreturn, 1) := by decide +kernel
theorem dX8_mixOdds_0 : decode cX8_mixOdds 0 = .ok (.lload_n 1, 1) := by decide +kernel
theorem dX8_mixOdds_1 : decode cX8_mixOdds 1 = .ok (.lstore_n 3, 1) := by decide +kernel
theorem dX8_mixOdds_2 : decode cX8_mixOdds 2 = .ok (.iconst 0, 1) := by decide +kernel
theorem dX8_mixOdds_3 : decode cX8_mixOdds 3 = .ok (.istore 5, 2) := by decide +kernel
theorem dX8_mixOdds_5 : decode cX8_mixOdds 5 = .ok (.iload 5, 2) := by decide +kernel
theorem dX8_mixOdds_7 : decode cX8_mixOdds 7 = .ok (.aload_n 0, 1) := by decide +kernel
theorem dX8_mixOdds_8 : decode cX8_mixOdds 8 = .ok (.getfield 19, 3) := by decide +kernel
theorem dX8_mixOdds_11 : decode cX8_mixOdds 11 = .ok (.getfield 98, 3) := by decide +kernel
theorem dX8_mixOdds_14 : decode cX8_mixOdds 14 = .ok (.if_icmp .ge 61, 3) := by decide +kernel
theorem dX8_mixOdds_17 : decode cX8_mixOdds 17 = .ok (.aload_n 0, 1) := by decide +kernel
theorem dX8_mixOdds_18 : decode cX8_mixOdds 18 = .ok (.getfield 19, 3) := by decide +kernel
theorem dX8_mixOdds_21 : decode cX8_mixOdds 21 = .ok (.iload 5, 2) := by decide +kernel
theorem dX8_mixOdds_23 : decode cX8_mixOdds 23 = .ok (.invokevirtual 149, 3) := by decide +kernel
theorem dX8_mixOdds_26 : decode cX8_mixOdds 26 = .ok (.ifCond .eq 43, 3) := by decide +kernel
theorem dX8_mixOdds_29 : decode cX8_mixOdds 29 = .ok (.aload_n 0, 1) := by decide +kernel
theorem dX8_mixOdds_30 : decode cX8_mixOdds 30 = .ok (.getfield 49, 3) := by decide +kernel
theorem dX8_mixOdds_33 : decode cX8_mixOdds 33 = .ok (.aload_n 0, 1) := by decide +kernel
theorem dX8_mixOdds_34 : decode cX8_mixOdds 34 = .ok (.getfield 42, 3) := by decide +kernel
theorem dX8_mixOdds_37 : decode cX8_mixOdds 37 = .ok (.iload 5, 2) := by decide +kernel
theorem dX8_mixOdds_39 : decode cX8_mixOdds 39 = .ok (.iconst 4, 1) := by decide +kernel
theorem dX8_mixOdds_40 : decode cX8_mixOdds 40 = .ok (.invokevirtual 175, 3) := by decide +kernel
theorem dX8_mixOdds_43 : decode cX8_mixOdds 43 = .ok (.lload_n 3, 1) := by decide +kernel
theorem dX8_mixOdds_44 : decode cX8_mixOdds 44 = .ok (.aload_n 0, 1) := by decide +kernel
theorem dX8_mixOdds_45 : decode cX8_mixOdds 45 = .ok (.getfield 49, 3) := by decide +kernel
theorem dX8_mixOdds_48 : decode cX8_mixOdds 48 = .ok (.getfield 178, 3) := by decide +kernel
theorem dX8_mixOdds_51 : decode cX8_mixOdds 51 = .ok (.i2l, 1) := by decide +kernel
theorem dX8_mixOdds_52 : decode cX8_mixOdds 52 = .ok (.invokestatic 228, 3) := by decide +kernel
theorem dX8_mixOdds_55 : decode cX8_mixOdds 55 = .ok (.lstore_n 3, 1) := by decide +kernel
theorem dX8_mixOdds_56 : decode cX8_mixOdds 56 = .ok (.lload_n 3, 1) := by decide +kernel
theorem dX8_mixOdds_57 : decode cX8_mixOdds 57 = .ok (.aload_n 0, 1) := by decide +kernel
theorem dX8_mixOdds_58 : decode cX8_mixOdds 58 = .ok (.getfield 49, 3) := by decide +kernel
theorem dX8_mixOdds_61 : decode cX8_mixOdds 61 = .ok (.getfield 181, 3) := by decide +kernel
theorem dX8_mixOdds_64 : decode cX8_mixOdds 64 = .ok (.i2l, 1) := by decide +kernel
theorem dX8_mixOdds_65 : decode cX8_mixOdds 65 = .ok (.invokestatic 228, 3) := by decide +kernel
theorem dX8_mixOdds_68 : decode cX8_mixOdds 68 = .ok (.lstore_n 3, 1) := by decide +kernel
theorem dX8_mixOdds_69 : decode cX8_mixOdds 69 = .ok (.iinc 5 1, 3) := by decide +kernel
theorem dX8_mixOdds_72 : decode cX8_mixOdds 72 = .ok (.goto (-67), 3) := by decide +kernel
theorem dX8_mixOdds_75 : decode cX8_mixOdds 75 = .ok (.lload_n 3, 1) := by decide +kernel
theorem dX8_mixOdds_76 : decode cX8_mixOdds 76 = .ok (.lreturn, 1) := by decide +kernel
theorem dX8_mix_0 : decode cX8_mix 0 = .ok (.ldc2_w 265, 3) := by decide +kernel
theorem dX8_mix_3 : decode cX8_mix 3 = .ok (.lload_n 0, 1) := by decide +kernel
theorem dX8_mix_4 : decode cX8_mix 4 = .ok (.lmul, 1) := by decide +kernel
theorem dX8_mix_5 : decode cX8_mix 5 = .ok (.lload_n 2, 1) := by decide +kernel
theorem dX8_mix_6 : decode cX8_mix 6 = .ok (.ladd, 1) := by decide +kernel
theorem dX8_mix_7 : decode cX8_mix 7 = .ok (.lreturn, 1) := by decide +kernel
theorem dX8_isAmong_0 : decode cX8_isAmong 0 = .ok (.iload_n 1, 1) := by decide +kernel
theorem dX8_isAmong_1 : decode cX8_isAmong 1 = .ok (.iload_n 0, 1) := by decide +kernel
theorem dX8_isAmong_2 : decode cX8_isAmong 2 = .ok (.ishr, 1) := by decide +kernel
theorem dX8_isAmong_3 : decode cX8_isAmong 3 = .ok (.iconst 1, 1) := by decide +kernel
theorem dX8_isAmong_4 : decode cX8_isAmong 4 = .ok (.iand, 1) := by decide +kernel
theorem dX8_isAmong_5 : decode cX8_isAmong 5 = .ok (.iconst 1, 1) := by decide +kernel
theorem dX8_isAmong_6 : decode cX8_isAmong 6 = .ok (.if_icmp .ne 7, 3) := by decide +kernel
theorem dX8_isAmong_9 : decode cX8_isAmong 9 = .ok (.iconst 1, 1) := by decide +kernel
theorem dX8_isAmong_10 : decode cX8_isAmong 10 = .ok (.goto 4, 3) := by decide +kernel
theorem dX8_isAmong_13 : decode cX8_isAmong 13 = .ok (.iconst 0, 1) := by decide +kernel
theorem dX8_isAmong_14 : decode cX8_isAmong 14 = .ok (.ireturn, 1) := by decide +kernel
end
section
theorem dX9_init_0 : decode cX9_init 0 = .ok (.aload_n 0, 1) := by decide +kernel
theorem dX9_init_1 : decode cX9_init 1 = .ok (.invokespecial 1, 3) := by decide +kernel
theorem dX9_init_4 : decode cX9_init 4 = .ok (.aload_n 0, 1) := by decide +kernel
theorem dX9_init_5 : decode cX9_init 5 = .ok (.bipush 8, 2) := by decide +kernel
theorem dX9_init_7 : decode cX9_init 7 = .ok (.newarray .int, 2) := by decide +kernel
theorem dX9_init_9 : decode cX9_init 9 = .ok (.putfield 7, 3) := by decide +kernel
theorem dX9_init_12 : decode cX9_init 12 = .ok (.aload_n 0, 1) := by decide +kernel
theorem dX9_init_13 : decode cX9_init 13 = .ok (.bipush 8, 2) := by decide +kernel
theorem dX9_init_15 : decode cX9_init 15 = .ok (.newarray .int, 2) := by decide +kernel
theorem dX9_init_17 : decode cX9_init 17 = .ok (.putfield 13, 3) := by decide +kernel
theorem dX9_init_20 : decode cX9_init 20 = .ok (.aload_n 0, 1) := by decide +kernel
theorem dX9_init_21 : decode cX9_init 21 = .ok (.bipush 8, 2) := by decide +kernel
theorem dX9_init_23 : decode cX9_init 23 = .ok (.newarray .int, 2) := by decide +kernel
theorem dX9_init_25 : decode cX9_init 25 = .ok (.putfield 16, 3) := by decide +kernel
theorem dX9_init_28 : decode cX9_init 28 = .ok (.aload_n 0, 1) := by decide +kernel
theorem dX9_init_29 : decode cX9_init 29 = .ok (.bipush 6, 2) := by decide +kernel
theorem dX9_init_31 : decode cX9_init 31 = .ok (.newarray .int, 2) := by decide +kernel
theorem dX9_init_33 : decode cX9_init 33 = .ok (.putfield 19, 3) := by decide +kernel
theorem dX9_init_36 : decode cX9_init 36 = .ok (.aload_n 0, 1) := by decide +kernel
theorem dX9_init_37 : decode cX9_init 37 = .ok (.bipush 6, 2) := by decide +kernel
theorem dX9_init_39 : decode cX9_init 39 = .ok (.newarray .int, 2) := by decide +kernel
theorem dX9_init_41 : decode cX9_init 41 = .ok (.putfield 22, 3) := by decide +kernel
theorem dX9_init_44 : decode cX9_init 44 = .ok (.aload_n 0, 1) := by decide +kernel
theorem dX9_init_45 : decode cX9_init 45 = .ok (.bipush 6, 2) := by decide +kernel
theorem dX9_init_47 : decode cX9_init 47 = .ok (.newarray .int, 2) := by decide +kernel
theorem dX9_init_49 : decode cX9_init 49 = .ok (.putfield 25, 3) := by decide +kernel
theorem dX9_init_52 : decode cX9_init 52 = .ok (.aload_n 0, 1) := by decide +kernel
theorem dX9_init_53 : decode cX9_init 53 = .ok (.bipush 36, 2) := by decide +kernel
theorem dX9_init_55 : decode cX9_init 55 = .ok (.newarray .byte, 2) := by decide +kernel
theorem dX9_init_57 : decode cX9_init 57 = .ok (.putfield 28, 3) := by decide +kernel
theorem dX9_init_60 : decode cX9_init 60 = .ok (.aload_n 0, 1) := by decide +kernel
theorem dX9_init_61 : decode cX9_init 61 = .ok (.bipush 8, 2) := by decide +kernel
theorem dX9_init_63 : decode cX9_init 63 = .ok (.newarray .int, 2) := by decide +kernel
theorem dX9_init_65 : decode cX9_init 65 = .ok (.putfield 32, 3) := by decide +kernel
theorem dX9_init_68 : decode cX9_init 68 = .ok (.aload_n 0, 1) := by decide +kernel
theorem dX9_init_69 : decode cX9_init 69 = .ok (.bipush 8, 2) := by decide +kernel
theorem dX9_init_71 : decode cX9_init 71 = .ok (.newarray .int, 2) := by decide +kernel
theorem dX9_init_73 : decode cX9_init 73 = .ok (.putfield 35, 3) := by decide +kernel
theorem dX9_init_76 : decode cX9_init 76 = .ok (.aload_n 0, 1) := by decide +kernel
theorem dX9_init_77 : decode cX9_init 77 = .ok (.bipush 8, 2) := by decide +kernel
theorem dX9_init_79 : decode cX9_init 79 = .ok (.newarray .int, 2) := by decide +kernel
theorem dX9_init_81 : decode cX9_init 81 = .ok (.putfield 38, 3) := by decide +kernel
theorem dX9_init_84 : decode cX9_init 84 = .ok (.aload_n 0, 1) := by decide +kernel
theorem dX9_init_85 : decode cX9_init 85 = .ok (.bipush 6, 2) := by decide +kernel
theorem dX9_init_87 : decode cX9_init 87 = .ok (.newarray .int, 2) := by decide +kernel
theorem dX9_init_89 : decode cX9_init 89 = .ok (.putfield 41, 3) := by decide +kernel
theorem dX9_init_92 : decode cX9_init 92 = .ok (.aload_n 0, 1) := by decide +kernel
theorem dX9_init_93 : decode cX9_init 93 = .ok (.bipush 6, 2) := by decide +kernel
theorem dX9_init_95 : decode cX9_init 95 = .ok (.newarray .int, 2) := by decide +kernel
theorem dX9_init_97 : decode cX9_init 97 = .ok (.putfield 44, 3) := by decide +kernel
theorem dX9_init_100 : decode cX9_init 100 = .ok (.aload_n 0, 1) := by decide +kernel
theorem dX9_init_101 : decode cX9_init 101 = .ok (.bipush 6, 2) := by decide +kernel
theorem dX9_init_103 : decode cX9_init 103 = .ok (.newarray .int, 2) := by decide +kernel
theorem dX9_init_105 : decode cX9_init 105 = .ok (.putfield 47, 3) := by decide +kernel
theorem dX9_init_108 : decode cX9_init 108 = .ok (.return_, 1) := by decide +kernel
theorem dX9_within_0 : decode cX9_within 0 = .ok (.iload_n 0, 1) := by decide +kernel
theorem dX9_within_1 : decode cX9_within 1 = .ok (.iload_n 1, 1) := by decide +kernel
theorem dX9_within_2 : decode cX9_within 2 = .ok (.if_icmp .lt 12, 3) := by decide +kernel
theorem dX9_within_5 : decode cX9_within 5 = .ok (.iload_n 0, 1) := by decide +kernel
theorem dX9_within_6 : decode cX9_within 6 = .ok (.iload_n 2, 1) := by decide +kernel
theorem dX9_within_7 : decode cX9_within 7 = .ok (.if_icmp .gt 7, 3) := by decide +kernel
theorem dX9_within_10 : decode cX9_within 10 = .ok (.iconst 1, 1) := by decide +kernel
theorem dX9_within_11 : decode cX9_within 11 = .ok (.goto 4, 3) := by decide +kernel
theorem dX9_within_14 : decode cX9_within 14 = .ok (.iconst 0, 1) := by decide +kernel
theorem dX9_within_15 : decode cX9_within 15 = .ok (.ireturn, 1) := by decide +kernel
theorem dX9_isIn_0 : decode cX9_isIn 0 = .ok (.iload_n 0, 1) := by decide +kernel
theorem dX9_isIn_1 : decode cX9_isIn 1 = .ok (.iload_n 1, 1) := by decide +kernel
theorem dX9_isIn_2 : decode cX9_isIn 2 = .ok (.ishr, 1) := by decide +kernel
theorem dX9_isIn_3 : decode cX9_isIn 3 = .ok (.iconst 1, 1) := by decide +kernel
theorem dX9_isIn_4 : decode cX9_isIn 4 = .ok (.iand, 1) := by decide +kernel
theorem dX9_isIn_5 : decode cX9_isIn 5 = .ok (.iconst 1, 1) := by decide +kernel
theorem dX9_isIn_6 : decode cX9_isIn 6 = .ok (.if_icmp .ne 7, 3) := by decide +kernel
theorem dX9_isIn_9 : decode cX9_isIn 9 = .ok (.iconst 1, 1) := by decide +kernel
theorem dX9_isIn_10 : decode cX9_isIn 10 = .ok (.goto 4, 3) := by decide +kernel
theorem dX9_isIn_13 : decode cX9_isIn 13 = .ok (.iconst 0, 1) := by decide +kernel
theorem dX9_isIn_14 : decode cX9_isIn 14 = .ok (.ireturn, 1) := by decide +kernel
theorem dX9_size_0 : decode cX9_size 0 = .ok (.iconst 0, 1) := by decide +kernel
theorem dX9_size_1 : decode cX9_size 1 = .ok (.istore_n 1, 1) := by decide +kernel
theorem dX9_size_2 : decode cX9_size 2 = .ok (.iconst 0, 1) := by decide +kernel
theorem dX9_size_3 : decode cX9_size 3 = .ok (.istore_n 2, 1) := by decide +kernel
theorem dX9_size_4 : decode cX9_size 4 = .ok (.iload_n 2, 1) := by decide +kernel
theorem dX9_size_5 : decode cX9_size 5 = .ok (.bipush 10, 2) := by decide +kernel
theorem dX9_size_7 : decode cX9_size 7 = .ok (.if_icmp .ge 17, 3) := by decide +kernel
theorem dX9_size_10 : decode cX9_size 10 = .ok (.iload_n 1, 1) := by decide +kernel
theorem dX9_size_11 : decode cX9_size 11 = .ok (.iload_n 0, 1) := by decide +kernel
theorem dX9_size_12 : decode cX9_size 12 = .ok (.iload_n 2, 1) := by decide +kernel
theorem dX9_size_13 : decode cX9_size 13 = .ok (.ishr, 1) := by decide +kernel
theorem dX9_size_14 : decode cX9_size 14 = .ok (.iconst 1, 1) := by decide +kernel
theorem dX9_size_15 : decode cX9_size 15 = .ok (.iand, 1) := by decide +kernel
theorem dX9_size_16 : decode cX9_size 16 = .ok (.iadd, 1) := by decide +kernel
theorem dX9_size_17 : decode cX9_size 17 = .ok (.istore_n 1, 1) := by decide +kernel
theorem dX9_size_18 : decode cX9_size 18 = .ok (.iinc 2 1, 3) := by decide +kernel
theorem dX9_size_21 : decode cX9_size 21 = .ok (.goto (-17), 3) := by decide +kernel
theorem dX9_size_24 : decode cX9_size 24 = .ok (.iload_n 1, 1) := by decide +kernel
theorem dX9_size_25 : decode cX9_size 25 = .ok (.ireturn, 1) := by decide +kernel
theorem dX9_divisor_0 : decode cX9_divisor 0 = .ok (.iload_n 0, 1) := by decide +kernel
theorem dX9_divisor_1 : decode cX9_divisor 1 = .ok (.istore_n 2, 1) := by decide +kernel
theorem dX9_divisor_2 : decode cX9_divisor 2 = .ok (.iload_n 1, 1) := by decide +kernel
theorem dX9_divisor_3 : decode cX9_divisor 3 = .ok (.istore_n 3, 1) := by decide +kernel
theorem dX9_divisor_4 : decode cX9_divisor 4 = .ok (.iload_n 3, 1) := by decide +kernel
theorem dX9_divisor_5 : decode cX9_divisor 5 = .ok (.ifCond .eq 16, 3) := by decide +kernel
theorem dX9_divisor_8 : decode cX9_divisor 8 = .ok (.iload_n 2, 1) := by decide +kernel
theorem dX9_divisor_9 : decode cX9_divisor 9 = .ok (.iload_n 3, 1) := by decide +kernel
theorem dX9_divisor_10 : decode cX9_divisor 10 = .ok (.irem, 1) := by decide +kernel
theorem dX9_divisor_11 : decode cX9_divisor 11 = .ok (.istore 4, 2) := by decide +kernel
theorem dX9_divisor_13 : decode cX9_divisor 13 = .ok (.iload_n 3, 1) := by decide +kernel
theorem dX9_divisor_14 : decode cX9_divisor 14 = .ok (.istore_n 2, 1) := by decide +kernel
theorem dX9_divisor_15 : decode cX9_divisor 15 = .ok (.iload 4, 2) := by decide +kernel
theorem dX9_divisor_17 : decode cX9_divisor 17 = .ok (.istore_n 3, 1) := by decide +kernel
theorem dX9_divisor_18 : decode cX9_divisor 18 = .ok (.goto (-14), 3) := by decide +kernel
theorem dX9_divisor_21 : decode cX9_divisor 21 = .ok (.iload_n 2, 1) := by decide +kernel
theorem dX9_divisor_22 : decode cX9_divisor 22 = .ok (.ireturn, 1) := by decide +kernel
theorem dX9_letter_0 : decode cX9_letter 0 = .ok (.iload_n 1, 1) := by decide +kernel
theorem dX9_letter_1 : decode cX9_letter 1 = .ok (.bipush 32, 2) := by decide +kernel
theorem dX9_letter_3 : decode cX9_letter 3 = .ok (.bipush 126, 2) := by decide +kernel
theorem dX9_letter_5 : decode cX9_letter 5 = .ok (.invokestatic 50, 3) := by decide +kernel
theorem dX9_letter_8 : decode cX9_letter 8 = .ok (.ifCond .ne 6, 3) := by decide +kernel
theorem dX9_letter_11 : decode cX9_letter 11 = .ok (.bipush (-102), 2) := by decide +kernel
theorem dX9_letter_13 : decode cX9_letter 13 = .ok (.ireturn, 1) := by decide +kernel
theorem dX9_letter_14 : decode cX9_letter 14 = .ok (.aload_n 0, 1) := by decide +kernel
theorem dX9_letter_15 : decode cX9_letter 15 = .ok (.getfield 54, 3) := by decide +kernel
theorem dX9_letter_18 : decode cX9_letter 18 = .ok (.bipush 36, 2) := by decide +kernel
theorem dX9_letter_20 : decode cX9_letter 20 = .ok (.if_icmp .ne 6, 3) := by decide +kernel
theorem dX9_letter_23 : decode cX9_letter 23 = .ok (.bipush (-104), 2) := by decide +kernel
theorem dX9_letter_25 : decode cX9_letter 25 = .ok (.ireturn, 1) := by decide +kernel
theorem dX9_letter_26 : decode cX9_letter 26 = .ok (.aload_n 0, 1) := by decide +kernel
theorem dX9_letter_27 : decode cX9_letter 27 = .ok (.getfield 28, 3) := by decide +kernel
theorem dX9_letter_30 : decode cX9_letter 30 = .ok (.aload_n 0, 1) := by decide +kernel
theorem dX9_letter_31 : decode cX9_letter 31 = .ok (.getfield 54, 3) := by decide +kernel
theorem dX9_letter_34 : decode cX9_letter 34 = .ok (.iload_n 1, 1) := by decide +kernel
theorem dX9_letter_35 : decode cX9_letter 35 = .ok (.i2b, 1) := by decide +kernel
theorem dX9_letter_36 : decode cX9_letter 36 = .ok (.bastore, 1) := by decide +kernel
theorem dX9_letter_37 : decode cX9_letter 37 = .ok (.aload_n 0, 1) := by decide +kernel
theorem dX9_letter_38 : decode cX9_letter 38 = .ok (.dup, 1) := by decide +kernel
theorem dX9_letter_39 : decode cX9_letter 39 = .ok (.getfield 54, 3) := by decide +kernel
theorem dX9_letter_42 : decode cX9_letter 42 = .ok (.iconst 1, 1) := by decide +kernel
theorem dX9_letter_43 : decode cX9_letter 43 = .ok (.iadd, 1) := by decide +kernel
theorem dX9_letter_44 : decode cX9_letter 44 = .ok (.putfield 54, 3) := by decide +kernel
theorem dX9_letter_47 : decode cX9_letter 47 = .ok (.aload_n 0, 1) := by decide +kernel
theorem dX9_letter_48 : decode cX9_letter 48 = .ok (.getfield 54, 3) := by decide +kernel
theorem dX9_letter_51 : decode cX9_letter 51 = .ok (.ireturn, 1) := by decide +kernel
theorem dX9_blank_0 : decode cX9_blank 0 = .ok (.aload_n 0, 1) := by decide +kernel
theorem dX9_blank_1 : decode cX9_blank 1 = .ok (.getfield 54, 3) := by decide +kernel
theorem dX9_blank_4 : decode cX9_blank 4 = .ok (.istore_n 1, 1) := by decide +kernel
theorem dX9_blank_5 : decode cX9_blank 5 = .ok (.aload_n 0, 1) := by decide +kernel
theorem dX9_blank_6 : decode cX9_blank 6 = .ok (.iconst 0, 1) := by decide +kernel
theorem dX9_blank_7 : decode cX9_blank 7 = .ok (.putfield 54, 3) := by decide +kernel
theorem dX9_blank_10 : decode cX9_blank 10 = .ok (.iload_n 1, 1) := by decide +kernel
theorem dX9_blank_11 : decode cX9_blank 11 = .ok (.ireturn, 1) := by decide +kernel
theorem dX9_kindBy_0 : decode cX9_kindBy 0 = .ok (.iload_n 0, 1) := by decide +kernel
theorem dX9_kindBy_1 : decode cX9_kindBy 1 = .ok (.tableswitch 81 99 112 #[73, 81, 81, 81, 71, 75, 81, 81, 79, 81, 81, 81, 81, 77], 71) := by decide +kernel
theorem dX9_kindBy_72 : decode cX9_kindBy 72 = .ok (.iconst 0, 1) := by decide +kernel
theorem dX9_kindBy_73 : decode cX9_kindBy 73 = .ok (.ireturn, 1) := by decide +kernel
theorem dX9_kindBy_74 : decode cX9_kindBy 74 = .ok (.iconst 1, 1) := by decide +kernel
theorem dX9_kindBy_75 : decode cX9_kindBy 75 = .ok (.ireturn, 1) := by decide +kernel
theorem dX9_kindBy_76 : decode cX9_kindBy 76 = .ok (.iconst 2, 1) := by decide +kernel
theorem dX9_kindBy_77 : decode cX9_kindBy 77 = .ok (.ireturn, 1) := by decide +kernel
theorem dX9_kindBy_78 : decode cX9_kindBy 78 = .ok (.iconst 3, 1) := by decide +kernel
theorem dX9_kindBy_79 : decode cX9_kindBy 79 = .ok (.ireturn, 1) := by decide +kernel
theorem dX9_kindBy_80 : decode cX9_kindBy 80 = .ok (.iconst 4, 1) := by decide +kernel
theorem dX9_kindBy_81 : decode cX9_kindBy 81 = .ok (.ireturn, 1) := by decide +kernel
theorem dX9_kindBy_82 : decode cX9_kindBy 82 = .ok (.iconst (-1), 1) := by decide +kernel
theorem dX9_kindBy_83 : decode cX9_kindBy 83 = .ok (.ireturn, 1) := by decide +kernel
theorem dX9_at_0 : decode cX9_at 0 = .ok (.iload_n 1, 1) := by decide +kernel
theorem dX9_at_1 : decode cX9_at 1 = .ok (.aload_n 0, 1) := by decide +kernel
theorem dX9_at_2 : decode cX9_at 2 = .ok (.getfield 54, 3) := by decide +kernel
theorem dX9_at_5 : decode cX9_at 5 = .ok (.if_icmp .ge 12, 3) := by decide +kernel
theorem dX9_at_8 : decode cX9_at 8 = .ok (.aload_n 0, 1) := by decide +kernel
theorem dX9_at_9 : decode cX9_at 9 = .ok (.getfield 28, 3) := by decide +kernel
theorem dX9_at_12 : decode cX9_at 12 = .ok (.iload_n 1, 1) := by decide +kernel
theorem dX9_at_13 : decode cX9_at 13 = .ok (.baload, 1) := by decide +kernel
theorem dX9_at_14 : decode cX9_at 14 = .ok (.goto 4, 3) := by decide +kernel
theorem dX9_at_17 : decode cX9_at 17 = .ok (.iconst 0, 1) := by decide +kernel
theorem dX9_at_18 : decode cX9_at 18 = .ok (.ireturn, 1) := by decide +kernel
theorem dX9_isFigure_0 : decode cX9_isFigure 0 = .ok (.aload_n 0, 1) := by decide +kernel
theorem dX9_isFigure_1 : decode cX9_isFigure 1 = .ok (.iload_n 1, 1) := by decide +kernel
theorem dX9_isFigure_2 : decode cX9_isFigure 2 = .ok (.invokevirtual 58, 3) := by decide +kernel
theorem dX9_isFigure_5 : decode cX9_isFigure 5 = .ok (.bipush 48, 2) := by decide +kernel
theorem dX9_isFigure_7 : decode cX9_isFigure 7 = .ok (.isub, 1) := by decide +kernel
theorem dX9_isFigure_8 : decode cX9_isFigure 8 = .ok (.iconst 0, 1) := by decide +kernel
theorem dX9_isFigure_9 : decode cX9_isFigure 9 = .ok (.iload_n 2, 1) := by decide +kernel
theorem dX9_isFigure_10 : decode cX9_isFigure 10 = .ok (.invokestatic 50, 3) := by decide +kernel
theorem dX9_isFigure_13 : decode cX9_isFigure 13 = .ok (.ireturn, 1) := by decide +kernel
theorem dX9_readGuest_0 : decode cX9_readGuest 0 = .ok (.aload_n 0, 1) := by decide +kernel
theorem dX9_readGuest_1 : decode cX9_readGuest 1 = .ok (.iload_n 1, 1) := by decide +kernel
theorem dX9_readGuest_2 : decode cX9_readGuest 2 = .ok (.invokevirtual 58, 3) := by decide +kernel
theorem dX9_readGuest_5 : decode cX9_readGuest 5 = .ok (.invokestatic 62, 3) := by decide +kernel
theorem dX9_readGuest_8 : decode cX9_readGuest 8 = .ok (.iconst (-1), 1) := by decide +kernel
theorem dX9_readGuest_9 : decode cX9_readGuest 9 = .ok (.if_icmp .ne 5, 3) := by decide +kernel
theorem dX9_readGuest_12 : decode cX9_readGuest 12 = .ok (.iload_n 1, 1) := by decide +kernel
theorem dX9_readGuest_13 : decode cX9_readGuest 13 = .ok (.ireturn, 1) := by decide +kernel
theorem dX9_readGuest_14 : decode cX9_readGuest 14 = .ok (.aload_n 0, 1) := by decide +kernel
theorem dX9_readGuest_15 : decode cX9_readGuest 15 = .ok (.iload_n 1, 1) := by decide +kernel
theorem dX9_readGuest_16 : decode cX9_readGuest 16 = .ok (.iconst 1, 1) := by decide +kernel
theorem dX9_readGuest_17 : decode cX9_readGuest 17 = .ok (.iadd, 1) := by decide +kernel
theorem dX9_readGuest_18 : decode cX9_readGuest 18 = .ok (.bipush 9, 2) := by decide +kernel
theorem dX9_readGuest_20 : decode cX9_readGuest 20 = .ok (.invokevirtual 65, 3) := by decide +kernel
theorem dX9_readGuest_23 : decode cX9_readGuest 23 = .ok (.ifCond .ne 7, 3) := by decide +kernel
theorem dX9_readGuest_26 : decode cX9_readGuest 26 = .ok (.iload_n 1, 1) := by decide +kernel
theorem dX9_readGuest_27 : decode cX9_readGuest 27 = .ok (.iconst 1, 1) := by decide +kernel
theorem dX9_readGuest_28 : decode cX9_readGuest 28 = .ok (.iadd, 1) := by decide +kernel
theorem dX9_readGuest_29 : decode cX9_readGuest 29 = .ok (.ireturn, 1) := by decide +kernel
theorem dX9_readGuest_30 : decode cX9_readGuest 30 = .ok (.aload_n 0, 1) := by decide +kernel
theorem dX9_readGuest_31 : decode cX9_readGuest 31 = .ok (.iload_n 1, 1) := by decide +kernel
theorem dX9_readGuest_32 : decode cX9_readGuest 32 = .ok (.iconst 2, 1) := by decide +kernel
theorem dX9_readGuest_33 : decode cX9_readGuest 33 = .ok (.iadd, 1) := by decide +kernel
theorem dX9_readGuest_34 : decode cX9_readGuest 34 = .ok (.invokevirtual 58, 3) := by decide +kernel
theorem dX9_readGuest_37 : decode cX9_readGuest 37 = .ok (.bipush 45, 2) := by decide +kernel
theorem dX9_readGuest_39 : decode cX9_readGuest 39 = .ok (.if_icmp .eq 19, 3) := by decide +kernel
theorem dX9_readGuest_42 : decode cX9_readGuest 42 = .ok (.aload_n 0, 1) := by decide +kernel
theorem dX9_readGuest_43 : decode cX9_readGuest 43 = .ok (.iload_n 1, 1) := by decide +kernel
theorem dX9_readGuest_44 : decode cX9_readGuest 44 = .ok (.iconst 2, 1) := by decide +kernel
theorem dX9_readGuest_45 : decode cX9_readGuest 45 = .ok (.iadd, 1) := by decide +kernel
theorem dX9_readGuest_46 : decode cX9_readGuest 46 = .ok (.aload_n 0, 1) := by decide +kernel
theorem dX9_readGuest_47 : decode cX9_readGuest 47 = .ok (.getfield 69, 3) := by decide +kernel
theorem dX9_readGuest_50 : decode cX9_readGuest 50 = .ok (.iconst 1, 1) := by decide +kernel
theorem dX9_readGuest_51 : decode cX9_readGuest 51 = .ok (.isub, 1) := by decide +kernel
theorem dX9_readGuest_52 : decode cX9_readGuest 52 = .ok (.invokevirtual 65, 3) := by decide +kernel
theorem dX9_readGuest_55 : decode cX9_readGuest 55 = .ok (.ifCond .eq 9, 3) := by decide +kernel
theorem dX9_readGuest_58 : decode cX9_readGuest 58 = .ok (.iload_n 1, 1) := by decide +kernel
theorem dX9_readGuest_59 : decode cX9_readGuest 59 = .ok (.iconst 3, 1) := by decide +kernel
theorem dX9_readGuest_60 : decode cX9_readGuest 60 = .ok (.iadd, 1) := by decide +kernel
theorem dX9_readGuest_61 : decode cX9_readGuest 61 = .ok (.goto 6, 3) := by decide +kernel
theorem dX9_readGuest_64 : decode cX9_readGuest 64 = .ok (.iload_n 1, 1) := by decide +kernel
theorem dX9_readGuest_65 : decode cX9_readGuest 65 = .ok (.iconst 2, 1) := by decide +kernel
theorem dX9_readGuest_66 : decode cX9_readGuest 66 = .ok (.iadd, 1) := by decide +kernel
theorem dX9_readGuest_67 : decode cX9_readGuest 67 = .ok (.ireturn, 1) := by decide +kernel
theorem dX9_read_0 : decode cX9_read 0 = .ok (.aload_n 0, 1) := by decide +kernel
theorem dX9_read_1 : decode cX9_read 1 = .ok (.iconst 0, 1) := by decide +kernel
theorem dX9_read_2 : decode cX9_read 2 = .ok (.putfield 72, 3) := by decide +kernel
theorem dX9_read_5 : decode cX9_read 5 = .ok (.aload_n 0, 1) := by decide +kernel
theorem dX9_read_6 : decode cX9_read 6 = .ok (.iconst 0, 1) := by decide +kernel
theorem dX9_read_7 : decode cX9_read 7 = .ok (.putfield 69, 3) := by decide +kernel
theorem dX9_read_10 : decode cX9_read 10 = .ok (.aload_n 0, 1) := by decide +kernel
theorem dX9_read_11 : decode cX9_read 11 = .ok (.iconst 0, 1) := by decide +kernel
theorem dX9_read_12 : decode cX9_read 12 = .ok (.bipush 9, 2) := by decide +kernel
theorem dX9_read_14 : decode cX9_read 14 = .ok (.invokevirtual 65, 3) := by decide +kernel
theorem dX9_read_17 : decode cX9_read 17 = .ok (.ifCond .ne 5, 3) := by decide +kernel
theorem dX9_read_20 : decode cX9_read 20 = .ok (.iconst 0, 1) := by decide +kernel
theorem dX9_read_21 : decode cX9_read 21 = .ok (.ireturn, 1) := by decide +kernel
theorem dX9_read_22 : decode cX9_read 22 = .ok (.aload_n 0, 1) := by decide +kernel
theorem dX9_read_23 : decode cX9_read 23 = .ok (.iconst 1, 1) := by decide +kernel
theorem dX9_read_24 : decode cX9_read 24 = .ok (.bipush 9, 2) := by decide +kernel
theorem dX9_read_26 : decode cX9_read 26 = .ok (.invokevirtual 65, 3) := by decide +kernel
theorem dX9_read_29 : decode cX9_read 29 = .ok (.ifCond .ne 5, 3) := by decide +kernel
theorem dX9_read_32 : decode cX9_read 32 = .ok (.iconst 1, 1) := by decide +kernel
theorem dX9_read_33 : decode cX9_read 33 = .ok (.ireturn, 1) := by decide +kernel
theorem dX9_read_34 : decode cX9_read 34 = .ok (.aload_n 0, 1) := by decide +kernel
theorem dX9_read_35 : decode cX9_read 35 = .ok (.iconst 2, 1) := by decide +kernel
theorem dX9_read_36 : decode cX9_read 36 = .ok (.invokevirtual 58, 3) := by decide +kernel
theorem dX9_read_39 : decode cX9_read 39 = .ok (.bipush 59, 2) := by decide +kernel
theorem dX9_read_41 : decode cX9_read 41 = .ok (.if_icmp .eq 5, 3) := by decide +kernel
theorem dX9_read_44 : decode cX9_read 44 = .ok (.iconst 2, 1) := by decide +kernel
theorem dX9_read_45 : decode cX9_read 45 = .ok (.ireturn, 1) := by decide +kernel
theorem dX9_read_46 : decode cX9_read 46 = .ok (.iconst 3, 1) := by decide +kernel
theorem dX9_read_47 : decode cX9_read 47 = .ok (.istore_n 1, 1) := by decide +kernel
theorem dX9_read_48 : decode cX9_read 48 = .ok (.aload_n 0, 1) := by decide +kernel
theorem dX9_read_49 : decode cX9_read 49 = .ok (.getfield 69, 3) := by decide +kernel
theorem dX9_read_52 : decode cX9_read 52 = .ok (.bipush 8, 2) := by decide +kernel
theorem dX9_read_54 : decode cX9_read 54 = .ok (.if_icmp .ge 82, 3) := by decide +kernel
theorem dX9_read_57 : decode cX9_read 57 = .ok (.aload_n 0, 1) := by decide +kernel
theorem dX9_read_58 : decode cX9_read 58 = .ok (.iload_n 1, 1) := by decide +kernel
theorem dX9_read_59 : decode cX9_read 59 = .ok (.invokevirtual 76, 3) := by decide +kernel
theorem dX9_read_62 : decode cX9_read 62 = .ok (.istore_n 2, 1) := by decide +kernel
theorem dX9_read_63 : decode cX9_read 63 = .ok (.iload_n 2, 1) := by decide +kernel
theorem dX9_read_64 : decode cX9_read 64 = .ok (.iload_n 1, 1) := by decide +kernel
theorem dX9_read_65 : decode cX9_read 65 = .ok (.iconst 3, 1) := by decide +kernel
theorem dX9_read_66 : decode cX9_read 66 = .ok (.iadd, 1) := by decide +kernel
theorem dX9_read_67 : decode cX9_read 67 = .ok (.if_icmp .eq 5, 3) := by decide +kernel
theorem dX9_read_70 : decode cX9_read 70 = .ok (.iload_n 2, 1) := by decide +kernel
theorem dX9_read_71 : decode cX9_read 71 = .ok (.ireturn, 1) := by decide +kernel
theorem dX9_read_72 : decode cX9_read 72 = .ok (.aload_n 0, 1) := by decide +kernel
theorem dX9_read_73 : decode cX9_read 73 = .ok (.dup, 1) := by decide +kernel
theorem dX9_read_74 : decode cX9_read 74 = .ok (.getfield 69, 3) := by decide +kernel
theorem dX9_read_77 : decode cX9_read 77 = .ok (.iconst 1, 1) := by decide +kernel
theorem dX9_read_78 : decode cX9_read 78 = .ok (.iadd, 1) := by decide +kernel
theorem dX9_read_79 : decode cX9_read 79 = .ok (.putfield 69, 3) := by decide +kernel
theorem dX9_read_82 : decode cX9_read 82 = .ok (.iload_n 2, 1) := by decide +kernel
theorem dX9_read_83 : decode cX9_read 83 = .ok (.istore_n 1, 1) := by decide +kernel
theorem dX9_read_84 : decode cX9_read 84 = .ok (.aload_n 0, 1) := by decide +kernel
theorem dX9_read_85 : decode cX9_read 85 = .ok (.iload_n 1, 1) := by decide +kernel
theorem dX9_read_86 : decode cX9_read 86 = .ok (.aload_n 0, 1) := by decide +kernel
theorem dX9_read_87 : decode cX9_read 87 = .ok (.getfield 54, 3) := by decide +kernel
theorem dX9_read_90 : decode cX9_read 90 = .ok (.if_icmp .ne 15, 3) := by decide +kernel
theorem dX9_read_93 : decode cX9_read 93 = .ok (.aload_n 0, 1) := by decide +kernel
theorem dX9_read_94 : decode cX9_read 94 = .ok (.getfield 69, 3) := by decide +kernel
theorem dX9_read_97 : decode cX9_read 97 = .ok (.iconst 1, 1) := by decide +kernel
theorem dX9_read_98 : decode cX9_read 98 = .ok (.if_icmp .le 7, 3) := by decide +kernel
theorem dX9_read_101 : decode cX9_read 101 = .ok (.iconst 1, 1) := by decide +kernel
theorem dX9_read_102 : decode cX9_read 102 = .ok (.goto 4, 3) := by decide +kernel
theorem dX9_read_105 : decode cX9_read 105 = .ok (.iconst 0, 1) := by decide +kernel
theorem dX9_read_106 : decode cX9_read 106 = .ok (.putfield 72, 3) := by decide +kernel
theorem dX9_read_109 : decode cX9_read 109 = .ok (.aload_n 0, 1) := by decide +kernel
theorem dX9_read_110 : decode cX9_read 110 = .ok (.getfield 69, 3) := by decide +kernel
theorem dX9_read_113 : decode cX9_read 113 = .ok (.bipush 8, 2) := by decide +kernel
theorem dX9_read_115 : decode cX9_read 115 = .ok (.if_icmp .eq 13, 3) := by decide +kernel
theorem dX9_read_118 : decode cX9_read 118 = .ok (.aload_n 0, 1) := by decide +kernel
theorem dX9_read_119 : decode cX9_read 119 = .ok (.iload_n 1, 1) := by decide +kernel
theorem dX9_read_120 : decode cX9_read 120 = .ok (.invokevirtual 58, 3) := by decide +kernel
theorem dX9_read_123 : decode cX9_read 123 = .ok (.bipush 44, 2) := by decide +kernel
theorem dX9_read_125 : decode cX9_read 125 = .ok (.if_icmp .eq 5, 3) := by decide +kernel
theorem dX9_read_128 : decode cX9_read 128 = .ok (.iload_n 1, 1) := by decide +kernel
theorem dX9_read_129 : decode cX9_read 129 = .ok (.ireturn, 1) := by decide +kernel
theorem dX9_read_130 : decode cX9_read 130 = .ok (.iinc 1 1, 3) := by decide +kernel
theorem dX9_read_133 : decode cX9_read 133 = .ok (.goto (-85), 3) := by decide +kernel
theorem dX9_read_136 : decode cX9_read 136 = .ok (.iload_n 1, 1) := by decide +kernel
theorem dX9_read_137 : decode cX9_read 137 = .ok (.ireturn, 1) := by decide +kernel
theorem dX9_fault_0 : decode cX9_fault 0 = .ok (.aload_n 0, 1) := by decide +kernel
theorem dX9_fault_1 : decode cX9_fault 1 = .ok (.invokevirtual 79, 3) := by decide +kernel
theorem dX9_fault_4 : decode cX9_fault 4 = .ok (.ireturn, 1) := by decide +kernel
theorem dX9_party_0 : decode cX9_party 0 = .ok (.aload_n 0, 1) := by decide +kernel
theorem dX9_party_1 : decode cX9_party 1 = .ok (.invokevirtual 79, 3) := by decide +kernel
theorem dX9_party_4 : decode cX9_party 4 = .ok (.pop, 1) := by decide +kernel
theorem dX9_party_5 : decode cX9_party 5 = .ok (.aload_n 0, 1) := by decide +kernel
theorem dX9_party_6 : decode cX9_party 6 = .ok (.getfield 72, 3) := by decide +kernel
theorem dX9_party_9 : decode cX9_party 9 = .ok (.ifCond .ne 6, 3) := by decide +kernel
theorem dX9_party_12 : decode cX9_party 12 = .ok (.bipush (-103), 2) := by decide +kernel
theorem dX9_party_14 : decode cX9_party 14 = .ok (.ireturn, 1) := by decide +kernel
theorem dX9_party_15 : decode cX9_party 15 = .ok (.aload_n 0, 1) := by decide +kernel
theorem dX9_party_16 : decode cX9_party 16 = .ok (.aload_n 0, 1) := by decide +kernel
theorem dX9_party_17 : decode cX9_party 17 = .ok (.getfield 69, 3) := by decide +kernel
theorem dX9_party_20 : decode cX9_party 20 = .ok (.putfield 83, 3) := by decide +kernel
theorem dX9_party_23 : decode cX9_party 23 = .ok (.aload_n 0, 1) := by decide +kernel
theorem dX9_party_24 : decode cX9_party 24 = .ok (.bipush 10, 2) := by decide +kernel
theorem dX9_party_26 : decode cX9_party 26 = .ok (.aload_n 0, 1) := by decide +kernel
theorem dX9_party_27 : decode cX9_party 27 = .ok (.getfield 28, 3) := by decide +kernel
theorem dX9_party_30 : decode cX9_party 30 = .ok (.iconst 0, 1) := by decide +kernel
theorem dX9_party_31 : decode cX9_party 31 = .ok (.baload, 1) := by decide +kernel
theorem dX9_party_32 : decode cX9_party 32 = .ok (.bipush 48, 2) := by decide +kernel
theorem dX9_party_34 : decode cX9_party 34 = .ok (.isub, 1) := by decide +kernel
theorem dX9_party_35 : decode cX9_party 35 = .ok (.imul, 1) := by decide +kernel
theorem dX9_party_36 : decode cX9_party 36 = .ok (.aload_n 0, 1) := by decide +kernel
theorem dX9_party_37 : decode cX9_party 37 = .ok (.getfield 28, 3) := by decide +kernel
theorem dX9_party_40 : decode cX9_party 40 = .ok (.iconst 1, 1) := by decide +kernel
theorem dX9_party_41 : decode cX9_party 41 = .ok (.baload, 1) := by decide +kernel
theorem dX9_party_42 : decode cX9_party 42 = .ok (.iadd, 1) := by decide +kernel
theorem dX9_party_43 : decode cX9_party 43 = .ok (.bipush 48, 2) := by decide +kernel
theorem dX9_party_45 : decode cX9_party 45 = .ok (.isub, 1) := by decide +kernel
theorem dX9_party_46 : decode cX9_party 46 = .ok (.putfield 86, 3) := by decide +kernel
theorem dX9_party_49 : decode cX9_party 49 = .ok (.iconst 0, 1) := by decide +kernel
theorem dX9_party_50 : decode cX9_party 50 = .ok (.istore_n 1, 1) := by decide +kernel
theorem dX9_party_51 : decode cX9_party 51 = .ok (.iload_n 1, 1) := by decide +kernel
theorem dX9_party_52 : decode cX9_party 52 = .ok (.aload_n 0, 1) := by decide +kernel
theorem dX9_party_53 : decode cX9_party 53 = .ok (.getfield 83, 3) := by decide +kernel
theorem dX9_party_56 : decode cX9_party 56 = .ok (.if_icmp .ge 81, 3) := by decide +kernel
theorem dX9_party_59 : decode cX9_party 59 = .ok (.iconst 3, 1) := by decide +kernel
theorem dX9_party_60 : decode cX9_party 60 = .ok (.iconst 4, 1) := by decide +kernel
theorem dX9_party_61 : decode cX9_party 61 = .ok (.iload_n 1, 1) := by decide +kernel
theorem dX9_party_62 : decode cX9_party 62 = .ok (.imul, 1) := by decide +kernel
theorem dX9_party_63 : decode cX9_party 63 = .ok (.iadd, 1) := by decide +kernel
theorem dX9_party_64 : decode cX9_party 64 = .ok (.istore_n 2, 1) := by decide +kernel
theorem dX9_party_65 : decode cX9_party 65 = .ok (.aload_n 0, 1) := by decide +kernel
theorem dX9_party_66 : decode cX9_party 66 = .ok (.getfield 7, 3) := by decide +kernel
theorem dX9_party_69 : decode cX9_party 69 = .ok (.iload_n 1, 1) := by decide +kernel
theorem dX9_party_70 : decode cX9_party 70 = .ok (.aload_n 0, 1) := by decide +kernel
theorem dX9_party_71 : decode cX9_party 71 = .ok (.getfield 28, 3) := by decide +kernel
theorem dX9_party_74 : decode cX9_party 74 = .ok (.iload_n 2, 1) := by decide +kernel
theorem dX9_party_75 : decode cX9_party 75 = .ok (.baload, 1) := by decide +kernel
theorem dX9_party_76 : decode cX9_party 76 = .ok (.invokestatic 62, 3) := by decide +kernel
theorem dX9_party_79 : decode cX9_party 79 = .ok (.iastore, 1) := by decide +kernel
theorem dX9_party_80 : decode cX9_party 80 = .ok (.aload_n 0, 1) := by decide +kernel
theorem dX9_party_81 : decode cX9_party 81 = .ok (.getfield 13, 3) := by decide +kernel
theorem dX9_party_84 : decode cX9_party 84 = .ok (.iload_n 1, 1) := by decide +kernel
theorem dX9_party_85 : decode cX9_party 85 = .ok (.aload_n 0, 1) := by decide +kernel
theorem dX9_party_86 : decode cX9_party 86 = .ok (.getfield 28, 3) := by decide +kernel
theorem dX9_party_89 : decode cX9_party 89 = .ok (.iload_n 2, 1) := by decide +kernel
theorem dX9_party_90 : decode cX9_party 90 = .ok (.iconst 1, 1) := by decide +kernel
theorem dX9_party_91 : decode cX9_party 91 = .ok (.iadd, 1) := by decide +kernel
theorem dX9_party_92 : decode cX9_party 92 = .ok (.baload, 1) := by decide +kernel
theorem dX9_party_93 : decode cX9_party 93 = .ok (.bipush 48, 2) := by decide +kernel
theorem dX9_party_95 : decode cX9_party 95 = .ok (.isub, 1) := by decide +kernel
theorem dX9_party_96 : decode cX9_party 96 = .ok (.iastore, 1) := by decide +kernel
theorem dX9_party_97 : decode cX9_party 97 = .ok (.aload_n 0, 1) := by decide +kernel
theorem dX9_party_98 : decode cX9_party 98 = .ok (.getfield 16, 3) := by decide +kernel
theorem dX9_party_101 : decode cX9_party 101 = .ok (.iload_n 1, 1) := by decide +kernel
theorem dX9_party_102 : decode cX9_party 102 = .ok (.aload_n 0, 1) := by decide +kernel
theorem dX9_party_103 : decode cX9_party 103 = .ok (.getfield 28, 3) := by decide +kernel
theorem dX9_party_106 : decode cX9_party 106 = .ok (.iload_n 2, 1) := by decide +kernel
theorem dX9_party_107 : decode cX9_party 107 = .ok (.iconst 2, 1) := by decide +kernel
theorem dX9_party_108 : decode cX9_party 108 = .ok (.iadd, 1) := by decide +kernel
theorem dX9_party_109 : decode cX9_party 109 = .ok (.baload, 1) := by decide +kernel
theorem dX9_party_110 : decode cX9_party 110 = .ok (.bipush 45, 2) := by decide +kernel
theorem dX9_party_112 : decode cX9_party 112 = .ok (.if_icmp .ne 7, 3) := by decide +kernel
theorem dX9_party_115 : decode cX9_party 115 = .ok (.iconst (-1), 1) := by decide +kernel
theorem dX9_party_116 : decode cX9_party 116 = .ok (.goto 14, 3) := by decide +kernel
theorem dX9_party_119 : decode cX9_party 119 = .ok (.aload_n 0, 1) := by decide +kernel
theorem dX9_party_120 : decode cX9_party 120 = .ok (.getfield 28, 3) := by decide +kernel
theorem dX9_party_123 : decode cX9_party 123 = .ok (.iload_n 2, 1) := by decide +kernel
theorem dX9_party_124 : decode cX9_party 124 = .ok (.iconst 2, 1) := by decide +kernel
theorem dX9_party_125 : decode cX9_party 125 = .ok (.iadd, 1) := by decide +kernel
theorem dX9_party_126 : decode cX9_party 126 = .ok (.baload, 1) := by decide +kernel
theorem dX9_party_127 : decode cX9_party 127 = .ok (.bipush 48, 2) := by decide +kernel
theorem dX9_party_129 : decode cX9_party 129 = .ok (.isub, 1) := by decide +kernel
theorem dX9_party_130 : decode cX9_party 130 = .ok (.iastore, 1) := by decide +kernel
theorem dX9_party_131 : decode cX9_party 131 = .ok (.iinc 1 1, 3) := by decide +kernel
theorem dX9_party_134 : decode cX9_party 134 = .ok (.goto (-83), 3) := by decide +kernel
theorem dX9_party_137 : decode cX9_party 137 = .ok (.aload_n 0, 1) := by decide +kernel
theorem dX9_party_138 : decode cX9_party 138 = .ok (.iconst 1, 1) := by decide +kernel
theorem dX9_party_139 : decode cX9_party 139 = .ok (.aload_n 0, 1) := by decide +kernel
theorem dX9_party_140 : decode cX9_party 140 = .ok (.getfield 83, 3) := by decide +kernel
theorem dX9_party_143 : decode cX9_party 143 = .ok (.ishl, 1) := by decide +kernel
theorem dX9_party_144 : decode cX9_party 144 = .ok (.iconst 1, 1) := by decide +kernel
theorem dX9_party_145 : decode cX9_party 145 = .ok (.isub, 1) := by decide +kernel
theorem dX9_party_146 : decode cX9_party 146 = .ok (.putfield 89, 3) := by decide +kernel
theorem dX9_party_149 : decode cX9_party 149 = .ok (.aload_n 0, 1) := by decide +kernel
theorem dX9_party_150 : decode cX9_party 150 = .ok (.iconst 0, 1) := by decide +kernel
theorem dX9_party_151 : decode cX9_party 151 = .ok (.putfield 92, 3) := by decide +kernel
theorem dX9_party_154 : decode cX9_party 154 = .ok (.aload_n 0, 1) := by decide +kernel
theorem dX9_party_155 : decode cX9_party 155 = .ok (.dup, 1) := by decide +kernel
theorem dX9_party_156 : decode cX9_party 156 = .ok (.getfield 95, 3) := by decide +kernel
theorem dX9_party_159 : decode cX9_party 159 = .ok (.iconst 1, 1) := by decide +kernel
theorem dX9_party_160 : decode cX9_party 160 = .ok (.iadd, 1) := by decide +kernel
theorem dX9_party_161 : decode cX9_party 161 = .ok (.putfield 95, 3) := by decide +kernel
theorem dX9_party_164 : decode cX9_party 164 = .ok (.aload_n 0, 1) := by decide +kernel
theorem dX9_party_165 : decode cX9_party 165 = .ok (.iconst 0, 1) := by decide +kernel
theorem dX9_party_166 : decode cX9_party 166 = .ok (.putfield 98, 3) := by decide +kernel
theorem dX9_party_169 : decode cX9_party 169 = .ok (.aload_n 0, 1) := by decide +kernel
theorem dX9_party_170 : decode cX9_party 170 = .ok (.iconst 0, 1) := by decide +kernel
theorem dX9_party_171 : decode cX9_party 171 = .ok (.putfield 54, 3) := by decide +kernel
theorem dX9_party_174 : decode cX9_party 174 = .ok (.aload_n 0, 1) := by decide +kernel
theorem dX9_party_175 : decode cX9_party 175 = .ok (.getfield 83, 3) := by decide +kernel
theorem dX9_party_178 : decode cX9_party 178 = .ok (.ireturn, 1) := by decide +kernel
theorem dX9_isGuest_0 : decode cX9_isGuest 0 = .ok (.iload_n 1, 1) := by decide +kernel
theorem dX9_isGuest_1 : decode cX9_isGuest 1 = .ok (.iconst 0, 1) := by decide +kernel
theorem dX9_isGuest_2 : decode cX9_isGuest 2 = .ok (.aload_n 0, 1) := by decide +kernel
theorem dX9_isGuest_3 : decode cX9_isGuest 3 = .ok (.getfield 83, 3) := by decide +kernel
theorem dX9_isGuest_6 : decode cX9_isGuest 6 = .ok (.iconst 1, 1) := by decide +kernel
theorem dX9_isGuest_7 : decode cX9_isGuest 7 = .ok (.isub, 1) := by decide +kernel
theorem dX9_isGuest_8 : decode cX9_isGuest 8 = .ok (.invokestatic 50, 3) := by decide +kernel
theorem dX9_isGuest_11 : decode cX9_isGuest 11 = .ok (.ireturn, 1) := by decide +kernel
theorem dX9_all_0 : decode cX9_all 0 = .ok (.iconst 1, 1) := by decide +kernel
theorem dX9_all_1 : decode cX9_all 1 = .ok (.aload_n 0, 1) := by decide +kernel
theorem dX9_all_2 : decode cX9_all 2 = .ok (.getfield 83, 3) := by decide +kernel
theorem dX9_all_5 : decode cX9_all 5 = .ok (.ishl, 1) := by decide +kernel
theorem dX9_all_6 : decode cX9_all 6 = .ok (.iconst 1, 1) := by decide +kernel
theorem dX9_all_7 : decode cX9_all 7 = .ok (.isub, 1) := by decide +kernel
theorem dX9_all_8 : decode cX9_all 8 = .ok (.ireturn, 1) := by decide +kernel
theorem dX9_needsBy_0 : decode cX9_needsBy 0 = .ok (.iload_n 0, 1) := by decide +kernel
theorem dX9_needsBy_1 : decode cX9_needsBy 1 = .ok (.tableswitch 41 1 4 #[31, 35, 39, 39], 31) := by decide +kernel
theorem dX9_needsBy_32 : decode cX9_needsBy 32 = .ok (.iload_n 1, 1) := by decide +kernel
theorem dX9_needsBy_33 : decode cX9_needsBy 33 = .ok (.iconst 2, 1) := by decide +kernel
theorem dX9_needsBy_34 : decode cX9_needsBy 34 = .ok (.idiv, 1) := by decide +kernel
theorem dX9_needsBy_35 : decode cX9_needsBy 35 = .ok (.ireturn, 1) := by decide +kernel
theorem dX9_needsBy_36 : decode cX9_needsBy 36 = .ok (.iload_n 1, 1) := by decide +kernel
theorem dX9_needsBy_37 : decode cX9_needsBy 37 = .ok (.iconst 2, 1) := by decide +kernel
theorem dX9_needsBy_38 : decode cX9_needsBy 38 = .ok (.iadd, 1) := by decide +kernel
theorem dX9_needsBy_39 : decode cX9_needsBy 39 = .ok (.ireturn, 1) := by decide +kernel
theorem dX9_needsBy_40 : decode cX9_needsBy 40 = .ok (.iconst 0, 1) := by decide +kernel
theorem dX9_needsBy_41 : decode cX9_needsBy 41 = .ok (.ireturn, 1) := by decide +kernel
theorem dX9_needsBy_42 : decode cX9_needsBy 42 = .ok (.iload_n 1, 1) := by decide +kernel
theorem dX9_needsBy_43 : decode cX9_needsBy 43 = .ok (.ireturn, 1) := by decide +kernel
theorem dX9_needs_0 : decode cX9_needs 0 = .ok (.aload_n 0, 1) := by decide +kernel
theorem dX9_needs_1 : decode cX9_needs 1 = .ok (.getfield 7, 3) := by decide +kernel
theorem dX9_needs_4 : decode cX9_needs 4 = .ok (.iload_n 1, 1) := by decide +kernel
theorem dX9_needs_5 : decode cX9_needs 5 = .ok (.iaload, 1) := by decide +kernel
theorem dX9_needs_6 : decode cX9_needs 6 = .ok (.aload_n 0, 1) := by decide +kernel
theorem dX9_needs_7 : decode cX9_needs 7 = .ok (.getfield 13, 3) := by decide +kernel
theorem dX9_needs_10 : decode cX9_needs 10 = .ok (.iload_n 1, 1) := by decide +kernel
theorem dX9_needs_11 : decode cX9_needs 11 = .ok (.iaload, 1) := by decide +kernel
theorem dX9_needs_12 : decode cX9_needs 12 = .ok (.invokestatic 101, 3) := by decide +kernel
theorem dX9_needs_15 : decode cX9_needs 15 = .ok (.ireturn, 1) := by decide +kernel
theorem dX9_counts_0 : decode cX9_counts 0 = .ok (.aload_n 0, 1) := by decide +kernel
theorem dX9_counts_1 : decode cX9_counts 1 = .ok (.getfield 7, 3) := by decide +kernel
theorem dX9_counts_4 : decode cX9_counts 4 = .ok (.iload_n 1, 1) := by decide +kernel
theorem dX9_counts_5 : decode cX9_counts 5 = .ok (.iaload, 1) := by decide +kernel
theorem dX9_counts_6 : decode cX9_counts 6 = .ok (.iconst 4, 1) := by decide +kernel
theorem dX9_counts_7 : decode cX9_counts 7 = .ok (.if_icmp .ne 7, 3) := by decide +kernel
theorem dX9_counts_10 : decode cX9_counts 10 = .ok (.iconst 2, 1) := by decide +kernel
theorem dX9_counts_11 : decode cX9_counts 11 = .ok (.goto 4, 3) := by decide +kernel
theorem dX9_counts_14 : decode cX9_counts 14 = .ok (.iconst 1, 1) := by decide +kernel
theorem dX9_counts_15 : decode cX9_counts 15 = .ok (.ireturn, 1) := by decide +kernel
theorem dX9_countsOf_0 : decode cX9_countsOf 0 = .ok (.iconst 0, 1) := by decide +kernel
theorem dX9_countsOf_1 : decode cX9_countsOf 1 = .ok (.istore_n 2, 1) := by decide +kernel
theorem dX9_countsOf_2 : decode cX9_countsOf 2 = .ok (.iconst 0, 1) := by decide +kernel
theorem dX9_countsOf_3 : decode cX9_countsOf 3 = .ok (.istore_n 3, 1) := by decide +kernel
theorem dX9_countsOf_4 : decode cX9_countsOf 4 = .ok (.iload_n 3, 1) := by decide +kernel
theorem dX9_countsOf_5 : decode cX9_countsOf 5 = .ok (.aload_n 0, 1) := by decide +kernel
theorem dX9_countsOf_6 : decode cX9_countsOf 6 = .ok (.getfield 83, 3) := by decide +kernel
theorem dX9_countsOf_9 : decode cX9_countsOf 9 = .ok (.if_icmp .ge 29, 3) := by decide +kernel
theorem dX9_countsOf_12 : decode cX9_countsOf 12 = .ok (.iload_n 2, 1) := by decide +kernel
theorem dX9_countsOf_13 : decode cX9_countsOf 13 = .ok (.iload_n 1, 1) := by decide +kernel
theorem dX9_countsOf_14 : decode cX9_countsOf 14 = .ok (.iload_n 3, 1) := by decide +kernel
theorem dX9_countsOf_15 : decode cX9_countsOf 15 = .ok (.invokestatic 105, 3) := by decide +kernel
theorem dX9_countsOf_18 : decode cX9_countsOf 18 = .ok (.ifCond .eq 11, 3) := by decide +kernel
theorem dX9_countsOf_21 : decode cX9_countsOf 21 = .ok (.aload_n 0, 1) := by decide +kernel
theorem dX9_countsOf_22 : decode cX9_countsOf 22 = .ok (.iload_n 3, 1) := by decide +kernel
theorem dX9_countsOf_23 : decode cX9_countsOf 23 = .ok (.invokevirtual 108, 3) := by decide +kernel
theorem dX9_countsOf_26 : decode cX9_countsOf 26 = .ok (.goto 4, 3) := by decide +kernel
theorem dX9_countsOf_29 : decode cX9_countsOf 29 = .ok (.iconst 0, 1) := by decide +kernel
theorem dX9_countsOf_30 : decode cX9_countsOf 30 = .ok (.iadd, 1) := by decide +kernel
theorem dX9_countsOf_31 : decode cX9_countsOf 31 = .ok (.istore_n 2, 1) := by decide +kernel
theorem dX9_countsOf_32 : decode cX9_countsOf 32 = .ok (.iinc 3 1, 3) := by decide +kernel
theorem dX9_countsOf_35 : decode cX9_countsOf 35 = .ok (.goto (-31), 3) := by decide +kernel
theorem dX9_countsOf_38 : decode cX9_countsOf 38 = .ok (.iload_n 2, 1) := by decide +kernel
theorem dX9_countsOf_39 : decode cX9_countsOf 39 = .ok (.ireturn, 1) := by decide +kernel
theorem dX9_gone_0 : decode cX9_gone 0 = .ok (.aload_n 0, 1) := by decide +kernel
theorem dX9_gone_1 : decode cX9_gone 1 = .ok (.invokevirtual 111, 3) := by decide +kernel
theorem dX9_gone_4 : decode cX9_gone 4 = .ok (.aload_n 0, 1) := by decide +kernel
theorem dX9_gone_5 : decode cX9_gone 5 = .ok (.getfield 89, 3) := by decide +kernel
theorem dX9_gone_8 : decode cX9_gone 8 = .ok (.iconst (-1), 1) := by decide +kernel
theorem dX9_gone_9 : decode cX9_gone 9 = .ok (.ixor, 1) := by decide +kernel
theorem dX9_gone_10 : decode cX9_gone 10 = .ok (.iand, 1) := by decide +kernel
theorem dX9_gone_11 : decode cX9_gone 11 = .ok (.ireturn, 1) := by decide +kernel
theorem dX9_othersFor_0 : decode cX9_othersFor 0 = .ok (.aload_n 0, 1) := by decide +kernel
theorem dX9_othersFor_1 : decode cX9_othersFor 1 = .ok (.iload_n 2, 1) := by decide +kernel
theorem dX9_othersFor_2 : decode cX9_othersFor 2 = .ok (.aload_n 0, 1) := by decide +kernel
theorem dX9_othersFor_3 : decode cX9_othersFor 3 = .ok (.invokevirtual 114, 3) := by decide +kernel
theorem dX9_othersFor_6 : decode cX9_othersFor 6 = .ok (.ior, 1) := by decide +kernel
theorem dX9_othersFor_7 : decode cX9_othersFor 7 = .ok (.iconst 1, 1) := by decide +kernel
theorem dX9_othersFor_8 : decode cX9_othersFor 8 = .ok (.iload_n 1, 1) := by decide +kernel
theorem dX9_othersFor_9 : decode cX9_othersFor 9 = .ok (.ishl, 1) := by decide +kernel
theorem dX9_othersFor_10 : decode cX9_othersFor 10 = .ok (.iconst (-1), 1) := by decide +kernel
theorem dX9_othersFor_11 : decode cX9_othersFor 11 = .ok (.ixor, 1) := by decide +kernel
theorem dX9_othersFor_12 : decode cX9_othersFor 12 = .ok (.iand, 1) := by decide +kernel
theorem dX9_othersFor_13 : decode cX9_othersFor 13 = .ok (.invokevirtual 117, 3) := by decide +kernel
theorem dX9_othersFor_16 : decode cX9_othersFor 16 = .ok (.ireturn, 1) := by decide +kernel
theorem dX9_hasFriend_0 : decode cX9_hasFriend 0 = .ok (.aload_n 0, 1) := by decide +kernel
theorem dX9_hasFriend_1 : decode cX9_hasFriend 1 = .ok (.getfield 16, 3) := by decide +kernel
theorem dX9_hasFriend_4 : decode cX9_hasFriend 4 = .ok (.iload_n 1, 1) := by decide +kernel
theorem dX9_hasFriend_5 : decode cX9_hasFriend 5 = .ok (.iaload, 1) := by decide +kernel
theorem dX9_hasFriend_6 : decode cX9_hasFriend 6 = .ok (.iconst (-1), 1) := by decide +kernel
theorem dX9_hasFriend_7 : decode cX9_hasFriend 7 = .ok (.if_icmp .eq 21, 3) := by decide +kernel
theorem dX9_hasFriend_10 : decode cX9_hasFriend 10 = .ok (.iload_n 2, 1) := by decide +kernel
theorem dX9_hasFriend_11 : decode cX9_hasFriend 11 = .ok (.aload_n 0, 1) := by decide +kernel
theorem dX9_hasFriend_12 : decode cX9_hasFriend 12 = .ok (.invokevirtual 114, 3) := by decide +kernel
theorem dX9_hasFriend_15 : decode cX9_hasFriend 15 = .ok (.ior, 1) := by decide +kernel
theorem dX9_hasFriend_16 : decode cX9_hasFriend 16 = .ok (.aload_n 0, 1) := by decide +kernel
theorem dX9_hasFriend_17 : decode cX9_hasFriend 17 = .ok (.getfield 16, 3) := by decide +kernel
theorem dX9_hasFriend_20 : decode cX9_hasFriend 20 = .ok (.iload_n 1, 1) := by decide +kernel
theorem dX9_hasFriend_21 : decode cX9_hasFriend 21 = .ok (.iaload, 1) := by decide +kernel
theorem dX9_hasFriend_22 : decode cX9_hasFriend 22 = .ok (.invokestatic 105, 3) := by decide +kernel
theorem dX9_hasFriend_25 : decode cX9_hasFriend 25 = .ok (.ifCond .eq 7, 3) := by decide +kernel
theorem dX9_hasFriend_28 : decode cX9_hasFriend 28 = .ok (.iconst 1, 1) := by decide +kernel
theorem dX9_hasFriend_29 : decode cX9_hasFriend 29 = .ok (.goto 4, 3) := by decide +kernel
theorem dX9_hasFriend_32 : decode cX9_hasFriend 32 = .ok (.iconst 0, 1) := by decide +kernel
theorem dX9_hasFriend_33 : decode cX9_hasFriend 33 = .ok (.ireturn, 1) := by decide +kernel
theorem dX9_canGo_0 : decode cX9_canGo 0 = .ok (.aload_n 0, 1) := by decide +kernel
theorem dX9_canGo_1 : decode cX9_canGo 1 = .ok (.iload_n 1, 1) := by decide +kernel
theorem dX9_canGo_2 : decode cX9_canGo 2 = .ok (.iload_n 2, 1) := by decide +kernel
theorem dX9_canGo_3 : decode cX9_canGo 3 = .ok (.invokevirtual 120, 3) := by decide +kernel
theorem dX9_canGo_6 : decode cX9_canGo 6 = .ok (.ifCond .eq 21, 3) := by decide +kernel
theorem dX9_canGo_9 : decode cX9_canGo 9 = .ok (.aload_n 0, 1) := by decide +kernel
theorem dX9_canGo_10 : decode cX9_canGo 10 = .ok (.iload_n 1, 1) := by decide +kernel
theorem dX9_canGo_11 : decode cX9_canGo 11 = .ok (.iload_n 2, 1) := by decide +kernel
theorem dX9_canGo_12 : decode cX9_canGo 12 = .ok (.invokevirtual 123, 3) := by decide +kernel
theorem dX9_canGo_15 : decode cX9_canGo 15 = .ok (.aload_n 0, 1) := by decide +kernel
theorem dX9_canGo_16 : decode cX9_canGo 16 = .ok (.iload_n 1, 1) := by decide +kernel
theorem dX9_canGo_17 : decode cX9_canGo 17 = .ok (.invokevirtual 126, 3) := by decide +kernel
theorem dX9_canGo_20 : decode cX9_canGo 20 = .ok (.if_icmp .lt 7, 3) := by decide +kernel
theorem dX9_canGo_23 : decode cX9_canGo 23 = .ok (.iconst 1, 1) := by decide +kernel
theorem dX9_canGo_24 : decode cX9_canGo 24 = .ok (.goto 4, 3) := by decide +kernel
theorem dX9_canGo_27 : decode cX9_canGo 27 = .ok (.iconst 0, 1) := by decide +kernel
theorem dX9_canGo_28 : decode cX9_canGo 28 = .ok (.ireturn, 1) := by decide +kernel
theorem dX9_canRise_0 : decode cX9_canRise 0 = .ok (.iconst 1, 1) := by decide +kernel
theorem dX9_canRise_1 : decode cX9_canRise 1 = .ok (.istore_n 2, 1) := by decide +kernel
theorem dX9_canRise_2 : decode cX9_canRise 2 = .ok (.iconst 0, 1) := by decide +kernel
theorem dX9_canRise_3 : decode cX9_canRise 3 = .ok (.istore_n 3, 1) := by decide +kernel
theorem dX9_canRise_4 : decode cX9_canRise 4 = .ok (.iload_n 3, 1) := by decide +kernel
theorem dX9_canRise_5 : decode cX9_canRise 5 = .ok (.aload_n 0, 1) := by decide +kernel
theorem dX9_canRise_6 : decode cX9_canRise 6 = .ok (.getfield 83, 3) := by decide +kernel
theorem dX9_canRise_9 : decode cX9_canRise 9 = .ok (.if_icmp .ge 36, 3) := by decide +kernel
theorem dX9_canRise_12 : decode cX9_canRise 12 = .ok (.iload_n 2, 1) := by decide +kernel
theorem dX9_canRise_13 : decode cX9_canRise 13 = .ok (.ifCond .eq 24, 3) := by decide +kernel
theorem dX9_canRise_16 : decode cX9_canRise 16 = .ok (.iload_n 1, 1) := by decide +kernel
theorem dX9_canRise_17 : decode cX9_canRise 17 = .ok (.iload_n 3, 1) := by decide +kernel
theorem dX9_canRise_18 : decode cX9_canRise 18 = .ok (.invokestatic 105, 3) := by decide +kernel
theorem dX9_canRise_21 : decode cX9_canRise 21 = .ok (.ifCond .eq 12, 3) := by decide +kernel
theorem dX9_canRise_24 : decode cX9_canRise 24 = .ok (.aload_n 0, 1) := by decide +kernel
theorem dX9_canRise_25 : decode cX9_canRise 25 = .ok (.iload_n 3, 1) := by decide +kernel
theorem dX9_canRise_26 : decode cX9_canRise 26 = .ok (.iload_n 1, 1) := by decide +kernel
theorem dX9_canRise_27 : decode cX9_canRise 27 = .ok (.invokevirtual 129, 3) := by decide +kernel
theorem dX9_canRise_30 : decode cX9_canRise 30 = .ok (.ifCond .eq 7, 3) := by decide +kernel
theorem dX9_canRise_33 : decode cX9_canRise 33 = .ok (.iconst 1, 1) := by decide +kernel
theorem dX9_canRise_34 : decode cX9_canRise 34 = .ok (.goto 4, 3) := by decide +kernel
theorem dX9_canRise_37 : decode cX9_canRise 37 = .ok (.iconst 0, 1) := by decide +kernel
theorem dX9_canRise_38 : decode cX9_canRise 38 = .ok (.istore_n 2, 1) := by decide +kernel
theorem dX9_canRise_39 : decode cX9_canRise 39 = .ok (.iinc 3 1, 3) := by decide +kernel
theorem dX9_canRise_42 : decode cX9_canRise 42 = .ok (.goto (-38), 3) := by decide +kernel
theorem dX9_canRise_45 : decode cX9_canRise 45 = .ok (.iload_n 2, 1) := by decide +kernel
theorem dX9_canRise_46 : decode cX9_canRise 46 = .ok (.ireturn, 1) := by decide +kernel
theorem dX9_mostOf_0 : decode cX9_mostOf 0 = .ok (.iload_n 1, 1) := by decide +kernel
theorem dX9_mostOf_1 : decode cX9_mostOf 1 = .ok (.istore_n 2, 1) := by decide +kernel
theorem dX9_mostOf_2 : decode cX9_mostOf 2 = .ok (.aload_n 0, 1) := by decide +kernel
theorem dX9_mostOf_3 : decode cX9_mostOf 3 = .ok (.iload_n 2, 1) := by decide +kernel
theorem dX9_mostOf_4 : decode cX9_mostOf 4 = .ok (.invokevirtual 132, 3) := by decide +kernel
theorem dX9_mostOf_7 : decode cX9_mostOf 7 = .ok (.istore_n 3, 1) := by decide +kernel
theorem dX9_mostOf_8 : decode cX9_mostOf 8 = .ok (.iload_n 3, 1) := by decide +kernel
theorem dX9_mostOf_9 : decode cX9_mostOf 9 = .ok (.iload_n 2, 1) := by decide +kernel
theorem dX9_mostOf_10 : decode cX9_mostOf 10 = .ok (.if_icmp .eq 14, 3) := by decide +kernel
theorem dX9_mostOf_13 : decode cX9_mostOf 13 = .ok (.iload_n 3, 1) := by decide +kernel
theorem dX9_mostOf_14 : decode cX9_mostOf 14 = .ok (.istore_n 2, 1) := by decide +kernel
theorem dX9_mostOf_15 : decode cX9_mostOf 15 = .ok (.aload_n 0, 1) := by decide +kernel
theorem dX9_mostOf_16 : decode cX9_mostOf 16 = .ok (.iload_n 2, 1) := by decide +kernel
theorem dX9_mostOf_17 : decode cX9_mostOf 17 = .ok (.invokevirtual 132, 3) := by decide +kernel
theorem dX9_mostOf_20 : decode cX9_mostOf 20 = .ok (.istore_n 3, 1) := by decide +kernel
theorem dX9_mostOf_21 : decode cX9_mostOf 21 = .ok (.goto (-13), 3) := by decide +kernel
theorem dX9_mostOf_24 : decode cX9_mostOf 24 = .ok (.iload_n 2, 1) := by decide +kernel
theorem dX9_mostOf_25 : decode cX9_mostOf 25 = .ok (.ireturn, 1) := by decide +kernel
theorem dX9_withoutStuck_0 : decode cX9_withoutStuck 0 = .ok (.iload_n 1, 1) := by decide +kernel
theorem dX9_withoutStuck_1 : decode cX9_withoutStuck 1 = .ok (.istore_n 2, 1) := by decide +kernel
theorem dX9_withoutStuck_2 : decode cX9_withoutStuck 2 = .ok (.iconst 0, 1) := by decide +kernel
theorem dX9_withoutStuck_3 : decode cX9_withoutStuck 3 = .ok (.istore_n 3, 1) := by decide +kernel
theorem dX9_withoutStuck_4 : decode cX9_withoutStuck 4 = .ok (.iload_n 3, 1) := by decide +kernel
theorem dX9_withoutStuck_5 : decode cX9_withoutStuck 5 = .ok (.aload_n 0, 1) := by decide +kernel
theorem dX9_withoutStuck_6 : decode cX9_withoutStuck 6 = .ok (.getfield 83, 3) := by decide +kernel
theorem dX9_withoutStuck_9 : decode cX9_withoutStuck 9 = .ok (.if_icmp .ge 38, 3) := by decide +kernel
theorem dX9_withoutStuck_12 : decode cX9_withoutStuck 12 = .ok (.iload_n 2, 1) := by decide +kernel
theorem dX9_withoutStuck_13 : decode cX9_withoutStuck 13 = .ok (.iload_n 1, 1) := by decide +kernel
theorem dX9_withoutStuck_14 : decode cX9_withoutStuck 14 = .ok (.iload_n 3, 1) := by decide +kernel
theorem dX9_withoutStuck_15 : decode cX9_withoutStuck 15 = .ok (.invokestatic 105, 3) := by decide +kernel
theorem dX9_withoutStuck_18 : decode cX9_withoutStuck 18 = .ok (.ifCond .eq 20, 3) := by decide +kernel
theorem dX9_withoutStuck_21 : decode cX9_withoutStuck 21 = .ok (.aload_n 0, 1) := by decide +kernel
theorem dX9_withoutStuck_22 : decode cX9_withoutStuck 22 = .ok (.iload_n 3, 1) := by decide +kernel
theorem dX9_withoutStuck_23 : decode cX9_withoutStuck 23 = .ok (.iload_n 1, 1) := by decide +kernel
theorem dX9_withoutStuck_24 : decode cX9_withoutStuck 24 = .ok (.invokevirtual 129, 3) := by decide +kernel
theorem dX9_withoutStuck_27 : decode cX9_withoutStuck 27 = .ok (.ifCond .ne 11, 3) := by decide +kernel
theorem dX9_withoutStuck_30 : decode cX9_withoutStuck 30 = .ok (.iconst 1, 1) := by decide +kernel
theorem dX9_withoutStuck_31 : decode cX9_withoutStuck 31 = .ok (.iload_n 3, 1) := by decide +kernel
theorem dX9_withoutStuck_32 : decode cX9_withoutStuck 32 = .ok (.ishl, 1) := by decide +kernel
theorem dX9_withoutStuck_33 : decode cX9_withoutStuck 33 = .ok (.iconst (-1), 1) := by decide +kernel
theorem dX9_withoutStuck_34 : decode cX9_withoutStuck 34 = .ok (.ixor, 1) := by decide +kernel
theorem dX9_withoutStuck_35 : decode cX9_withoutStuck 35 = .ok (.goto 4, 3) := by decide +kernel
theorem dX9_withoutStuck_38 : decode cX9_withoutStuck 38 = .ok (.iconst (-1), 1) := by decide +kernel
theorem dX9_withoutStuck_39 : decode cX9_withoutStuck 39 = .ok (.iand, 1) := by decide +kernel
theorem dX9_withoutStuck_40 : decode cX9_withoutStuck 40 = .ok (.istore_n 2, 1) := by decide +kernel
theorem dX9_withoutStuck_41 : decode cX9_withoutStuck 41 = .ok (.iinc 3 1, 3) := by decide +kernel
theorem dX9_withoutStuck_44 : decode cX9_withoutStuck 44 = .ok (.goto (-40), 3) := by decide +kernel
theorem dX9_withoutStuck_47 : decode cX9_withoutStuck 47 = .ok (.iload_n 2, 1) := by decide +kernel
theorem dX9_withoutStuck_48 : decode cX9_withoutStuck 48 = .ok (.ireturn, 1) := by decide +kernel
theorem dX9_guestNow_0 : decode cX9_guestNow 0 = .ok (.iload_n 2, 1) := by decide +kernel
theorem dX9_guestNow_1 : decode cX9_guestNow 1 = .ok (.tableswitch 109 0 7 #[47, 54, 61, 68, 85, 91, 97, 103], 47) := by decide +kernel
theorem dX9_guestNow_48 : decode cX9_guestNow 48 = .ok (.aload_n 0, 1) := by decide +kernel
theorem dX9_guestNow_49 : decode cX9_guestNow 49 = .ok (.getfield 7, 3) := by decide +kernel
theorem dX9_guestNow_52 : decode cX9_guestNow 52 = .ok (.iload_n 1, 1) := by decide +kernel
theorem dX9_guestNow_53 : decode cX9_guestNow 53 = .ok (.iaload, 1) := by decide +kernel
theorem dX9_guestNow_54 : decode cX9_guestNow 54 = .ok (.ireturn, 1) := by decide +kernel
theorem dX9_guestNow_55 : decode cX9_guestNow 55 = .ok (.aload_n 0, 1) := by decide +kernel
theorem dX9_guestNow_56 : decode cX9_guestNow 56 = .ok (.getfield 13, 3) := by decide +kernel
theorem dX9_guestNow_59 : decode cX9_guestNow 59 = .ok (.iload_n 1, 1) := by decide +kernel
theorem dX9_guestNow_60 : decode cX9_guestNow 60 = .ok (.iaload, 1) := by decide +kernel
theorem dX9_guestNow_61 : decode cX9_guestNow 61 = .ok (.ireturn, 1) := by decide +kernel
theorem dX9_guestNow_62 : decode cX9_guestNow 62 = .ok (.aload_n 0, 1) := by decide +kernel
theorem dX9_guestNow_63 : decode cX9_guestNow 63 = .ok (.getfield 16, 3) := by decide +kernel
theorem dX9_guestNow_66 : decode cX9_guestNow 66 = .ok (.iload_n 1, 1) := by decide +kernel
theorem dX9_guestNow_67 : decode cX9_guestNow 67 = .ok (.iaload, 1) := by decide +kernel
theorem dX9_guestNow_68 : decode cX9_guestNow 68 = .ok (.ireturn, 1) := by decide +kernel
theorem dX9_guestNow_69 : decode cX9_guestNow 69 = .ok (.aload_n 0, 1) := by decide +kernel
theorem dX9_guestNow_70 : decode cX9_guestNow 70 = .ok (.getfield 89, 3) := by decide +kernel
theorem dX9_guestNow_73 : decode cX9_guestNow 73 = .ok (.iload_n 1, 1) := by decide +kernel
theorem dX9_guestNow_74 : decode cX9_guestNow 74 = .ok (.invokestatic 105, 3) := by decide +kernel
theorem dX9_guestNow_77 : decode cX9_guestNow 77 = .ok (.ifCond .eq 7, 3) := by decide +kernel
theorem dX9_guestNow_80 : decode cX9_guestNow 80 = .ok (.iconst 1, 1) := by decide +kernel
theorem dX9_guestNow_81 : decode cX9_guestNow 81 = .ok (.goto 4, 3) := by decide +kernel
theorem dX9_guestNow_84 : decode cX9_guestNow 84 = .ok (.iconst 0, 1) := by decide +kernel
theorem dX9_guestNow_85 : decode cX9_guestNow 85 = .ok (.ireturn, 1) := by decide +kernel
theorem dX9_guestNow_86 : decode cX9_guestNow 86 = .ok (.aload_n 0, 1) := by decide +kernel
theorem dX9_guestNow_87 : decode cX9_guestNow 87 = .ok (.iload_n 1, 1) := by decide +kernel
theorem dX9_guestNow_88 : decode cX9_guestNow 88 = .ok (.invokevirtual 126, 3) := by decide +kernel
theorem dX9_guestNow_91 : decode cX9_guestNow 91 = .ok (.ireturn, 1) := by decide +kernel
theorem dX9_guestNow_92 : decode cX9_guestNow 92 = .ok (.aload_n 0, 1) := by decide +kernel
theorem dX9_guestNow_93 : decode cX9_guestNow 93 = .ok (.iload_n 1, 1) := by decide +kernel
theorem dX9_guestNow_94 : decode cX9_guestNow 94 = .ok (.invokevirtual 108, 3) := by decide +kernel
theorem dX9_guestNow_97 : decode cX9_guestNow 97 = .ok (.ireturn, 1) := by decide +kernel
theorem dX9_guestNow_98 : decode cX9_guestNow 98 = .ok (.aload_n 0, 1) := by decide +kernel
theorem dX9_guestNow_99 : decode cX9_guestNow 99 = .ok (.iload_n 1, 1) := by decide +kernel
theorem dX9_guestNow_100 : decode cX9_guestNow 100 = .ok (.invokevirtual 135, 3) := by decide +kernel
theorem dX9_guestNow_103 : decode cX9_guestNow 103 = .ok (.ireturn, 1) := by decide +kernel
theorem dX9_guestNow_104 : decode cX9_guestNow 104 = .ok (.aload_n 0, 1) := by decide +kernel
theorem dX9_guestNow_105 : decode cX9_guestNow 105 = .ok (.iload_n 1, 1) := by decide +kernel
theorem dX9_guestNow_106 : decode cX9_guestNow 106 = .ok (.invokevirtual 138, 3) := by decide +kernel
theorem dX9_guestNow_109 : decode cX9_guestNow 109 = .ok (.ireturn, 1) := by decide +kernel
theorem dX9_guestNow_110 : decode cX9_guestNow 110 = .ok (.aload_n 0, 1) := by decide +kernel
theorem dX9_guestNow_111 : decode cX9_guestNow 111 = .ok (.iload_n 1, 1) := by decide +kernel
theorem dX9_guestNow_112 : decode cX9_guestNow 112 = .ok (.invokevirtual 141, 3) := by decide +kernel
theorem dX9_guestNow_115 : decode cX9_guestNow 115 = .ok (.ireturn, 1) := by decide +kernel
theorem dX9_guest_0 : decode cX9_guest 0 = .ok (.aload_n 0, 1) := by decide +kernel
theorem dX9_guest_1 : decode cX9_guest 1 = .ok (.iload_n 1, 1) := by decide +kernel
theorem dX9_guest_2 : decode cX9_guest 2 = .ok (.invokevirtual 144, 3) := by decide +kernel
theorem dX9_guest_5 : decode cX9_guest 5 = .ok (.ifCond .ne 8, 3) := by decide +kernel
theorem dX9_guest_8 : decode cX9_guest 8 = .ok (.bipush (-101), 2) := by decide +kernel
theorem dX9_guest_10 : decode cX9_guest 10 = .ok (.goto 24, 3) := by decide +kernel
theorem dX9_guest_13 : decode cX9_guest 13 = .ok (.iload_n 2, 1) := by decide +kernel
theorem dX9_guest_14 : decode cX9_guest 14 = .ok (.iconst 0, 1) := by decide +kernel
theorem dX9_guest_15 : decode cX9_guest 15 = .ok (.bipush 8, 2) := by decide +kernel
theorem dX9_guest_17 : decode cX9_guest 17 = .ok (.invokestatic 50, 3) := by decide +kernel
theorem dX9_guest_20 : decode cX9_guest 20 = .ok (.ifCond .eq 12, 3) := by decide +kernel
theorem dX9_guest_23 : decode cX9_guest 23 = .ok (.aload_n 0, 1) := by decide +kernel
theorem dX9_guest_24 : decode cX9_guest 24 = .ok (.iload_n 1, 1) := by decide +kernel
theorem dX9_guest_25 : decode cX9_guest 25 = .ok (.iload_n 2, 1) := by decide +kernel
theorem dX9_guest_26 : decode cX9_guest 26 = .ok (.invokevirtual 148, 3) := by decide +kernel
theorem dX9_guest_29 : decode cX9_guest 29 = .ok (.goto 5, 3) := by decide +kernel
theorem dX9_guest_32 : decode cX9_guest 32 = .ok (.bipush (-102), 2) := by decide +kernel
theorem dX9_guest_34 : decode cX9_guest 34 = .ok (.ireturn, 1) := by decide +kernel
theorem dX9_as_0 : decode cX9_as 0 = .ok (.aload_n 0, 1) := by decide +kernel
theorem dX9_as_1 : decode cX9_as 1 = .ok (.iload_n 1, 1) := by decide +kernel
theorem dX9_as_2 : decode cX9_as 2 = .ok (.invokevirtual 144, 3) := by decide +kernel
theorem dX9_as_5 : decode cX9_as 5 = .ok (.ifCond .ne 6, 3) := by decide +kernel
theorem dX9_as_8 : decode cX9_as 8 = .ok (.bipush (-101), 2) := by decide +kernel
theorem dX9_as_10 : decode cX9_as 10 = .ok (.ireturn, 1) := by decide +kernel
theorem dX9_as_11 : decode cX9_as 11 = .ok (.iload_n 2, 1) := by decide +kernel
theorem dX9_as_12 : decode cX9_as 12 = .ok (.iconst 0, 1) := by decide +kernel
theorem dX9_as_13 : decode cX9_as 13 = .ok (.iconst 4, 1) := by decide +kernel
theorem dX9_as_14 : decode cX9_as 14 = .ok (.invokestatic 50, 3) := by decide +kernel
theorem dX9_as_17 : decode cX9_as 17 = .ok (.ifCond .ne 6, 3) := by decide +kernel
theorem dX9_as_20 : decode cX9_as 20 = .ok (.bipush (-102), 2) := by decide +kernel
theorem dX9_as_22 : decode cX9_as 22 = .ok (.ireturn, 1) := by decide +kernel
theorem dX9_as_23 : decode cX9_as 23 = .ok (.aload_n 0, 1) := by decide +kernel
theorem dX9_as_24 : decode cX9_as 24 = .ok (.getfield 7, 3) := by decide +kernel
theorem dX9_as_27 : decode cX9_as 27 = .ok (.iload_n 1, 1) := by decide +kernel
theorem dX9_as_28 : decode cX9_as 28 = .ok (.iaload, 1) := by decide +kernel
theorem dX9_as_29 : decode cX9_as 29 = .ok (.istore_n 3, 1) := by decide +kernel
theorem dX9_as_30 : decode cX9_as 30 = .ok (.iload_n 2, 1) := by decide +kernel
theorem dX9_as_31 : decode cX9_as 31 = .ok (.ifCond .eq 18, 3) := by decide +kernel
theorem dX9_as_34 : decode cX9_as 34 = .ok (.iload_n 3, 1) := by decide +kernel
theorem dX9_as_35 : decode cX9_as 35 = .ok (.iload_n 2, 1) := by decide +kernel
theorem dX9_as_36 : decode cX9_as 36 = .ok (.if_icmp .eq 13, 3) := by decide +kernel
theorem dX9_as_39 : decode cX9_as 39 = .ok (.iload_n 2, 1) := by decide +kernel
theorem dX9_as_40 : decode cX9_as 40 = .ok (.iconst 3, 1) := by decide +kernel
theorem dX9_as_41 : decode cX9_as 41 = .ok (.if_icmp .ne 12, 3) := by decide +kernel
theorem dX9_as_44 : decode cX9_as 44 = .ok (.iload_n 3, 1) := by decide +kernel
theorem dX9_as_45 : decode cX9_as 45 = .ok (.iconst 4, 1) := by decide +kernel
theorem dX9_as_46 : decode cX9_as 46 = .ok (.if_icmp .ne 7, 3) := by decide +kernel
theorem dX9_as_49 : decode cX9_as 49 = .ok (.iload_n 1, 1) := by decide +kernel
theorem dX9_as_50 : decode cX9_as 50 = .ok (.goto 4, 3) := by decide +kernel
theorem dX9_as_53 : decode cX9_as 53 = .ok (.iconst (-1), 1) := by decide +kernel
theorem dX9_as_54 : decode cX9_as 54 = .ok (.ireturn, 1) := by decide +kernel
theorem dX9_rise_0 : decode cX9_rise 0 = .ok (.iload_n 1, 1) := by decide +kernel
theorem dX9_rise_1 : decode cX9_rise 1 = .ok (.ifCond .le 11, 3) := by decide +kernel
theorem dX9_rise_4 : decode cX9_rise 4 = .ok (.iload_n 1, 1) := by decide +kernel
theorem dX9_rise_5 : decode cX9_rise 5 = .ok (.aload_n 0, 1) := by decide +kernel
theorem dX9_rise_6 : decode cX9_rise 6 = .ok (.invokevirtual 111, 3) := by decide +kernel
theorem dX9_rise_9 : decode cX9_rise 9 = .ok (.if_icmp .le 6, 3) := by decide +kernel
theorem dX9_rise_12 : decode cX9_rise 12 = .ok (.bipush (-101), 2) := by decide +kernel
theorem dX9_rise_14 : decode cX9_rise 14 = .ok (.ireturn, 1) := by decide +kernel
theorem dX9_rise_15 : decode cX9_rise 15 = .ok (.iload_n 1, 1) := by decide +kernel
theorem dX9_rise_16 : decode cX9_rise 16 = .ok (.aload_n 0, 1) := by decide +kernel
theorem dX9_rise_17 : decode cX9_rise 17 = .ok (.getfield 89, 3) := by decide +kernel
theorem dX9_rise_20 : decode cX9_rise 20 = .ok (.iconst (-1), 1) := by decide +kernel
theorem dX9_rise_21 : decode cX9_rise 21 = .ok (.ixor, 1) := by decide +kernel
theorem dX9_rise_22 : decode cX9_rise 22 = .ok (.iand, 1) := by decide +kernel
theorem dX9_rise_23 : decode cX9_rise 23 = .ok (.ifCond .ne 11, 3) := by decide +kernel
theorem dX9_rise_26 : decode cX9_rise 26 = .ok (.aload_n 0, 1) := by decide +kernel
theorem dX9_rise_27 : decode cX9_rise 27 = .ok (.iload_n 1, 1) := by decide +kernel
theorem dX9_rise_28 : decode cX9_rise 28 = .ok (.invokevirtual 151, 3) := by decide +kernel
theorem dX9_rise_31 : decode cX9_rise 31 = .ok (.ifCond .ne 6, 3) := by decide +kernel
theorem dX9_rise_34 : decode cX9_rise 34 = .ok (.bipush (-103), 2) := by decide +kernel
theorem dX9_rise_36 : decode cX9_rise 36 = .ok (.ireturn, 1) := by decide +kernel
theorem dX9_rise_37 : decode cX9_rise 37 = .ok (.aload_n 0, 1) := by decide +kernel
theorem dX9_rise_38 : decode cX9_rise 38 = .ok (.dup, 1) := by decide +kernel
theorem dX9_rise_39 : decode cX9_rise 39 = .ok (.getfield 89, 3) := by decide +kernel
theorem dX9_rise_42 : decode cX9_rise 42 = .ok (.iload_n 1, 1) := by decide +kernel
theorem dX9_rise_43 : decode cX9_rise 43 = .ok (.iconst (-1), 1) := by decide +kernel
theorem dX9_rise_44 : decode cX9_rise 44 = .ok (.ixor, 1) := by decide +kernel
theorem dX9_rise_45 : decode cX9_rise 45 = .ok (.iand, 1) := by decide +kernel
theorem dX9_rise_46 : decode cX9_rise 46 = .ok (.putfield 89, 3) := by decide +kernel
theorem dX9_rise_49 : decode cX9_rise 49 = .ok (.iload_n 1, 1) := by decide +kernel
theorem dX9_rise_50 : decode cX9_rise 50 = .ok (.invokestatic 154, 3) := by decide +kernel
theorem dX9_rise_53 : decode cX9_rise 53 = .ok (.ireturn, 1) := by decide +kernel
theorem dX9_firstAlone_0 : decode cX9_firstAlone 0 = .ok (.iconst 0, 1) := by decide +kernel
theorem dX9_firstAlone_1 : decode cX9_firstAlone 1 = .ok (.istore_n 1, 1) := by decide +kernel
theorem dX9_firstAlone_2 : decode cX9_firstAlone 2 = .ok (.iload_n 1, 1) := by decide +kernel
theorem dX9_firstAlone_3 : decode cX9_firstAlone 3 = .ok (.aload_n 0, 1) := by decide +kernel
theorem dX9_firstAlone_4 : decode cX9_firstAlone 4 = .ok (.getfield 83, 3) := by decide +kernel
theorem dX9_firstAlone_7 : decode cX9_firstAlone 7 = .ok (.if_icmp .ge 31, 3) := by decide +kernel
theorem dX9_firstAlone_10 : decode cX9_firstAlone 10 = .ok (.aload_n 0, 1) := by decide +kernel
theorem dX9_firstAlone_11 : decode cX9_firstAlone 11 = .ok (.getfield 89, 3) := by decide +kernel
theorem dX9_firstAlone_14 : decode cX9_firstAlone 14 = .ok (.iload_n 1, 1) := by decide +kernel
theorem dX9_firstAlone_15 : decode cX9_firstAlone 15 = .ok (.invokestatic 105, 3) := by decide +kernel
theorem dX9_firstAlone_18 : decode cX9_firstAlone 18 = .ok (.ifCond .eq 14, 3) := by decide +kernel
theorem dX9_firstAlone_21 : decode cX9_firstAlone 21 = .ok (.aload_n 0, 1) := by decide +kernel
theorem dX9_firstAlone_22 : decode cX9_firstAlone 22 = .ok (.iload_n 1, 1) := by decide +kernel
theorem dX9_firstAlone_23 : decode cX9_firstAlone 23 = .ok (.iconst 1, 1) := by decide +kernel
theorem dX9_firstAlone_24 : decode cX9_firstAlone 24 = .ok (.iload_n 1, 1) := by decide +kernel
theorem dX9_firstAlone_25 : decode cX9_firstAlone 25 = .ok (.ishl, 1) := by decide +kernel
theorem dX9_firstAlone_26 : decode cX9_firstAlone 26 = .ok (.invokevirtual 129, 3) := by decide +kernel
theorem dX9_firstAlone_29 : decode cX9_firstAlone 29 = .ok (.ifCond .ne 9, 3) := by decide +kernel
theorem dX9_firstAlone_32 : decode cX9_firstAlone 32 = .ok (.iinc 1 1, 3) := by decide +kernel
theorem dX9_firstAlone_35 : decode cX9_firstAlone 35 = .ok (.goto (-33), 3) := by decide +kernel
theorem dX9_firstAlone_38 : decode cX9_firstAlone 38 = .ok (.iload_n 1, 1) := by decide +kernel
theorem dX9_firstAlone_39 : decode cX9_firstAlone 39 = .ok (.aload_n 0, 1) := by decide +kernel
theorem dX9_firstAlone_40 : decode cX9_firstAlone 40 = .ok (.getfield 83, 3) := by decide +kernel
theorem dX9_firstAlone_43 : decode cX9_firstAlone 43 = .ok (.if_icmp .ne 7, 3) := by decide +kernel
theorem dX9_firstAlone_46 : decode cX9_firstAlone 46 = .ok (.iconst (-1), 1) := by decide +kernel
theorem dX9_firstAlone_47 : decode cX9_firstAlone 47 = .ok (.goto 4, 3) := by decide +kernel
theorem dX9_firstAlone_50 : decode cX9_firstAlone 50 = .ok (.iload_n 1, 1) := by decide +kernel
theorem dX9_firstAlone_51 : decode cX9_firstAlone 51 = .ok (.ireturn, 1) := by decide +kernel
theorem dX9_shyLess_0 : decode cX9_shyLess 0 = .ok (.aload_n 0, 1) := by decide +kernel
theorem dX9_shyLess_1 : decode cX9_shyLess 1 = .ok (.getfield 13, 3) := by decide +kernel
theorem dX9_shyLess_4 : decode cX9_shyLess 4 = .ok (.iload_n 1, 1) := by decide +kernel
theorem dX9_shyLess_5 : decode cX9_shyLess 5 = .ok (.dup2, 1) := by decide +kernel
theorem dX9_shyLess_6 : decode cX9_shyLess 6 = .ok (.iaload, 1) := by decide +kernel
theorem dX9_shyLess_7 : decode cX9_shyLess 7 = .ok (.aload_n 0, 1) := by decide +kernel
theorem dX9_shyLess_8 : decode cX9_shyLess 8 = .ok (.getfield 13, 3) := by decide +kernel
theorem dX9_shyLess_11 : decode cX9_shyLess 11 = .ok (.iload_n 1, 1) := by decide +kernel
theorem dX9_shyLess_12 : decode cX9_shyLess 12 = .ok (.iaload, 1) := by decide +kernel
theorem dX9_shyLess_13 : decode cX9_shyLess 13 = .ok (.ifCond .le 7, 3) := by decide +kernel
theorem dX9_shyLess_16 : decode cX9_shyLess 16 = .ok (.iconst 1, 1) := by decide +kernel
theorem dX9_shyLess_17 : decode cX9_shyLess 17 = .ok (.goto 4, 3) := by decide +kernel
theorem dX9_shyLess_20 : decode cX9_shyLess 20 = .ok (.iconst 0, 1) := by decide +kernel
theorem dX9_shyLess_21 : decode cX9_shyLess 21 = .ok (.isub, 1) := by decide +kernel
theorem dX9_shyLess_22 : decode cX9_shyLess 22 = .ok (.iastore, 1) := by decide +kernel
theorem dX9_shyLess_23 : decode cX9_shyLess 23 = .ok (.return_, 1) := by decide +kernel
theorem dX9_goHour_0 : decode cX9_goHour 0 = .ok (.aload_n 0, 1) := by decide +kernel
theorem dX9_goHour_1 : decode cX9_goHour 1 = .ok (.getfield 89, 3) := by decide +kernel
theorem dX9_goHour_4 : decode cX9_goHour 4 = .ok (.invokestatic 154, 3) := by decide +kernel
theorem dX9_goHour_7 : decode cX9_goHour 7 = .ok (.istore_n 1, 1) := by decide +kernel
theorem dX9_goHour_8 : decode cX9_goHour 8 = .ok (.aload_n 0, 1) := by decide +kernel
theorem dX9_goHour_9 : decode cX9_goHour 9 = .ok (.aload_n 0, 1) := by decide +kernel
theorem dX9_goHour_10 : decode cX9_goHour 10 = .ok (.getfield 86, 3) := by decide +kernel
theorem dX9_goHour_13 : decode cX9_goHour 13 = .ok (.iload_n 1, 1) := by decide +kernel
theorem dX9_goHour_14 : decode cX9_goHour 14 = .ok (.if_icmp .le 12, 3) := by decide +kernel
theorem dX9_goHour_17 : decode cX9_goHour 17 = .ok (.aload_n 0, 1) := by decide +kernel
theorem dX9_goHour_18 : decode cX9_goHour 18 = .ok (.getfield 86, 3) := by decide +kernel
theorem dX9_goHour_21 : decode cX9_goHour 21 = .ok (.iload_n 1, 1) := by decide +kernel
theorem dX9_goHour_22 : decode cX9_goHour 22 = .ok (.isub, 1) := by decide +kernel
theorem dX9_goHour_23 : decode cX9_goHour 23 = .ok (.goto 4, 3) := by decide +kernel
theorem dX9_goHour_26 : decode cX9_goHour 26 = .ok (.iconst 0, 1) := by decide +kernel
theorem dX9_goHour_27 : decode cX9_goHour 27 = .ok (.putfield 86, 3) := by decide +kernel
theorem dX9_goHour_30 : decode cX9_goHour 30 = .ok (.iconst 0, 1) := by decide +kernel
theorem dX9_goHour_31 : decode cX9_goHour 31 = .ok (.istore_n 2, 1) := by decide +kernel
theorem dX9_goHour_32 : decode cX9_goHour 32 = .ok (.iload_n 2, 1) := by decide +kernel
theorem dX9_goHour_33 : decode cX9_goHour 33 = .ok (.aload_n 0, 1) := by decide +kernel
theorem dX9_goHour_34 : decode cX9_goHour 34 = .ok (.getfield 83, 3) := by decide +kernel
theorem dX9_goHour_37 : decode cX9_goHour 37 = .ok (.if_icmp .ge 32, 3) := by decide +kernel
theorem dX9_goHour_40 : decode cX9_goHour 40 = .ok (.aload_n 0, 1) := by decide +kernel
theorem dX9_goHour_41 : decode cX9_goHour 41 = .ok (.getfield 86, 3) := by decide +kernel
theorem dX9_goHour_44 : decode cX9_goHour 44 = .ok (.ifCond .ne 25, 3) := by decide +kernel
theorem dX9_goHour_47 : decode cX9_goHour 47 = .ok (.aload_n 0, 1) := by decide +kernel
theorem dX9_goHour_48 : decode cX9_goHour 48 = .ok (.getfield 89, 3) := by decide +kernel
theorem dX9_goHour_51 : decode cX9_goHour 51 = .ok (.iload_n 2, 1) := by decide +kernel
theorem dX9_goHour_52 : decode cX9_goHour 52 = .ok (.invokestatic 105, 3) := by decide +kernel
theorem dX9_goHour_55 : decode cX9_goHour 55 = .ok (.ifCond .eq 8, 3) := by decide +kernel
theorem dX9_goHour_58 : decode cX9_goHour 58 = .ok (.aload_n 0, 1) := by decide +kernel
theorem dX9_goHour_59 : decode cX9_goHour 59 = .ok (.iload_n 2, 1) := by decide +kernel
theorem dX9_goHour_60 : decode cX9_goHour 60 = .ok (.invokevirtual 157, 3) := by decide +kernel
theorem dX9_goHour_63 : decode cX9_goHour 63 = .ok (.iinc 2 1, 3) := by decide +kernel
theorem dX9_goHour_66 : decode cX9_goHour 66 = .ok (.goto (-34), 3) := by decide +kernel
theorem dX9_goHour_69 : decode cX9_goHour 69 = .ok (.iconst 0, 1) := by decide +kernel
theorem dX9_goHour_70 : decode cX9_goHour 70 = .ok (.istore_n 2, 1) := by decide +kernel
theorem dX9_goHour_71 : decode cX9_goHour 71 = .ok (.aload_n 0, 1) := by decide +kernel
theorem dX9_goHour_72 : decode cX9_goHour 72 = .ok (.invokevirtual 161, 3) := by decide +kernel
theorem dX9_goHour_75 : decode cX9_goHour 75 = .ok (.istore_n 3, 1) := by decide +kernel
theorem dX9_goHour_76 : decode cX9_goHour 76 = .ok (.iload_n 3, 1) := by decide +kernel
theorem dX9_goHour_77 : decode cX9_goHour 77 = .ok (.iconst (-1), 1) := by decide +kernel
theorem dX9_goHour_78 : decode cX9_goHour 78 = .ok (.if_icmp .eq 28, 3) := by decide +kernel
theorem dX9_goHour_81 : decode cX9_goHour 81 = .ok (.aload_n 0, 1) := by decide +kernel
theorem dX9_goHour_82 : decode cX9_goHour 82 = .ok (.dup, 1) := by decide +kernel
theorem dX9_goHour_83 : decode cX9_goHour 83 = .ok (.getfield 89, 3) := by decide +kernel
theorem dX9_goHour_86 : decode cX9_goHour 86 = .ok (.iconst 1, 1) := by decide +kernel
theorem dX9_goHour_87 : decode cX9_goHour 87 = .ok (.iload_n 3, 1) := by decide +kernel
theorem dX9_goHour_88 : decode cX9_goHour 88 = .ok (.ishl, 1) := by decide +kernel
theorem dX9_goHour_89 : decode cX9_goHour 89 = .ok (.iconst (-1), 1) := by decide +kernel
theorem dX9_goHour_90 : decode cX9_goHour 90 = .ok (.ixor, 1) := by decide +kernel
theorem dX9_goHour_91 : decode cX9_goHour 91 = .ok (.iand, 1) := by decide +kernel
theorem dX9_goHour_92 : decode cX9_goHour 92 = .ok (.putfield 89, 3) := by decide +kernel
theorem dX9_goHour_95 : decode cX9_goHour 95 = .ok (.iinc 2 1, 3) := by decide +kernel
theorem dX9_goHour_98 : decode cX9_goHour 98 = .ok (.aload_n 0, 1) := by decide +kernel
theorem dX9_goHour_99 : decode cX9_goHour 99 = .ok (.invokevirtual 161, 3) := by decide +kernel
theorem dX9_goHour_102 : decode cX9_goHour 102 = .ok (.istore_n 3, 1) := by decide +kernel
theorem dX9_goHour_103 : decode cX9_goHour 103 = .ok (.goto (-27), 3) := by decide +kernel
theorem dX9_goHour_106 : decode cX9_goHour 106 = .ok (.iload_n 2, 1) := by decide +kernel
theorem dX9_goHour_107 : decode cX9_goHour 107 = .ok (.ireturn, 1) := by decide +kernel
theorem dX9_hour_0 : decode cX9_hour 0 = .ok (.aload_n 0, 1) := by decide +kernel
theorem dX9_hour_1 : decode cX9_hour 1 = .ok (.getfield 83, 3) := by decide +kernel
theorem dX9_hour_4 : decode cX9_hour 4 = .ok (.ifCond .ne 6, 3) := by decide +kernel
theorem dX9_hour_7 : decode cX9_hour 7 = .ok (.bipush (-103), 2) := by decide +kernel
theorem dX9_hour_9 : decode cX9_hour 9 = .ok (.ireturn, 1) := by decide +kernel
theorem dX9_hour_10 : decode cX9_hour 10 = .ok (.aload_n 0, 1) := by decide +kernel
theorem dX9_hour_11 : decode cX9_hour 11 = .ok (.getfield 92, 3) := by decide +kernel
theorem dX9_hour_14 : decode cX9_hour 14 = .ok (.sipush 999, 3) := by decide +kernel
theorem dX9_hour_17 : decode cX9_hour 17 = .ok (.if_icmp .ne 6, 3) := by decide +kernel
theorem dX9_hour_20 : decode cX9_hour 20 = .ok (.bipush (-104), 2) := by decide +kernel
theorem dX9_hour_22 : decode cX9_hour 22 = .ok (.ireturn, 1) := by decide +kernel
theorem dX9_hour_23 : decode cX9_hour 23 = .ok (.aload_n 0, 1) := by decide +kernel
theorem dX9_hour_24 : decode cX9_hour 24 = .ok (.dup, 1) := by decide +kernel
theorem dX9_hour_25 : decode cX9_hour 25 = .ok (.getfield 92, 3) := by decide +kernel
theorem dX9_hour_28 : decode cX9_hour 28 = .ok (.iconst 1, 1) := by decide +kernel
theorem dX9_hour_29 : decode cX9_hour 29 = .ok (.iadd, 1) := by decide +kernel
theorem dX9_hour_30 : decode cX9_hour 30 = .ok (.putfield 92, 3) := by decide +kernel
theorem dX9_hour_33 : decode cX9_hour 33 = .ok (.aload_n 0, 1) := by decide +kernel
theorem dX9_hour_34 : decode cX9_hour 34 = .ok (.invokevirtual 164, 3) := by decide +kernel
theorem dX9_hour_37 : decode cX9_hour 37 = .ok (.ireturn, 1) := by decide +kernel
theorem dX9_hint_0 : decode cX9_hint 0 = .ok (.aload_n 0, 1) := by decide +kernel
theorem dX9_hint_1 : decode cX9_hint 1 = .ok (.iload_n 1, 1) := by decide +kernel
theorem dX9_hint_2 : decode cX9_hint 2 = .ok (.invokevirtual 144, 3) := by decide +kernel
theorem dX9_hint_5 : decode cX9_hint 5 = .ok (.ifCond .ne 6, 3) := by decide +kernel
theorem dX9_hint_8 : decode cX9_hint 8 = .ok (.bipush (-101), 2) := by decide +kernel
theorem dX9_hint_10 : decode cX9_hint 10 = .ok (.ireturn, 1) := by decide +kernel
theorem dX9_hint_11 : decode cX9_hint 11 = .ok (.aload_n 0, 1) := by decide +kernel
theorem dX9_hint_12 : decode cX9_hint 12 = .ok (.getfield 89, 3) := by decide +kernel
theorem dX9_hint_15 : decode cX9_hint 15 = .ok (.iload_n 1, 1) := by decide +kernel
theorem dX9_hint_16 : decode cX9_hint 16 = .ok (.invokestatic 105, 3) := by decide +kernel
theorem dX9_hint_19 : decode cX9_hint 19 = .ok (.ifCond .ne 6, 3) := by decide +kernel
theorem dX9_hint_22 : decode cX9_hint 22 = .ok (.bipush (-103), 2) := by decide +kernel
theorem dX9_hint_24 : decode cX9_hint 24 = .ok (.ireturn, 1) := by decide +kernel
theorem dX9_hint_25 : decode cX9_hint 25 = .ok (.aload_n 0, 1) := by decide +kernel
theorem dX9_hint_26 : decode cX9_hint 26 = .ok (.iload_n 1, 1) := by decide +kernel
theorem dX9_hint_27 : decode cX9_hint 27 = .ok (.invokevirtual 157, 3) := by decide +kernel
theorem dX9_hint_30 : decode cX9_hint 30 = .ok (.aload_n 0, 1) := by decide +kernel
theorem dX9_hint_31 : decode cX9_hint 31 = .ok (.getfield 13, 3) := by decide +kernel
theorem dX9_hint_34 : decode cX9_hint 34 = .ok (.iload_n 1, 1) := by decide +kernel
theorem dX9_hint_35 : decode cX9_hint 35 = .ok (.iaload, 1) := by decide +kernel
theorem dX9_hint_36 : decode cX9_hint 36 = .ok (.ireturn, 1) := by decide +kernel
theorem dX9_back_0 : decode cX9_back 0 = .ok (.aload_n 0, 1) := by decide +kernel
theorem dX9_back_1 : decode cX9_back 1 = .ok (.iload_n 1, 1) := by decide +kernel
theorem dX9_back_2 : decode cX9_back 2 = .ok (.invokevirtual 144, 3) := by decide +kernel
theorem dX9_back_5 : decode cX9_back 5 = .ok (.ifCond .ne 6, 3) := by decide +kernel
theorem dX9_back_8 : decode cX9_back 8 = .ok (.bipush (-101), 2) := by decide +kernel
theorem dX9_back_10 : decode cX9_back 10 = .ok (.ireturn, 1) := by decide +kernel
theorem dX9_back_11 : decode cX9_back 11 = .ok (.aload_n 0, 1) := by decide +kernel
theorem dX9_back_12 : decode cX9_back 12 = .ok (.getfield 89, 3) := by decide +kernel
theorem dX9_back_15 : decode cX9_back 15 = .ok (.iload_n 1, 1) := by decide +kernel
theorem dX9_back_16 : decode cX9_back 16 = .ok (.invokestatic 105, 3) := by decide +kernel
theorem dX9_back_19 : decode cX9_back 19 = .ok (.ifCond .eq 6, 3) := by decide +kernel
theorem dX9_back_22 : decode cX9_back 22 = .ok (.bipush (-103), 2) := by decide +kernel
theorem dX9_back_24 : decode cX9_back 24 = .ok (.ireturn, 1) := by decide +kernel
theorem dX9_back_25 : decode cX9_back 25 = .ok (.aload_n 0, 1) := by decide +kernel
theorem dX9_back_26 : decode cX9_back 26 = .ok (.dup, 1) := by decide +kernel
theorem dX9_back_27 : decode cX9_back 27 = .ok (.getfield 89, 3) := by decide +kernel
theorem dX9_back_30 : decode cX9_back 30 = .ok (.iconst 1, 1) := by decide +kernel
theorem dX9_back_31 : decode cX9_back 31 = .ok (.iload_n 1, 1) := by decide +kernel
theorem dX9_back_32 : decode cX9_back 32 = .ok (.ishl, 1) := by decide +kernel
theorem dX9_back_33 : decode cX9_back 33 = .ok (.ior, 1) := by decide +kernel
theorem dX9_back_34 : decode cX9_back 34 = .ok (.putfield 89, 3) := by decide +kernel
theorem dX9_back_37 : decode cX9_back 37 = .ok (.aload_n 0, 1) := by decide +kernel
theorem dX9_back_38 : decode cX9_back 38 = .ok (.getfield 89, 3) := by decide +kernel
theorem dX9_back_41 : decode cX9_back 41 = .ok (.invokestatic 154, 3) := by decide +kernel
theorem dX9_back_44 : decode cX9_back 44 = .ok (.ireturn, 1) := by decide +kernel
theorem dX9_feed_0 : decode cX9_feed 0 = .ok (.iload_n 1, 1) := by decide +kernel
theorem dX9_feed_1 : decode cX9_feed 1 = .ok (.iconst 1, 1) := by decide +kernel
theorem dX9_feed_2 : decode cX9_feed 2 = .ok (.bipush 50, 2) := by decide +kernel
theorem dX9_feed_4 : decode cX9_feed 4 = .ok (.invokestatic 50, 3) := by decide +kernel
theorem dX9_feed_7 : decode cX9_feed 7 = .ok (.ifCond .ne 6, 3) := by decide +kernel
theorem dX9_feed_10 : decode cX9_feed 10 = .ok (.bipush (-102), 2) := by decide +kernel
theorem dX9_feed_12 : decode cX9_feed 12 = .ok (.ireturn, 1) := by decide +kernel
theorem dX9_feed_13 : decode cX9_feed 13 = .ok (.aload_n 0, 1) := by decide +kernel
theorem dX9_feed_14 : decode cX9_feed 14 = .ok (.getfield 83, 3) := by decide +kernel
theorem dX9_feed_17 : decode cX9_feed 17 = .ok (.ifCond .ne 6, 3) := by decide +kernel
theorem dX9_feed_20 : decode cX9_feed 20 = .ok (.bipush (-103), 2) := by decide +kernel
theorem dX9_feed_22 : decode cX9_feed 22 = .ok (.ireturn, 1) := by decide +kernel
theorem dX9_feed_23 : decode cX9_feed 23 = .ok (.aload_n 0, 1) := by decide +kernel
theorem dX9_feed_24 : decode cX9_feed 24 = .ok (.getfield 86, 3) := by decide +kernel
theorem dX9_feed_27 : decode cX9_feed 27 = .ok (.iload_n 1, 1) := by decide +kernel
theorem dX9_feed_28 : decode cX9_feed 28 = .ok (.iadd, 1) := by decide +kernel
theorem dX9_feed_29 : decode cX9_feed 29 = .ok (.bipush 99, 2) := by decide +kernel
theorem dX9_feed_31 : decode cX9_feed 31 = .ok (.if_icmp .le 6, 3) := by decide +kernel
theorem dX9_feed_34 : decode cX9_feed 34 = .ok (.bipush (-104), 2) := by decide +kernel
theorem dX9_feed_36 : decode cX9_feed 36 = .ok (.ireturn, 1) := by decide +kernel
theorem dX9_feed_37 : decode cX9_feed 37 = .ok (.aload_n 0, 1) := by decide +kernel
theorem dX9_feed_38 : decode cX9_feed 38 = .ok (.dup, 1) := by decide +kernel
theorem dX9_feed_39 : decode cX9_feed 39 = .ok (.getfield 86, 3) := by decide +kernel
theorem dX9_feed_42 : decode cX9_feed 42 = .ok (.iload_n 1, 1) := by decide +kernel
theorem dX9_feed_43 : decode cX9_feed 43 = .ok (.iadd, 1) := by decide +kernel
theorem dX9_feed_44 : decode cX9_feed 44 = .ok (.putfield 86, 3) := by decide +kernel
theorem dX9_feed_47 : decode cX9_feed 47 = .ok (.aload_n 0, 1) := by decide +kernel
theorem dX9_feed_48 : decode cX9_feed 48 = .ok (.getfield 86, 3) := by decide +kernel
theorem dX9_feed_51 : decode cX9_feed 51 = .ok (.ireturn, 1) := by decide +kernel
theorem dX9_turn_0 : decode cX9_turn 0 = .ok (.aload_n 0, 1) := by decide +kernel
theorem dX9_turn_1 : decode cX9_turn 1 = .ok (.iload_n 1, 1) := by decide +kernel
theorem dX9_turn_2 : decode cX9_turn 2 = .ok (.invokevirtual 144, 3) := by decide +kernel
theorem dX9_turn_5 : decode cX9_turn 5 = .ok (.ifCond .ne 6, 3) := by decide +kernel
theorem dX9_turn_8 : decode cX9_turn 8 = .ok (.bipush (-101), 2) := by decide +kernel
theorem dX9_turn_10 : decode cX9_turn 10 = .ok (.ireturn, 1) := by decide +kernel
theorem dX9_turn_11 : decode cX9_turn 11 = .ok (.iload_n 2, 1) := by decide +kernel
theorem dX9_turn_12 : decode cX9_turn 12 = .ok (.iconst 0, 1) := by decide +kernel
theorem dX9_turn_13 : decode cX9_turn 13 = .ok (.iconst 4, 1) := by decide +kernel
theorem dX9_turn_14 : decode cX9_turn 14 = .ok (.invokestatic 50, 3) := by decide +kernel
theorem dX9_turn_17 : decode cX9_turn 17 = .ok (.ifCond .eq 13, 3) := by decide +kernel
theorem dX9_turn_20 : decode cX9_turn 20 = .ok (.iload_n 3, 1) := by decide +kernel
theorem dX9_turn_21 : decode cX9_turn 21 = .ok (.iconst 0, 1) := by decide +kernel
theorem dX9_turn_22 : decode cX9_turn 22 = .ok (.bipush 9, 2) := by decide +kernel
theorem dX9_turn_24 : decode cX9_turn 24 = .ok (.invokestatic 50, 3) := by decide +kernel
theorem dX9_turn_27 : decode cX9_turn 27 = .ok (.ifCond .ne 6, 3) := by decide +kernel
theorem dX9_turn_30 : decode cX9_turn 30 = .ok (.bipush (-102), 2) := by decide +kernel
theorem dX9_turn_32 : decode cX9_turn 32 = .ok (.ireturn, 1) := by decide +kernel
theorem dX9_turn_33 : decode cX9_turn 33 = .ok (.aload_n 0, 1) := by decide +kernel
theorem dX9_turn_34 : decode cX9_turn 34 = .ok (.getfield 7, 3) := by decide +kernel
theorem dX9_turn_37 : decode cX9_turn 37 = .ok (.iload_n 1, 1) := by decide +kernel
theorem dX9_turn_38 : decode cX9_turn 38 = .ok (.iaload, 1) := by decide +kernel
theorem dX9_turn_39 : decode cX9_turn 39 = .ok (.istore 4, 2) := by decide +kernel
theorem dX9_turn_41 : decode cX9_turn 41 = .ok (.aload_n 0, 1) := by decide +kernel
theorem dX9_turn_42 : decode cX9_turn 42 = .ok (.getfield 7, 3) := by decide +kernel
theorem dX9_turn_45 : decode cX9_turn 45 = .ok (.iload_n 1, 1) := by decide +kernel
theorem dX9_turn_46 : decode cX9_turn 46 = .ok (.iload_n 2, 1) := by decide +kernel
theorem dX9_turn_47 : decode cX9_turn 47 = .ok (.iastore, 1) := by decide +kernel
theorem dX9_turn_48 : decode cX9_turn 48 = .ok (.aload_n 0, 1) := by decide +kernel
theorem dX9_turn_49 : decode cX9_turn 49 = .ok (.getfield 13, 3) := by decide +kernel
theorem dX9_turn_52 : decode cX9_turn 52 = .ok (.iload_n 1, 1) := by decide +kernel
theorem dX9_turn_53 : decode cX9_turn 53 = .ok (.iload_n 3, 1) := by decide +kernel
theorem dX9_turn_54 : decode cX9_turn 54 = .ok (.iastore, 1) := by decide +kernel
theorem dX9_turn_55 : decode cX9_turn 55 = .ok (.iload 4, 2) := by decide +kernel
theorem dX9_turn_57 : decode cX9_turn 57 = .ok (.ireturn, 1) := by decide +kernel
theorem dX9_most_0 : decode cX9_most 0 = .ok (.aload_n 0, 1) := by decide +kernel
theorem dX9_most_1 : decode cX9_most 1 = .ok (.getfield 83, 3) := by decide +kernel
theorem dX9_most_4 : decode cX9_most 4 = .ok (.ifCond .ne 8, 3) := by decide +kernel
theorem dX9_most_7 : decode cX9_most 7 = .ok (.bipush (-103), 2) := by decide +kernel
theorem dX9_most_9 : decode cX9_most 9 = .ok (.goto 11, 3) := by decide +kernel
theorem dX9_most_12 : decode cX9_most 12 = .ok (.aload_n 0, 1) := by decide +kernel
theorem dX9_most_13 : decode cX9_most 13 = .ok (.aload_n 0, 1) := by decide +kernel
theorem dX9_most_14 : decode cX9_most 14 = .ok (.getfield 89, 3) := by decide +kernel
theorem dX9_most_17 : decode cX9_most 17 = .ok (.invokevirtual 167, 3) := by decide +kernel
theorem dX9_most_20 : decode cX9_most 20 = .ok (.ireturn, 1) := by decide +kernel
theorem dX9_leastNow_0 : decode cX9_leastNow 0 = .ok (.iconst 0, 1) := by decide +kernel
theorem dX9_leastNow_1 : decode cX9_leastNow 1 = .ok (.istore_n 1, 1) := by decide +kernel
theorem dX9_leastNow_2 : decode cX9_leastNow 2 = .ok (.iconst 1, 1) := by decide +kernel
theorem dX9_leastNow_3 : decode cX9_leastNow 3 = .ok (.istore_n 2, 1) := by decide +kernel
theorem dX9_leastNow_4 : decode cX9_leastNow 4 = .ok (.iload_n 2, 1) := by decide +kernel
theorem dX9_leastNow_5 : decode cX9_leastNow 5 = .ok (.aload_n 0, 1) := by decide +kernel
theorem dX9_leastNow_6 : decode cX9_leastNow 6 = .ok (.getfield 89, 3) := by decide +kernel
theorem dX9_leastNow_9 : decode cX9_leastNow 9 = .ok (.if_icmp .gt 59, 3) := by decide +kernel
theorem dX9_leastNow_12 : decode cX9_leastNow 12 = .ok (.iload_n 2, 1) := by decide +kernel
theorem dX9_leastNow_13 : decode cX9_leastNow 13 = .ok (.aload_n 0, 1) := by decide +kernel
theorem dX9_leastNow_14 : decode cX9_leastNow 14 = .ok (.getfield 89, 3) := by decide +kernel
theorem dX9_leastNow_17 : decode cX9_leastNow 17 = .ok (.iconst (-1), 1) := by decide +kernel
theorem dX9_leastNow_18 : decode cX9_leastNow 18 = .ok (.ixor, 1) := by decide +kernel
theorem dX9_leastNow_19 : decode cX9_leastNow 19 = .ok (.iand, 1) := by decide +kernel
theorem dX9_leastNow_20 : decode cX9_leastNow 20 = .ok (.ifCond .ne 22, 3) := by decide +kernel
theorem dX9_leastNow_23 : decode cX9_leastNow 23 = .ok (.iload_n 1, 1) := by decide +kernel
theorem dX9_leastNow_24 : decode cX9_leastNow 24 = .ok (.ifCond .eq 14, 3) := by decide +kernel
theorem dX9_leastNow_27 : decode cX9_leastNow 27 = .ok (.iload_n 2, 1) := by decide +kernel
theorem dX9_leastNow_28 : decode cX9_leastNow 28 = .ok (.invokestatic 154, 3) := by decide +kernel
theorem dX9_leastNow_31 : decode cX9_leastNow 31 = .ok (.iload_n 1, 1) := by decide +kernel
theorem dX9_leastNow_32 : decode cX9_leastNow 32 = .ok (.invokestatic 154, 3) := by decide +kernel
theorem dX9_leastNow_35 : decode cX9_leastNow 35 = .ok (.if_icmp .ge 7, 3) := by decide +kernel
theorem dX9_leastNow_38 : decode cX9_leastNow 38 = .ok (.iconst 1, 1) := by decide +kernel
theorem dX9_leastNow_39 : decode cX9_leastNow 39 = .ok (.goto 4, 3) := by decide +kernel
theorem dX9_leastNow_42 : decode cX9_leastNow 42 = .ok (.iconst 0, 1) := by decide +kernel
theorem dX9_leastNow_43 : decode cX9_leastNow 43 = .ok (.istore_n 3, 1) := by decide +kernel
theorem dX9_leastNow_44 : decode cX9_leastNow 44 = .ok (.iload_n 3, 1) := by decide +kernel
theorem dX9_leastNow_45 : decode cX9_leastNow 45 = .ok (.ifCond .eq 15, 3) := by decide +kernel
theorem dX9_leastNow_48 : decode cX9_leastNow 48 = .ok (.aload_n 0, 1) := by decide +kernel
theorem dX9_leastNow_49 : decode cX9_leastNow 49 = .ok (.iload_n 2, 1) := by decide +kernel
theorem dX9_leastNow_50 : decode cX9_leastNow 50 = .ok (.invokevirtual 151, 3) := by decide +kernel
theorem dX9_leastNow_53 : decode cX9_leastNow 53 = .ok (.ifCond .eq 7, 3) := by decide +kernel
theorem dX9_leastNow_56 : decode cX9_leastNow 56 = .ok (.iload_n 2, 1) := by decide +kernel
theorem dX9_leastNow_57 : decode cX9_leastNow 57 = .ok (.goto 4, 3) := by decide +kernel
theorem dX9_leastNow_60 : decode cX9_leastNow 60 = .ok (.iload_n 1, 1) := by decide +kernel
theorem dX9_leastNow_61 : decode cX9_leastNow 61 = .ok (.istore_n 1, 1) := by decide +kernel
theorem dX9_leastNow_62 : decode cX9_leastNow 62 = .ok (.iinc 2 1, 3) := by decide +kernel
theorem dX9_leastNow_65 : decode cX9_leastNow 65 = .ok (.goto (-61), 3) := by decide +kernel
theorem dX9_leastNow_68 : decode cX9_leastNow 68 = .ok (.iload_n 1, 1) := by decide +kernel
theorem dX9_leastNow_69 : decode cX9_leastNow 69 = .ok (.ireturn, 1) := by decide +kernel
theorem dX9_least_0 : decode cX9_least 0 = .ok (.aload_n 0, 1) := by decide +kernel
theorem dX9_least_1 : decode cX9_least 1 = .ok (.getfield 83, 3) := by decide +kernel
theorem dX9_least_4 : decode cX9_least 4 = .ok (.ifCond .ne 8, 3) := by decide +kernel
theorem dX9_least_7 : decode cX9_least 7 = .ok (.bipush (-103), 2) := by decide +kernel
theorem dX9_least_9 : decode cX9_least 9 = .ok (.goto 7, 3) := by decide +kernel
theorem dX9_least_12 : decode cX9_least 12 = .ok (.aload_n 0, 1) := by decide +kernel
theorem dX9_least_13 : decode cX9_least 13 = .ok (.invokevirtual 170, 3) := by decide +kernel
theorem dX9_least_16 : decode cX9_least 16 = .ok (.ireturn, 1) := by decide +kernel
theorem dX9_hintsFor_0 : decode cX9_hintsFor 0 = .ok (.aload_n 0, 1) := by decide +kernel
theorem dX9_hintsFor_1 : decode cX9_hintsFor 1 = .ok (.getfield 13, 3) := by decide +kernel
theorem dX9_hintsFor_4 : decode cX9_hintsFor 4 = .ok (.iload_n 1, 1) := by decide +kernel
theorem dX9_hintsFor_5 : decode cX9_hintsFor 5 = .ok (.iaload, 1) := by decide +kernel
theorem dX9_hintsFor_6 : decode cX9_hintsFor 6 = .ok (.istore_n 3, 1) := by decide +kernel
theorem dX9_hintsFor_7 : decode cX9_hintsFor 7 = .ok (.iload_n 3, 1) := by decide +kernel
theorem dX9_hintsFor_8 : decode cX9_hintsFor 8 = .ok (.ifCond .lt 32, 3) := by decide +kernel
theorem dX9_hintsFor_11 : decode cX9_hintsFor 11 = .ok (.aload_n 0, 1) := by decide +kernel
theorem dX9_hintsFor_12 : decode cX9_hintsFor 12 = .ok (.getfield 7, 3) := by decide +kernel
theorem dX9_hintsFor_15 : decode cX9_hintsFor 15 = .ok (.iload_n 1, 1) := by decide +kernel
theorem dX9_hintsFor_16 : decode cX9_hintsFor 16 = .ok (.iaload, 1) := by decide +kernel
theorem dX9_hintsFor_17 : decode cX9_hintsFor 17 = .ok (.iload_n 3, 1) := by decide +kernel
theorem dX9_hintsFor_18 : decode cX9_hintsFor 18 = .ok (.invokestatic 101, 3) := by decide +kernel
theorem dX9_hintsFor_21 : decode cX9_hintsFor 21 = .ok (.iload_n 2, 1) := by decide +kernel
theorem dX9_hintsFor_22 : decode cX9_hintsFor 22 = .ok (.if_icmp .gt 12, 3) := by decide +kernel
theorem dX9_hintsFor_25 : decode cX9_hintsFor 25 = .ok (.aload_n 0, 1) := by decide +kernel
theorem dX9_hintsFor_26 : decode cX9_hintsFor 26 = .ok (.getfield 13, 3) := by decide +kernel
theorem dX9_hintsFor_29 : decode cX9_hintsFor 29 = .ok (.iload_n 1, 1) := by decide +kernel
theorem dX9_hintsFor_30 : decode cX9_hintsFor 30 = .ok (.iaload, 1) := by decide +kernel
theorem dX9_hintsFor_31 : decode cX9_hintsFor 31 = .ok (.iload_n 3, 1) := by decide +kernel
theorem dX9_hintsFor_32 : decode cX9_hintsFor 32 = .ok (.isub, 1) := by decide +kernel
theorem dX9_hintsFor_33 : decode cX9_hintsFor 33 = .ok (.ireturn, 1) := by decide +kernel
theorem dX9_hintsFor_34 : decode cX9_hintsFor 34 = .ok (.iinc 3 (-1), 3) := by decide +kernel
theorem dX9_hintsFor_37 : decode cX9_hintsFor 37 = .ok (.goto (-30), 3) := by decide +kernel
theorem dX9_hintsFor_40 : decode cX9_hintsFor 40 = .ok (.ldc 173, 2) := by decide +kernel
theorem dX9_hintsFor_42 : decode cX9_hintsFor 42 = .ok (.ireturn, 1) := by decide +kernel
theorem dX9_hintsIn_0 : decode cX9_hintsIn 0 = .ok (.iconst 0, 1) := by decide +kernel
theorem dX9_hintsIn_1 : decode cX9_hintsIn 1 = .ok (.istore_n 2, 1) := by decide +kernel
theorem dX9_hintsIn_2 : decode cX9_hintsIn 2 = .ok (.iconst 0, 1) := by decide +kernel
theorem dX9_hintsIn_3 : decode cX9_hintsIn 3 = .ok (.istore_n 3, 1) := by decide +kernel
theorem dX9_hintsIn_4 : decode cX9_hintsIn 4 = .ok (.iload_n 3, 1) := by decide +kernel
theorem dX9_hintsIn_5 : decode cX9_hintsIn 5 = .ok (.aload_n 0, 1) := by decide +kernel
theorem dX9_hintsIn_6 : decode cX9_hintsIn 6 = .ok (.getfield 83, 3) := by decide +kernel
theorem dX9_hintsIn_9 : decode cX9_hintsIn 9 = .ok (.if_icmp .ge 67, 3) := by decide +kernel
theorem dX9_hintsIn_12 : decode cX9_hintsIn 12 = .ok (.iload_n 2, 1) := by decide +kernel
theorem dX9_hintsIn_13 : decode cX9_hintsIn 13 = .ok (.ldc 173, 2) := by decide +kernel
theorem dX9_hintsIn_15 : decode cX9_hintsIn 15 = .ok (.if_icmp .ge 61, 3) := by decide +kernel
theorem dX9_hintsIn_18 : decode cX9_hintsIn 18 = .ok (.iload_n 1, 1) := by decide +kernel
theorem dX9_hintsIn_19 : decode cX9_hintsIn 19 = .ok (.iload_n 3, 1) := by decide +kernel
theorem dX9_hintsIn_20 : decode cX9_hintsIn 20 = .ok (.invokestatic 105, 3) := by decide +kernel
theorem dX9_hintsIn_23 : decode cX9_hintsIn 23 = .ok (.ifCond .eq 47, 3) := by decide +kernel
theorem dX9_hintsIn_26 : decode cX9_hintsIn 26 = .ok (.aload_n 0, 1) := by decide +kernel
theorem dX9_hintsIn_27 : decode cX9_hintsIn 27 = .ok (.iload_n 3, 1) := by decide +kernel
theorem dX9_hintsIn_28 : decode cX9_hintsIn 28 = .ok (.iload_n 1, 1) := by decide +kernel
theorem dX9_hintsIn_29 : decode cX9_hintsIn 29 = .ok (.invokevirtual 120, 3) := by decide +kernel
theorem dX9_hintsIn_32 : decode cX9_hintsIn 32 = .ok (.ifCond .eq 17, 3) := by decide +kernel
theorem dX9_hintsIn_35 : decode cX9_hintsIn 35 = .ok (.aload_n 0, 1) := by decide +kernel
theorem dX9_hintsIn_36 : decode cX9_hintsIn 36 = .ok (.iload_n 3, 1) := by decide +kernel
theorem dX9_hintsIn_37 : decode cX9_hintsIn 37 = .ok (.aload_n 0, 1) := by decide +kernel
theorem dX9_hintsIn_38 : decode cX9_hintsIn 38 = .ok (.iload_n 3, 1) := by decide +kernel
theorem dX9_hintsIn_39 : decode cX9_hintsIn 39 = .ok (.iload_n 1, 1) := by decide +kernel
theorem dX9_hintsIn_40 : decode cX9_hintsIn 40 = .ok (.invokevirtual 123, 3) := by decide +kernel
theorem dX9_hintsIn_43 : decode cX9_hintsIn 43 = .ok (.invokevirtual 174, 3) := by decide +kernel
theorem dX9_hintsIn_46 : decode cX9_hintsIn 46 = .ok (.goto 5, 3) := by decide +kernel
theorem dX9_hintsIn_49 : decode cX9_hintsIn 49 = .ok (.ldc 173, 2) := by decide +kernel
theorem dX9_hintsIn_51 : decode cX9_hintsIn 51 = .ok (.istore 4, 2) := by decide +kernel
theorem dX9_hintsIn_53 : decode cX9_hintsIn 53 = .ok (.iload 4, 2) := by decide +kernel
theorem dX9_hintsIn_55 : decode cX9_hintsIn 55 = .ok (.ldc 173, 2) := by decide +kernel
theorem dX9_hintsIn_57 : decode cX9_hintsIn 57 = .ok (.if_icmp .ne 8, 3) := by decide +kernel
theorem dX9_hintsIn_60 : decode cX9_hintsIn 60 = .ok (.ldc 173, 2) := by decide +kernel
theorem dX9_hintsIn_62 : decode cX9_hintsIn 62 = .ok (.goto 7, 3) := by decide +kernel
theorem dX9_hintsIn_65 : decode cX9_hintsIn 65 = .ok (.iload_n 2, 1) := by decide +kernel
theorem dX9_hintsIn_66 : decode cX9_hintsIn 66 = .ok (.iload 4, 2) := by decide +kernel
theorem dX9_hintsIn_68 : decode cX9_hintsIn 68 = .ok (.iadd, 1) := by decide +kernel
theorem dX9_hintsIn_69 : decode cX9_hintsIn 69 = .ok (.istore_n 2, 1) := by decide +kernel
theorem dX9_hintsIn_70 : decode cX9_hintsIn 70 = .ok (.iinc 3 1, 3) := by decide +kernel
theorem dX9_hintsIn_73 : decode cX9_hintsIn 73 = .ok (.goto (-69), 3) := by decide +kernel
theorem dX9_hintsIn_76 : decode cX9_hintsIn 76 = .ok (.iload_n 2, 1) := by decide +kernel
theorem dX9_hintsIn_77 : decode cX9_hintsIn 77 = .ok (.ireturn, 1) := by decide +kernel
theorem dX9_homeFor_0 : decode cX9_homeFor 0 = .ok (.ldc 173, 2) := by decide +kernel
theorem dX9_homeFor_2 : decode cX9_homeFor 2 = .ok (.istore_n 2, 1) := by decide +kernel
theorem dX9_homeFor_3 : decode cX9_homeFor 3 = .ok (.iconst 1, 1) := by decide +kernel
theorem dX9_homeFor_4 : decode cX9_homeFor 4 = .ok (.istore_n 3, 1) := by decide +kernel
theorem dX9_homeFor_5 : decode cX9_homeFor 5 = .ok (.iload_n 3, 1) := by decide +kernel
theorem dX9_homeFor_6 : decode cX9_homeFor 6 = .ok (.aload_n 0, 1) := by decide +kernel
theorem dX9_homeFor_7 : decode cX9_homeFor 7 = .ok (.getfield 89, 3) := by decide +kernel
theorem dX9_homeFor_10 : decode cX9_homeFor 10 = .ok (.if_icmp .gt 65, 3) := by decide +kernel
theorem dX9_homeFor_13 : decode cX9_homeFor 13 = .ok (.iload_n 3, 1) := by decide +kernel
theorem dX9_homeFor_14 : decode cX9_homeFor 14 = .ok (.aload_n 0, 1) := by decide +kernel
theorem dX9_homeFor_15 : decode cX9_homeFor 15 = .ok (.getfield 89, 3) := by decide +kernel
theorem dX9_homeFor_18 : decode cX9_homeFor 18 = .ok (.iconst (-1), 1) := by decide +kernel
theorem dX9_homeFor_19 : decode cX9_homeFor 19 = .ok (.ixor, 1) := by decide +kernel
theorem dX9_homeFor_20 : decode cX9_homeFor 20 = .ok (.iand, 1) := by decide +kernel
theorem dX9_homeFor_21 : decode cX9_homeFor 21 = .ok (.ifCond .ne 15, 3) := by decide +kernel
theorem dX9_homeFor_24 : decode cX9_homeFor 24 = .ok (.iload_n 3, 1) := by decide +kernel
theorem dX9_homeFor_25 : decode cX9_homeFor 25 = .ok (.iload_n 1, 1) := by decide +kernel
theorem dX9_homeFor_26 : decode cX9_homeFor 26 = .ok (.invokestatic 105, 3) := by decide +kernel
theorem dX9_homeFor_29 : decode cX9_homeFor 29 = .ok (.ifCond .eq 7, 3) := by decide +kernel
theorem dX9_homeFor_32 : decode cX9_homeFor 32 = .ok (.iconst 1, 1) := by decide +kernel
theorem dX9_homeFor_33 : decode cX9_homeFor 33 = .ok (.goto 4, 3) := by decide +kernel
theorem dX9_homeFor_36 : decode cX9_homeFor 36 = .ok (.iconst 0, 1) := by decide +kernel
theorem dX9_homeFor_37 : decode cX9_homeFor 37 = .ok (.istore 4, 2) := by decide +kernel
theorem dX9_homeFor_39 : decode cX9_homeFor 39 = .ok (.iload 4, 2) := by decide +kernel
theorem dX9_homeFor_41 : decode cX9_homeFor 41 = .ok (.ifCond .eq 11, 3) := by decide +kernel
theorem dX9_homeFor_44 : decode cX9_homeFor 44 = .ok (.aload_n 0, 1) := by decide +kernel
theorem dX9_homeFor_45 : decode cX9_homeFor 45 = .ok (.iload_n 3, 1) := by decide +kernel
theorem dX9_homeFor_46 : decode cX9_homeFor 46 = .ok (.invokevirtual 177, 3) := by decide +kernel
theorem dX9_homeFor_49 : decode cX9_homeFor 49 = .ok (.goto 5, 3) := by decide +kernel
theorem dX9_homeFor_52 : decode cX9_homeFor 52 = .ok (.ldc 173, 2) := by decide +kernel
theorem dX9_homeFor_54 : decode cX9_homeFor 54 = .ok (.istore 5, 2) := by decide +kernel
theorem dX9_homeFor_56 : decode cX9_homeFor 56 = .ok (.iload 5, 2) := by decide +kernel
theorem dX9_homeFor_58 : decode cX9_homeFor 58 = .ok (.iload_n 2, 1) := by decide +kernel
theorem dX9_homeFor_59 : decode cX9_homeFor 59 = .ok (.if_icmp .ge 8, 3) := by decide +kernel
theorem dX9_homeFor_62 : decode cX9_homeFor 62 = .ok (.iload 5, 2) := by decide +kernel
theorem dX9_homeFor_64 : decode cX9_homeFor 64 = .ok (.goto 4, 3) := by decide +kernel
theorem dX9_homeFor_67 : decode cX9_homeFor 67 = .ok (.iload_n 2, 1) := by decide +kernel
theorem dX9_homeFor_68 : decode cX9_homeFor 68 = .ok (.istore_n 2, 1) := by decide +kernel
theorem dX9_homeFor_69 : decode cX9_homeFor 69 = .ok (.iinc 3 1, 3) := by decide +kernel
theorem dX9_homeFor_72 : decode cX9_homeFor 72 = .ok (.goto (-67), 3) := by decide +kernel
theorem dX9_homeFor_75 : decode cX9_homeFor 75 = .ok (.iload_n 2, 1) := by decide +kernel
theorem dX9_homeFor_76 : decode cX9_homeFor 76 = .ok (.ldc 173, 2) := by decide +kernel
theorem dX9_homeFor_78 : decode cX9_homeFor 78 = .ok (.if_icmp .ne 7, 3) := by decide +kernel
theorem dX9_homeFor_81 : decode cX9_homeFor 81 = .ok (.iconst (-1), 1) := by decide +kernel
theorem dX9_homeFor_82 : decode cX9_homeFor 82 = .ok (.goto 4, 3) := by decide +kernel
theorem dX9_homeFor_85 : decode cX9_homeFor 85 = .ok (.iload_n 2, 1) := by decide +kernel
theorem dX9_homeFor_86 : decode cX9_homeFor 86 = .ok (.ireturn, 1) := by decide +kernel
theorem dX9_hired_0 : decode cX9_hired 0 = .ok (.aload_n 0, 1) := by decide +kernel
theorem dX9_hired_1 : decode cX9_hired 1 = .ok (.getfield 89, 3) := by decide +kernel
theorem dX9_hired_4 : decode cX9_hired 4 = .ok (.aload_n 0, 1) := by decide +kernel
theorem dX9_hired_5 : decode cX9_hired 5 = .ok (.aload_n 0, 1) := by decide +kernel
theorem dX9_hired_6 : decode cX9_hired 6 = .ok (.getfield 89, 3) := by decide +kernel
theorem dX9_hired_9 : decode cX9_hired 9 = .ok (.invokevirtual 132, 3) := by decide +kernel
theorem dX9_hired_12 : decode cX9_hired 12 = .ok (.iconst (-1), 1) := by decide +kernel
theorem dX9_hired_13 : decode cX9_hired 13 = .ok (.ixor, 1) := by decide +kernel
theorem dX9_hired_14 : decode cX9_hired 14 = .ok (.iand, 1) := by decide +kernel
theorem dX9_hired_15 : decode cX9_hired 15 = .ok (.ireturn, 1) := by decide +kernel
theorem dX9_hire_0 : decode cX9_hire 0 = .ok (.iload_n 1, 1) := by decide +kernel
theorem dX9_hire_1 : decode cX9_hire 1 = .ok (.iconst 0, 1) := by decide +kernel
theorem dX9_hire_2 : decode cX9_hire 2 = .ok (.iconst 1, 1) := by decide +kernel
theorem dX9_hire_3 : decode cX9_hire 3 = .ok (.invokestatic 50, 3) := by decide +kernel
theorem dX9_hire_6 : decode cX9_hire 6 = .ok (.ifCond .ne 6, 3) := by decide +kernel
theorem dX9_hire_9 : decode cX9_hire 9 = .ok (.bipush (-102), 2) := by decide +kernel
theorem dX9_hire_11 : decode cX9_hire 11 = .ok (.ireturn, 1) := by decide +kernel
theorem dX9_hire_12 : decode cX9_hire 12 = .ok (.aload_n 0, 1) := by decide +kernel
theorem dX9_hire_13 : decode cX9_hire 13 = .ok (.getfield 83, 3) := by decide +kernel
theorem dX9_hire_16 : decode cX9_hire 16 = .ok (.ifCond .ne 8, 3) := by decide +kernel
theorem dX9_hire_19 : decode cX9_hire 19 = .ok (.bipush (-103), 2) := by decide +kernel
theorem dX9_hire_21 : decode cX9_hire 21 = .ok (.goto 21, 3) := by decide +kernel
theorem dX9_hire_24 : decode cX9_hire 24 = .ok (.iload_n 1, 1) := by decide +kernel
theorem dX9_hire_25 : decode cX9_hire 25 = .ok (.ifCond .ne 13, 3) := by decide +kernel
theorem dX9_hire_28 : decode cX9_hire 28 = .ok (.aload_n 0, 1) := by decide +kernel
theorem dX9_hire_29 : decode cX9_hire 29 = .ok (.invokevirtual 180, 3) := by decide +kernel
theorem dX9_hire_32 : decode cX9_hire 32 = .ok (.invokestatic 154, 3) := by decide +kernel
theorem dX9_hire_35 : decode cX9_hire 35 = .ok (.goto 7, 3) := by decide +kernel
theorem dX9_hire_38 : decode cX9_hire 38 = .ok (.aload_n 0, 1) := by decide +kernel
theorem dX9_hire_39 : decode cX9_hire 39 = .ok (.invokevirtual 180, 3) := by decide +kernel
theorem dX9_hire_42 : decode cX9_hire 42 = .ok (.ireturn, 1) := by decide +kernel
theorem dX9_save_0 : decode cX9_save 0 = .ok (.iconst 0, 1) := by decide +kernel
theorem dX9_save_1 : decode cX9_save 1 = .ok (.istore_n 1, 1) := by decide +kernel
theorem dX9_save_2 : decode cX9_save 2 = .ok (.iload_n 1, 1) := by decide +kernel
theorem dX9_save_3 : decode cX9_save 3 = .ok (.bipush 8, 2) := by decide +kernel
theorem dX9_save_5 : decode cX9_save 5 = .ok (.if_icmp .ge 21, 3) := by decide +kernel
theorem dX9_save_8 : decode cX9_save 8 = .ok (.aload_n 0, 1) := by decide +kernel
theorem dX9_save_9 : decode cX9_save 9 = .ok (.getfield 32, 3) := by decide +kernel
theorem dX9_save_12 : decode cX9_save 12 = .ok (.iload_n 1, 1) := by decide +kernel
theorem dX9_save_13 : decode cX9_save 13 = .ok (.aload_n 0, 1) := by decide +kernel
theorem dX9_save_14 : decode cX9_save 14 = .ok (.getfield 13, 3) := by decide +kernel
theorem dX9_save_17 : decode cX9_save 17 = .ok (.iload_n 1, 1) := by decide +kernel
theorem dX9_save_18 : decode cX9_save 18 = .ok (.iaload, 1) := by decide +kernel
theorem dX9_save_19 : decode cX9_save 19 = .ok (.iastore, 1) := by decide +kernel
theorem dX9_save_20 : decode cX9_save 20 = .ok (.iinc 1 1, 3) := by decide +kernel
theorem dX9_save_23 : decode cX9_save 23 = .ok (.goto (-21), 3) := by decide +kernel
theorem dX9_save_26 : decode cX9_save 26 = .ok (.aload_n 0, 1) := by decide +kernel
theorem dX9_save_27 : decode cX9_save 27 = .ok (.aload_n 0, 1) := by decide +kernel
theorem dX9_save_28 : decode cX9_save 28 = .ok (.getfield 89, 3) := by decide +kernel
theorem dX9_save_31 : decode cX9_save 31 = .ok (.putfield 183, 3) := by decide +kernel
theorem dX9_save_34 : decode cX9_save 34 = .ok (.aload_n 0, 1) := by decide +kernel
theorem dX9_save_35 : decode cX9_save 35 = .ok (.aload_n 0, 1) := by decide +kernel
theorem dX9_save_36 : decode cX9_save 36 = .ok (.getfield 86, 3) := by decide +kernel
theorem dX9_save_39 : decode cX9_save 39 = .ok (.putfield 186, 3) := by decide +kernel
theorem dX9_save_42 : decode cX9_save 42 = .ok (.return_, 1) := by decide +kernel
theorem dX9_load_0 : decode cX9_load 0 = .ok (.iconst 0, 1) := by decide +kernel
theorem dX9_load_1 : decode cX9_load 1 = .ok (.istore_n 1, 1) := by decide +kernel
theorem dX9_load_2 : decode cX9_load 2 = .ok (.iload_n 1, 1) := by decide +kernel
theorem dX9_load_3 : decode cX9_load 3 = .ok (.bipush 8, 2) := by decide +kernel
theorem dX9_load_5 : decode cX9_load 5 = .ok (.if_icmp .ge 21, 3) := by decide +kernel
theorem dX9_load_8 : decode cX9_load 8 = .ok (.aload_n 0, 1) := by decide +kernel
theorem dX9_load_9 : decode cX9_load 9 = .ok (.getfield 13, 3) := by decide +kernel
theorem dX9_load_12 : decode cX9_load 12 = .ok (.iload_n 1, 1) := by decide +kernel
theorem dX9_load_13 : decode cX9_load 13 = .ok (.aload_n 0, 1) := by decide +kernel
theorem dX9_load_14 : decode cX9_load 14 = .ok (.getfield 32, 3) := by decide +kernel
theorem dX9_load_17 : decode cX9_load 17 = .ok (.iload_n 1, 1) := by decide +kernel
theorem dX9_load_18 : decode cX9_load 18 = .ok (.iaload, 1) := by decide +kernel
theorem dX9_load_19 : decode cX9_load 19 = .ok (.iastore, 1) := by decide +kernel
theorem dX9_load_20 : decode cX9_load 20 = .ok (.iinc 1 1, 3) := by decide +kernel
theorem dX9_load_23 : decode cX9_load 23 = .ok (.goto (-21), 3) := by decide +kernel
theorem dX9_load_26 : decode cX9_load 26 = .ok (.aload_n 0, 1) := by decide +kernel
theorem dX9_load_27 : decode cX9_load 27 = .ok (.aload_n 0, 1) := by decide +kernel
theorem dX9_load_28 : decode cX9_load 28 = .ok (.getfield 183, 3) := by decide +kernel
theorem dX9_load_31 : decode cX9_load 31 = .ok (.putfield 89, 3) := by decide +kernel
theorem dX9_load_34 : decode cX9_load 34 = .ok (.aload_n 0, 1) := by decide +kernel
theorem dX9_load_35 : decode cX9_load 35 = .ok (.aload_n 0, 1) := by decide +kernel
theorem dX9_load_36 : decode cX9_load 36 = .ok (.getfield 186, 3) := by decide +kernel
theorem dX9_load_39 : decode cX9_load 39 = .ok (.putfield 86, 3) := by decide +kernel
theorem dX9_load_42 : decode cX9_load 42 = .ok (.return_, 1) := by decide +kernel
theorem dX9_endsNow_0 : decode cX9_endsNow 0 = .ok (.aload_n 0, 1) := by decide +kernel
theorem dX9_endsNow_1 : decode cX9_endsNow 1 = .ok (.invokevirtual 189, 3) := by decide +kernel
theorem dX9_endsNow_4 : decode cX9_endsNow 4 = .ok (.iconst 0, 1) := by decide +kernel
theorem dX9_endsNow_5 : decode cX9_endsNow 5 = .ok (.istore_n 1, 1) := by decide +kernel
theorem dX9_endsNow_6 : decode cX9_endsNow 6 = .ok (.aload_n 0, 1) := by decide +kernel
theorem dX9_endsNow_7 : decode cX9_endsNow 7 = .ok (.getfield 89, 3) := by decide +kernel
theorem dX9_endsNow_10 : decode cX9_endsNow 10 = .ok (.ifCond .eq 20, 3) := by decide +kernel
theorem dX9_endsNow_13 : decode cX9_endsNow 13 = .ok (.iload_n 1, 1) := by decide +kernel
theorem dX9_endsNow_14 : decode cX9_endsNow 14 = .ok (.bipush 60, 2) := by decide +kernel
theorem dX9_endsNow_16 : decode cX9_endsNow 16 = .ok (.if_icmp .gt 14, 3) := by decide +kernel
theorem dX9_endsNow_19 : decode cX9_endsNow 19 = .ok (.aload_n 0, 1) := by decide +kernel
theorem dX9_endsNow_20 : decode cX9_endsNow 20 = .ok (.invokevirtual 164, 3) := by decide +kernel
theorem dX9_endsNow_23 : decode cX9_endsNow 23 = .ok (.pop, 1) := by decide +kernel
theorem dX9_endsNow_24 : decode cX9_endsNow 24 = .ok (.iinc 1 1, 3) := by decide +kernel
theorem dX9_endsNow_27 : decode cX9_endsNow 27 = .ok (.goto (-21), 3) := by decide +kernel
theorem dX9_endsNow_30 : decode cX9_endsNow 30 = .ok (.aload_n 0, 1) := by decide +kernel
theorem dX9_endsNow_31 : decode cX9_endsNow 31 = .ok (.invokevirtual 192, 3) := by decide +kernel
theorem dX9_endsNow_34 : decode cX9_endsNow 34 = .ok (.iload_n 1, 1) := by decide +kernel
theorem dX9_endsNow_35 : decode cX9_endsNow 35 = .ok (.bipush 60, 2) := by decide +kernel
theorem dX9_endsNow_37 : decode cX9_endsNow 37 = .ok (.if_icmp .le 7, 3) := by decide +kernel
theorem dX9_endsNow_40 : decode cX9_endsNow 40 = .ok (.iconst (-1), 1) := by decide +kernel
theorem dX9_endsNow_41 : decode cX9_endsNow 41 = .ok (.goto 4, 3) := by decide +kernel
theorem dX9_endsNow_44 : decode cX9_endsNow 44 = .ok (.iload_n 1, 1) := by decide +kernel
theorem dX9_endsNow_45 : decode cX9_endsNow 45 = .ok (.ireturn, 1) := by decide +kernel
theorem dX9_ends_0 : decode cX9_ends 0 = .ok (.aload_n 0, 1) := by decide +kernel
theorem dX9_ends_1 : decode cX9_ends 1 = .ok (.getfield 83, 3) := by decide +kernel
theorem dX9_ends_4 : decode cX9_ends 4 = .ok (.ifCond .ne 8, 3) := by decide +kernel
theorem dX9_ends_7 : decode cX9_ends 7 = .ok (.bipush (-103), 2) := by decide +kernel
theorem dX9_ends_9 : decode cX9_ends 9 = .ok (.goto 7, 3) := by decide +kernel
theorem dX9_ends_12 : decode cX9_ends 12 = .ok (.aload_n 0, 1) := by decide +kernel
theorem dX9_ends_13 : decode cX9_ends 13 = .ok (.invokevirtual 195, 3) := by decide +kernel
theorem dX9_ends_16 : decode cX9_ends 16 = .ok (.ireturn, 1) := by decide +kernel
theorem dX9_oddsNow_0 : decode cX9_oddsNow 0 = .ok (.aload_n 0, 1) := by decide +kernel
theorem dX9_oddsNow_1 : decode cX9_oddsNow 1 = .ok (.getfield 89, 3) := by decide +kernel
theorem dX9_oddsNow_4 : decode cX9_oddsNow 4 = .ok (.iconst 1, 1) := by decide +kernel
theorem dX9_oddsNow_5 : decode cX9_oddsNow 5 = .ok (.iload_n 1, 1) := by decide +kernel
theorem dX9_oddsNow_6 : decode cX9_oddsNow 6 = .ok (.ishl, 1) := by decide +kernel
theorem dX9_oddsNow_7 : decode cX9_oddsNow 7 = .ok (.iconst (-1), 1) := by decide +kernel
theorem dX9_oddsNow_8 : decode cX9_oddsNow 8 = .ok (.ixor, 1) := by decide +kernel
theorem dX9_oddsNow_9 : decode cX9_oddsNow 9 = .ok (.iand, 1) := by decide +kernel
theorem dX9_oddsNow_10 : decode cX9_oddsNow 10 = .ok (.istore 4, 2) := by decide +kernel
theorem dX9_oddsNow_12 : decode cX9_oddsNow 12 = .ok (.iconst 1, 1) := by decide +kernel
theorem dX9_oddsNow_13 : decode cX9_oddsNow 13 = .ok (.istore 5, 2) := by decide +kernel
theorem dX9_oddsNow_15 : decode cX9_oddsNow 15 = .ok (.iconst 0, 1) := by decide +kernel
theorem dX9_oddsNow_16 : decode cX9_oddsNow 16 = .ok (.istore 6, 2) := by decide +kernel
theorem dX9_oddsNow_18 : decode cX9_oddsNow 18 = .ok (.iconst 0, 1) := by decide +kernel
theorem dX9_oddsNow_19 : decode cX9_oddsNow 19 = .ok (.istore 7, 2) := by decide +kernel
theorem dX9_oddsNow_21 : decode cX9_oddsNow 21 = .ok (.iload 7, 2) := by decide +kernel
theorem dX9_oddsNow_23 : decode cX9_oddsNow 23 = .ok (.iload 4, 2) := by decide +kernel
theorem dX9_oddsNow_25 : decode cX9_oddsNow 25 = .ok (.invokestatic 154, 3) := by decide +kernel
theorem dX9_oddsNow_28 : decode cX9_oddsNow 28 = .ok (.if_icmp .ge 16, 3) := by decide +kernel
theorem dX9_oddsNow_31 : decode cX9_oddsNow 31 = .ok (.iload 5, 2) := by decide +kernel
theorem dX9_oddsNow_33 : decode cX9_oddsNow 33 = .ok (.bipush 10, 2) := by decide +kernel
theorem dX9_oddsNow_35 : decode cX9_oddsNow 35 = .ok (.imul, 1) := by decide +kernel
theorem dX9_oddsNow_36 : decode cX9_oddsNow 36 = .ok (.istore 5, 2) := by decide +kernel
theorem dX9_oddsNow_38 : decode cX9_oddsNow 38 = .ok (.iinc 7 1, 3) := by decide +kernel
theorem dX9_oddsNow_41 : decode cX9_oddsNow 41 = .ok (.goto (-20), 3) := by decide +kernel
theorem dX9_oddsNow_44 : decode cX9_oddsNow 44 = .ok (.iconst 0, 1) := by decide +kernel
theorem dX9_oddsNow_45 : decode cX9_oddsNow 45 = .ok (.istore 7, 2) := by decide +kernel
theorem dX9_oddsNow_47 : decode cX9_oddsNow 47 = .ok (.iload 7, 2) := by decide +kernel
theorem dX9_oddsNow_49 : decode cX9_oddsNow 49 = .ok (.iload 4, 2) := by decide +kernel
theorem dX9_oddsNow_51 : decode cX9_oddsNow 51 = .ok (.if_icmp .gt 105, 3) := by decide +kernel
theorem dX9_oddsNow_54 : decode cX9_oddsNow 54 = .ok (.iload 7, 2) := by decide +kernel
theorem dX9_oddsNow_56 : decode cX9_oddsNow 56 = .ok (.iload 4, 2) := by decide +kernel
theorem dX9_oddsNow_58 : decode cX9_oddsNow 58 = .ok (.iconst (-1), 1) := by decide +kernel
theorem dX9_oddsNow_59 : decode cX9_oddsNow 59 = .ok (.ixor, 1) := by decide +kernel
theorem dX9_oddsNow_60 : decode cX9_oddsNow 60 = .ok (.iand, 1) := by decide +kernel
theorem dX9_oddsNow_61 : decode cX9_oddsNow 61 = .ok (.ifCond .ne 89, 3) := by decide +kernel
theorem dX9_oddsNow_64 : decode cX9_oddsNow 64 = .ok (.aload_n 0, 1) := by decide +kernel
theorem dX9_oddsNow_65 : decode cX9_oddsNow 65 = .ok (.iload 7, 2) := by decide +kernel
theorem dX9_oddsNow_67 : decode cX9_oddsNow 67 = .ok (.iconst 1, 1) := by decide +kernel
theorem dX9_oddsNow_68 : decode cX9_oddsNow 68 = .ok (.iload_n 1, 1) := by decide +kernel
theorem dX9_oddsNow_69 : decode cX9_oddsNow 69 = .ok (.ishl, 1) := by decide +kernel
theorem dX9_oddsNow_70 : decode cX9_oddsNow 70 = .ok (.ior, 1) := by decide +kernel
theorem dX9_oddsNow_71 : decode cX9_oddsNow 71 = .ok (.invokevirtual 167, 3) := by decide +kernel
theorem dX9_oddsNow_74 : decode cX9_oddsNow 74 = .ok (.iload_n 1, 1) := by decide +kernel
theorem dX9_oddsNow_75 : decode cX9_oddsNow 75 = .ok (.invokestatic 105, 3) := by decide +kernel
theorem dX9_oddsNow_78 : decode cX9_oddsNow 78 = .ok (.ifCond .eq 72, 3) := by decide +kernel
theorem dX9_oddsNow_81 : decode cX9_oddsNow 81 = .ok (.iconst 1, 1) := by decide +kernel
theorem dX9_oddsNow_82 : decode cX9_oddsNow 82 = .ok (.istore 8, 2) := by decide +kernel
theorem dX9_oddsNow_84 : decode cX9_oddsNow 84 = .ok (.iconst 0, 1) := by decide +kernel
theorem dX9_oddsNow_85 : decode cX9_oddsNow 85 = .ok (.istore 9, 2) := by decide +kernel
theorem dX9_oddsNow_87 : decode cX9_oddsNow 87 = .ok (.iload 9, 2) := by decide +kernel
theorem dX9_oddsNow_89 : decode cX9_oddsNow 89 = .ok (.aload_n 0, 1) := by decide +kernel
theorem dX9_oddsNow_90 : decode cX9_oddsNow 90 = .ok (.getfield 83, 3) := by decide +kernel
theorem dX9_oddsNow_93 : decode cX9_oddsNow 93 = .ok (.if_icmp .ge 50, 3) := by decide +kernel
theorem dX9_oddsNow_96 : decode cX9_oddsNow 96 = .ok (.iload 7, 2) := by decide +kernel
theorem dX9_oddsNow_98 : decode cX9_oddsNow 98 = .ok (.iload 9, 2) := by decide +kernel
theorem dX9_oddsNow_100 : decode cX9_oddsNow 100 = .ok (.invokestatic 105, 3) := by decide +kernel
theorem dX9_oddsNow_103 : decode cX9_oddsNow 103 = .ok (.ifCond .eq 10, 3) := by decide +kernel
theorem dX9_oddsNow_106 : decode cX9_oddsNow 106 = .ok (.bipush 10, 2) := by decide +kernel
theorem dX9_oddsNow_108 : decode cX9_oddsNow 108 = .ok (.iload_n 2, 1) := by decide +kernel
theorem dX9_oddsNow_109 : decode cX9_oddsNow 109 = .ok (.isub, 1) := by decide +kernel
theorem dX9_oddsNow_110 : decode cX9_oddsNow 110 = .ok (.goto 4, 3) := by decide +kernel
theorem dX9_oddsNow_113 : decode cX9_oddsNow 113 = .ok (.iload_n 2, 1) := by decide +kernel
theorem dX9_oddsNow_114 : decode cX9_oddsNow 114 = .ok (.istore 10, 2) := by decide +kernel
theorem dX9_oddsNow_116 : decode cX9_oddsNow 116 = .ok (.iload 8, 2) := by decide +kernel
theorem dX9_oddsNow_118 : decode cX9_oddsNow 118 = .ok (.iload 4, 2) := by decide +kernel
theorem dX9_oddsNow_120 : decode cX9_oddsNow 120 = .ok (.iload 9, 2) := by decide +kernel
theorem dX9_oddsNow_122 : decode cX9_oddsNow 122 = .ok (.invokestatic 105, 3) := by decide +kernel
theorem dX9_oddsNow_125 : decode cX9_oddsNow 125 = .ok (.ifCond .eq 8, 3) := by decide +kernel
theorem dX9_oddsNow_128 : decode cX9_oddsNow 128 = .ok (.iload 10, 2) := by decide +kernel
theorem dX9_oddsNow_130 : decode cX9_oddsNow 130 = .ok (.goto 4, 3) := by decide +kernel
theorem dX9_oddsNow_133 : decode cX9_oddsNow 133 = .ok (.iconst 1, 1) := by decide +kernel
theorem dX9_oddsNow_134 : decode cX9_oddsNow 134 = .ok (.imul, 1) := by decide +kernel
theorem dX9_oddsNow_135 : decode cX9_oddsNow 135 = .ok (.istore 8, 2) := by decide +kernel
theorem dX9_oddsNow_137 : decode cX9_oddsNow 137 = .ok (.iinc 9 1, 3) := by decide +kernel
theorem dX9_oddsNow_140 : decode cX9_oddsNow 140 = .ok (.goto (-53), 3) := by decide +kernel
theorem dX9_oddsNow_143 : decode cX9_oddsNow 143 = .ok (.iload 6, 2) := by decide +kernel
theorem dX9_oddsNow_145 : decode cX9_oddsNow 145 = .ok (.iload 8, 2) := by decide +kernel
theorem dX9_oddsNow_147 : decode cX9_oddsNow 147 = .ok (.iadd, 1) := by decide +kernel
theorem dX9_oddsNow_148 : decode cX9_oddsNow 148 = .ok (.istore 6, 2) := by decide +kernel
theorem dX9_oddsNow_150 : decode cX9_oddsNow 150 = .ok (.iinc 7 1, 3) := by decide +kernel
theorem dX9_oddsNow_153 : decode cX9_oddsNow 153 = .ok (.goto (-106), 3) := by decide +kernel
theorem dX9_oddsNow_156 : decode cX9_oddsNow 156 = .ok (.iload 6, 2) := by decide +kernel
theorem dX9_oddsNow_158 : decode cX9_oddsNow 158 = .ok (.iload 5, 2) := by decide +kernel
theorem dX9_oddsNow_160 : decode cX9_oddsNow 160 = .ok (.invokestatic 198, 3) := by decide +kernel
theorem dX9_oddsNow_163 : decode cX9_oddsNow 163 = .ok (.istore 7, 2) := by decide +kernel
theorem dX9_oddsNow_165 : decode cX9_oddsNow 165 = .ok (.iload_n 3, 1) := by decide +kernel
theorem dX9_oddsNow_166 : decode cX9_oddsNow 166 = .ok (.ifCond .ne 11, 3) := by decide +kernel
theorem dX9_oddsNow_169 : decode cX9_oddsNow 169 = .ok (.iload 6, 2) := by decide +kernel
theorem dX9_oddsNow_171 : decode cX9_oddsNow 171 = .ok (.iload 7, 2) := by decide +kernel
theorem dX9_oddsNow_173 : decode cX9_oddsNow 173 = .ok (.idiv, 1) := by decide +kernel
theorem dX9_oddsNow_174 : decode cX9_oddsNow 174 = .ok (.goto 8, 3) := by decide +kernel
theorem dX9_oddsNow_177 : decode cX9_oddsNow 177 = .ok (.iload 5, 2) := by decide +kernel
theorem dX9_oddsNow_179 : decode cX9_oddsNow 179 = .ok (.iload 7, 2) := by decide +kernel
theorem dX9_oddsNow_181 : decode cX9_oddsNow 181 = .ok (.idiv, 1) := by decide +kernel
theorem dX9_oddsNow_182 : decode cX9_oddsNow 182 = .ok (.ireturn, 1) := by decide +kernel
theorem dX9_odds_0 : decode cX9_odds 0 = .ok (.aload_n 0, 1) := by decide +kernel
theorem dX9_odds_1 : decode cX9_odds 1 = .ok (.iload_n 1, 1) := by decide +kernel
theorem dX9_odds_2 : decode cX9_odds 2 = .ok (.invokevirtual 144, 3) := by decide +kernel
theorem dX9_odds_5 : decode cX9_odds 5 = .ok (.ifCond .ne 6, 3) := by decide +kernel
theorem dX9_odds_8 : decode cX9_odds 8 = .ok (.bipush (-101), 2) := by decide +kernel
theorem dX9_odds_10 : decode cX9_odds 10 = .ok (.ireturn, 1) := by decide +kernel
theorem dX9_odds_11 : decode cX9_odds 11 = .ok (.iload_n 2, 1) := by decide +kernel
theorem dX9_odds_12 : decode cX9_odds 12 = .ok (.iconst 0, 1) := by decide +kernel
theorem dX9_odds_13 : decode cX9_odds 13 = .ok (.bipush 10, 2) := by decide +kernel
theorem dX9_odds_15 : decode cX9_odds 15 = .ok (.invokestatic 50, 3) := by decide +kernel
theorem dX9_odds_18 : decode cX9_odds 18 = .ok (.ifCond .eq 12, 3) := by decide +kernel
theorem dX9_odds_21 : decode cX9_odds 21 = .ok (.iload_n 3, 1) := by decide +kernel
theorem dX9_odds_22 : decode cX9_odds 22 = .ok (.iconst 0, 1) := by decide +kernel
theorem dX9_odds_23 : decode cX9_odds 23 = .ok (.iconst 1, 1) := by decide +kernel
theorem dX9_odds_24 : decode cX9_odds 24 = .ok (.invokestatic 50, 3) := by decide +kernel
theorem dX9_odds_27 : decode cX9_odds 27 = .ok (.ifCond .ne 6, 3) := by decide +kernel
theorem dX9_odds_30 : decode cX9_odds 30 = .ok (.bipush (-102), 2) := by decide +kernel
theorem dX9_odds_32 : decode cX9_odds 32 = .ok (.ireturn, 1) := by decide +kernel
theorem dX9_odds_33 : decode cX9_odds 33 = .ok (.aload_n 0, 1) := by decide +kernel
theorem dX9_odds_34 : decode cX9_odds 34 = .ok (.getfield 89, 3) := by decide +kernel
theorem dX9_odds_37 : decode cX9_odds 37 = .ok (.iload_n 1, 1) := by decide +kernel
theorem dX9_odds_38 : decode cX9_odds 38 = .ok (.invokestatic 105, 3) := by decide +kernel
theorem dX9_odds_41 : decode cX9_odds 41 = .ok (.ifCond .eq 13, 3) := by decide +kernel
theorem dX9_odds_44 : decode cX9_odds 44 = .ok (.aload_n 0, 1) := by decide +kernel
theorem dX9_odds_45 : decode cX9_odds 45 = .ok (.iload_n 1, 1) := by decide +kernel
theorem dX9_odds_46 : decode cX9_odds 46 = .ok (.iload_n 2, 1) := by decide +kernel
theorem dX9_odds_47 : decode cX9_odds 47 = .ok (.iload_n 3, 1) := by decide +kernel
theorem dX9_odds_48 : decode cX9_odds 48 = .ok (.invokevirtual 201, 3) := by decide +kernel
theorem dX9_odds_51 : decode cX9_odds 51 = .ok (.goto 5, 3) := by decide +kernel
theorem dX9_odds_54 : decode cX9_odds 54 = .ok (.bipush (-103), 2) := by decide +kernel
theorem dX9_odds_56 : decode cX9_odds 56 = .ok (.ireturn, 1) := by decide +kernel
theorem dX9_see_0 : decode cX9_see 0 = .ok (.aload_n 0, 1) := by decide +kernel
theorem dX9_see_1 : decode cX9_see 1 = .ok (.iload_n 1, 1) := by decide +kernel
theorem dX9_see_2 : decode cX9_see 2 = .ok (.invokevirtual 144, 3) := by decide +kernel
theorem dX9_see_5 : decode cX9_see 5 = .ok (.ifCond .ne 6, 3) := by decide +kernel
theorem dX9_see_8 : decode cX9_see 8 = .ok (.bipush (-101), 2) := by decide +kernel
theorem dX9_see_10 : decode cX9_see 10 = .ok (.ireturn, 1) := by decide +kernel
theorem dX9_see_11 : decode cX9_see 11 = .ok (.iload_n 2, 1) := by decide +kernel
theorem dX9_see_12 : decode cX9_see 12 = .ok (.iconst 0, 1) := by decide +kernel
theorem dX9_see_13 : decode cX9_see 13 = .ok (.bipush 16, 2) := by decide +kernel
theorem dX9_see_15 : decode cX9_see 15 = .ok (.invokestatic 50, 3) := by decide +kernel
theorem dX9_see_18 : decode cX9_see 18 = .ok (.ifCond .ne 6, 3) := by decide +kernel
theorem dX9_see_21 : decode cX9_see 21 = .ok (.bipush (-102), 2) := by decide +kernel
theorem dX9_see_23 : decode cX9_see 23 = .ok (.ireturn, 1) := by decide +kernel
theorem dX9_see_24 : decode cX9_see 24 = .ok (.aload_n 0, 1) := by decide +kernel
theorem dX9_see_25 : decode cX9_see 25 = .ok (.getfield 98, 3) := by decide +kernel
theorem dX9_see_28 : decode cX9_see 28 = .ok (.bipush 6, 2) := by decide +kernel
theorem dX9_see_30 : decode cX9_see 30 = .ok (.if_icmp .ne 6, 3) := by decide +kernel
theorem dX9_see_33 : decode cX9_see 33 = .ok (.bipush (-104), 2) := by decide +kernel
theorem dX9_see_35 : decode cX9_see 35 = .ok (.ireturn, 1) := by decide +kernel
theorem dX9_see_36 : decode cX9_see 36 = .ok (.aload_n 0, 1) := by decide +kernel
theorem dX9_see_37 : decode cX9_see 37 = .ok (.getfield 19, 3) := by decide +kernel
theorem dX9_see_40 : decode cX9_see 40 = .ok (.aload_n 0, 1) := by decide +kernel
theorem dX9_see_41 : decode cX9_see 41 = .ok (.getfield 98, 3) := by decide +kernel
theorem dX9_see_44 : decode cX9_see 44 = .ok (.iload_n 1, 1) := by decide +kernel
theorem dX9_see_45 : decode cX9_see 45 = .ok (.iastore, 1) := by decide +kernel
theorem dX9_see_46 : decode cX9_see 46 = .ok (.aload_n 0, 1) := by decide +kernel
theorem dX9_see_47 : decode cX9_see 47 = .ok (.getfield 22, 3) := by decide +kernel
theorem dX9_see_50 : decode cX9_see 50 = .ok (.aload_n 0, 1) := by decide +kernel
theorem dX9_see_51 : decode cX9_see 51 = .ok (.getfield 98, 3) := by decide +kernel
theorem dX9_see_54 : decode cX9_see 54 = .ok (.iload_n 2, 1) := by decide +kernel
theorem dX9_see_55 : decode cX9_see 55 = .ok (.iastore, 1) := by decide +kernel
theorem dX9_see_56 : decode cX9_see 56 = .ok (.aload_n 0, 1) := by decide +kernel
theorem dX9_see_57 : decode cX9_see 57 = .ok (.getfield 25, 3) := by decide +kernel
theorem dX9_see_60 : decode cX9_see 60 = .ok (.aload_n 0, 1) := by decide +kernel
theorem dX9_see_61 : decode cX9_see 61 = .ok (.getfield 98, 3) := by decide +kernel
theorem dX9_see_64 : decode cX9_see 64 = .ok (.iload_n 3, 1) := by decide +kernel
theorem dX9_see_65 : decode cX9_see 65 = .ok (.ifCond .eq 7, 3) := by decide +kernel
theorem dX9_see_68 : decode cX9_see 68 = .ok (.iconst 1, 1) := by decide +kernel
theorem dX9_see_69 : decode cX9_see 69 = .ok (.goto 4, 3) := by decide +kernel
theorem dX9_see_72 : decode cX9_see 72 = .ok (.iconst 0, 1) := by decide +kernel
theorem dX9_see_73 : decode cX9_see 73 = .ok (.iastore, 1) := by decide +kernel
theorem dX9_see_74 : decode cX9_see 74 = .ok (.aload_n 0, 1) := by decide +kernel
theorem dX9_see_75 : decode cX9_see 75 = .ok (.dup, 1) := by decide +kernel
theorem dX9_see_76 : decode cX9_see 76 = .ok (.getfield 98, 3) := by decide +kernel
theorem dX9_see_79 : decode cX9_see 79 = .ok (.iconst 1, 1) := by decide +kernel
theorem dX9_see_80 : decode cX9_see 80 = .ok (.iadd, 1) := by decide +kernel
theorem dX9_see_81 : decode cX9_see 81 = .ok (.putfield 98, 3) := by decide +kernel
theorem dX9_see_84 : decode cX9_see 84 = .ok (.aload_n 0, 1) := by decide +kernel
theorem dX9_see_85 : decode cX9_see 85 = .ok (.getfield 98, 3) := by decide +kernel
theorem dX9_see_88 : decode cX9_see 88 = .ok (.ireturn, 1) := by decide +kernel
theorem dX9_forget_0 : decode cX9_forget 0 = .ok (.aload_n 0, 1) := by decide +kernel
theorem dX9_forget_1 : decode cX9_forget 1 = .ok (.getfield 98, 3) := by decide +kernel
theorem dX9_forget_4 : decode cX9_forget 4 = .ok (.istore_n 1, 1) := by decide +kernel
theorem dX9_forget_5 : decode cX9_forget 5 = .ok (.aload_n 0, 1) := by decide +kernel
theorem dX9_forget_6 : decode cX9_forget 6 = .ok (.iconst 0, 1) := by decide +kernel
theorem dX9_forget_7 : decode cX9_forget 7 = .ok (.putfield 98, 3) := by decide +kernel
theorem dX9_forget_10 : decode cX9_forget 10 = .ok (.iload_n 1, 1) := by decide +kernel
theorem dX9_forget_11 : decode cX9_forget 11 = .ok (.ireturn, 1) := by decide +kernel
theorem dX9_wouldGo_0 : decode cX9_wouldGo 0 = .ok (.aload_n 0, 1) := by decide +kernel
theorem dX9_wouldGo_1 : decode cX9_wouldGo 1 = .ok (.getfield 7, 3) := by decide +kernel
theorem dX9_wouldGo_4 : decode cX9_wouldGo 4 = .ok (.iload_n 1, 1) := by decide +kernel
theorem dX9_wouldGo_5 : decode cX9_wouldGo 5 = .ok (.iaload, 1) := by decide +kernel
theorem dX9_wouldGo_6 : decode cX9_wouldGo 6 = .ok (.iload_n 2, 1) := by decide +kernel
theorem dX9_wouldGo_7 : decode cX9_wouldGo 7 = .ok (.invokestatic 101, 3) := by decide +kernel
theorem dX9_wouldGo_10 : decode cX9_wouldGo 10 = .ok (.iload_n 3, 1) := by decide +kernel
theorem dX9_wouldGo_11 : decode cX9_wouldGo 11 = .ok (.if_icmp .gt 7, 3) := by decide +kernel
theorem dX9_wouldGo_14 : decode cX9_wouldGo 14 = .ok (.iconst 1, 1) := by decide +kernel
theorem dX9_wouldGo_15 : decode cX9_wouldGo 15 = .ok (.goto 4, 3) := by decide +kernel
theorem dX9_wouldGo_18 : decode cX9_wouldGo 18 = .ok (.iconst 0, 1) := by decide +kernel
theorem dX9_wouldGo_19 : decode cX9_wouldGo 19 = .ok (.ireturn, 1) := by decide +kernel
theorem dX9_shynessOf_0 : decode cX9_shynessOf 0 = .ok (.iconst 0, 1) := by decide +kernel
theorem dX9_shynessOf_1 : decode cX9_shynessOf 1 = .ok (.istore_n 2, 1) := by decide +kernel
theorem dX9_shynessOf_2 : decode cX9_shynessOf 2 = .ok (.iconst 0, 1) := by decide +kernel
theorem dX9_shynessOf_3 : decode cX9_shynessOf 3 = .ok (.istore_n 3, 1) := by decide +kernel
theorem dX9_shynessOf_4 : decode cX9_shynessOf 4 = .ok (.iload_n 3, 1) := by decide +kernel
theorem dX9_shynessOf_5 : decode cX9_shynessOf 5 = .ok (.bipush 9, 2) := by decide +kernel
theorem dX9_shynessOf_7 : decode cX9_shynessOf 7 = .ok (.if_icmp .gt 100, 3) := by decide +kernel
theorem dX9_shynessOf_10 : decode cX9_shynessOf 10 = .ok (.iconst 1, 1) := by decide +kernel
theorem dX9_shynessOf_11 : decode cX9_shynessOf 11 = .ok (.istore 4, 2) := by decide +kernel
theorem dX9_shynessOf_13 : decode cX9_shynessOf 13 = .ok (.iconst 0, 1) := by decide +kernel
theorem dX9_shynessOf_14 : decode cX9_shynessOf 14 = .ok (.istore 5, 2) := by decide +kernel
theorem dX9_shynessOf_16 : decode cX9_shynessOf 16 = .ok (.iload 5, 2) := by decide +kernel
theorem dX9_shynessOf_18 : decode cX9_shynessOf 18 = .ok (.aload_n 0, 1) := by decide +kernel
theorem dX9_shynessOf_19 : decode cX9_shynessOf 19 = .ok (.getfield 98, 3) := by decide +kernel
theorem dX9_shynessOf_22 : decode cX9_shynessOf 22 = .ok (.if_icmp .ge 64, 3) := by decide +kernel
theorem dX9_shynessOf_25 : decode cX9_shynessOf 25 = .ok (.iload 4, 2) := by decide +kernel
theorem dX9_shynessOf_27 : decode cX9_shynessOf 27 = .ok (.ifCond .eq 50, 3) := by decide +kernel
theorem dX9_shynessOf_30 : decode cX9_shynessOf 30 = .ok (.aload_n 0, 1) := by decide +kernel
theorem dX9_shynessOf_31 : decode cX9_shynessOf 31 = .ok (.getfield 19, 3) := by decide +kernel
theorem dX9_shynessOf_34 : decode cX9_shynessOf 34 = .ok (.iload 5, 2) := by decide +kernel
theorem dX9_shynessOf_36 : decode cX9_shynessOf 36 = .ok (.iaload, 1) := by decide +kernel
theorem dX9_shynessOf_37 : decode cX9_shynessOf 37 = .ok (.iload_n 1, 1) := by decide +kernel
theorem dX9_shynessOf_38 : decode cX9_shynessOf 38 = .ok (.if_icmp .ne 35, 3) := by decide +kernel
theorem dX9_shynessOf_41 : decode cX9_shynessOf 41 = .ok (.aload_n 0, 1) := by decide +kernel
theorem dX9_shynessOf_42 : decode cX9_shynessOf 42 = .ok (.iload_n 1, 1) := by decide +kernel
theorem dX9_shynessOf_43 : decode cX9_shynessOf 43 = .ok (.iload_n 3, 1) := by decide +kernel
theorem dX9_shynessOf_44 : decode cX9_shynessOf 44 = .ok (.aload_n 0, 1) := by decide +kernel
theorem dX9_shynessOf_45 : decode cX9_shynessOf 45 = .ok (.getfield 22, 3) := by decide +kernel
theorem dX9_shynessOf_48 : decode cX9_shynessOf 48 = .ok (.iload 5, 2) := by decide +kernel
theorem dX9_shynessOf_50 : decode cX9_shynessOf 50 = .ok (.iaload, 1) := by decide +kernel
theorem dX9_shynessOf_51 : decode cX9_shynessOf 51 = .ok (.invokevirtual 205, 3) := by decide +kernel
theorem dX9_shynessOf_54 : decode cX9_shynessOf 54 = .ok (.aload_n 0, 1) := by decide +kernel
theorem dX9_shynessOf_55 : decode cX9_shynessOf 55 = .ok (.getfield 25, 3) := by decide +kernel
theorem dX9_shynessOf_58 : decode cX9_shynessOf 58 = .ok (.iload 5, 2) := by decide +kernel
theorem dX9_shynessOf_60 : decode cX9_shynessOf 60 = .ok (.iaload, 1) := by decide +kernel
theorem dX9_shynessOf_61 : decode cX9_shynessOf 61 = .ok (.iconst 1, 1) := by decide +kernel
theorem dX9_shynessOf_62 : decode cX9_shynessOf 62 = .ok (.if_icmp .ne 7, 3) := by decide +kernel
theorem dX9_shynessOf_65 : decode cX9_shynessOf 65 = .ok (.iconst 1, 1) := by decide +kernel
theorem dX9_shynessOf_66 : decode cX9_shynessOf 66 = .ok (.goto 4, 3) := by decide +kernel
theorem dX9_shynessOf_69 : decode cX9_shynessOf 69 = .ok (.iconst 0, 1) := by decide +kernel
theorem dX9_shynessOf_70 : decode cX9_shynessOf 70 = .ok (.if_icmp .ne 7, 3) := by decide +kernel
theorem dX9_shynessOf_73 : decode cX9_shynessOf 73 = .ok (.iconst 1, 1) := by decide +kernel
theorem dX9_shynessOf_74 : decode cX9_shynessOf 74 = .ok (.goto 4, 3) := by decide +kernel
theorem dX9_shynessOf_77 : decode cX9_shynessOf 77 = .ok (.iconst 0, 1) := by decide +kernel
theorem dX9_shynessOf_78 : decode cX9_shynessOf 78 = .ok (.istore 4, 2) := by decide +kernel
theorem dX9_shynessOf_80 : decode cX9_shynessOf 80 = .ok (.iinc 5 1, 3) := by decide +kernel
theorem dX9_shynessOf_83 : decode cX9_shynessOf 83 = .ok (.goto (-67), 3) := by decide +kernel
theorem dX9_shynessOf_86 : decode cX9_shynessOf 86 = .ok (.iload_n 2, 1) := by decide +kernel
theorem dX9_shynessOf_87 : decode cX9_shynessOf 87 = .ok (.iload 4, 2) := by decide +kernel
theorem dX9_shynessOf_89 : decode cX9_shynessOf 89 = .ok (.ifCond .eq 9, 3) := by decide +kernel
theorem dX9_shynessOf_92 : decode cX9_shynessOf 92 = .ok (.iconst 1, 1) := by decide +kernel
theorem dX9_shynessOf_93 : decode cX9_shynessOf 93 = .ok (.iload_n 3, 1) := by decide +kernel
theorem dX9_shynessOf_94 : decode cX9_shynessOf 94 = .ok (.ishl, 1) := by decide +kernel
theorem dX9_shynessOf_95 : decode cX9_shynessOf 95 = .ok (.goto 4, 3) := by decide +kernel
theorem dX9_shynessOf_98 : decode cX9_shynessOf 98 = .ok (.iconst 0, 1) := by decide +kernel
theorem dX9_shynessOf_99 : decode cX9_shynessOf 99 = .ok (.ior, 1) := by decide +kernel
theorem dX9_shynessOf_100 : decode cX9_shynessOf 100 = .ok (.istore_n 2, 1) := by decide +kernel
theorem dX9_shynessOf_101 : decode cX9_shynessOf 101 = .ok (.iinc 3 1, 3) := by decide +kernel
theorem dX9_shynessOf_104 : decode cX9_shynessOf 104 = .ok (.goto (-100), 3) := by decide +kernel
theorem dX9_shynessOf_107 : decode cX9_shynessOf 107 = .ok (.iload_n 2, 1) := by decide +kernel
theorem dX9_shynessOf_108 : decode cX9_shynessOf 108 = .ok (.ireturn, 1) := by decide +kernel
theorem dX9_askOf_0 : decode cX9_askOf 0 = .ok (.aload_n 0, 1) := by decide +kernel
theorem dX9_askOf_1 : decode cX9_askOf 1 = .ok (.iload_n 1, 1) := by decide +kernel
theorem dX9_askOf_2 : decode cX9_askOf 2 = .ok (.invokevirtual 135, 3) := by decide +kernel
theorem dX9_askOf_5 : decode cX9_askOf 5 = .ok (.istore_n 2, 1) := by decide +kernel
theorem dX9_askOf_6 : decode cX9_askOf 6 = .ok (.iconst (-1), 1) := by decide +kernel
theorem dX9_askOf_7 : decode cX9_askOf 7 = .ok (.istore_n 3, 1) := by decide +kernel
theorem dX9_askOf_8 : decode cX9_askOf 8 = .ok (.ldc 173, 2) := by decide +kernel
theorem dX9_askOf_10 : decode cX9_askOf 10 = .ok (.istore 4, 2) := by decide +kernel
theorem dX9_askOf_12 : decode cX9_askOf 12 = .ok (.iconst 0, 1) := by decide +kernel
theorem dX9_askOf_13 : decode cX9_askOf 13 = .ok (.istore 5, 2) := by decide +kernel
theorem dX9_askOf_15 : decode cX9_askOf 15 = .ok (.iload 5, 2) := by decide +kernel
theorem dX9_askOf_17 : decode cX9_askOf 17 = .ok (.bipush 16, 2) := by decide +kernel
theorem dX9_askOf_19 : decode cX9_askOf 19 = .ok (.if_icmp .gt 118, 3) := by decide +kernel
theorem dX9_askOf_22 : decode cX9_askOf 22 = .ok (.iload_n 2, 1) := by decide +kernel
theorem dX9_askOf_23 : decode cX9_askOf 23 = .ok (.ifCond .eq 114, 3) := by decide +kernel
theorem dX9_askOf_26 : decode cX9_askOf 26 = .ok (.iconst 0, 1) := by decide +kernel
theorem dX9_askOf_27 : decode cX9_askOf 27 = .ok (.istore 6, 2) := by decide +kernel
theorem dX9_askOf_29 : decode cX9_askOf 29 = .ok (.iconst 0, 1) := by decide +kernel
theorem dX9_askOf_30 : decode cX9_askOf 30 = .ok (.istore 7, 2) := by decide +kernel
theorem dX9_askOf_32 : decode cX9_askOf 32 = .ok (.iload 7, 2) := by decide +kernel
theorem dX9_askOf_34 : decode cX9_askOf 34 = .ok (.bipush 9, 2) := by decide +kernel
theorem dX9_askOf_36 : decode cX9_askOf 36 = .ok (.if_icmp .gt 40, 3) := by decide +kernel
theorem dX9_askOf_39 : decode cX9_askOf 39 = .ok (.iload 6, 2) := by decide +kernel
theorem dX9_askOf_41 : decode cX9_askOf 41 = .ok (.iload_n 2, 1) := by decide +kernel
theorem dX9_askOf_42 : decode cX9_askOf 42 = .ok (.iload 7, 2) := by decide +kernel
theorem dX9_askOf_44 : decode cX9_askOf 44 = .ok (.invokestatic 105, 3) := by decide +kernel
theorem dX9_askOf_47 : decode cX9_askOf 47 = .ok (.ifCond .eq 19, 3) := by decide +kernel
theorem dX9_askOf_50 : decode cX9_askOf 50 = .ok (.aload_n 0, 1) := by decide +kernel
theorem dX9_askOf_51 : decode cX9_askOf 51 = .ok (.iload_n 1, 1) := by decide +kernel
theorem dX9_askOf_52 : decode cX9_askOf 52 = .ok (.iload 7, 2) := by decide +kernel
theorem dX9_askOf_54 : decode cX9_askOf 54 = .ok (.iload 5, 2) := by decide +kernel
theorem dX9_askOf_56 : decode cX9_askOf 56 = .ok (.invokevirtual 205, 3) := by decide +kernel
theorem dX9_askOf_59 : decode cX9_askOf 59 = .ok (.ifCond .eq 7, 3) := by decide +kernel
theorem dX9_askOf_62 : decode cX9_askOf 62 = .ok (.iconst 1, 1) := by decide +kernel
theorem dX9_askOf_63 : decode cX9_askOf 63 = .ok (.goto 4, 3) := by decide +kernel
theorem dX9_askOf_66 : decode cX9_askOf 66 = .ok (.iconst 0, 1) := by decide +kernel
theorem dX9_askOf_67 : decode cX9_askOf 67 = .ok (.iadd, 1) := by decide +kernel
theorem dX9_askOf_68 : decode cX9_askOf 68 = .ok (.istore 6, 2) := by decide +kernel
theorem dX9_askOf_70 : decode cX9_askOf 70 = .ok (.iinc 7 1, 3) := by decide +kernel
theorem dX9_askOf_73 : decode cX9_askOf 73 = .ok (.goto (-41), 3) := by decide +kernel
theorem dX9_askOf_76 : decode cX9_askOf 76 = .ok (.iload_n 2, 1) := by decide +kernel
theorem dX9_askOf_77 : decode cX9_askOf 77 = .ok (.invokestatic 154, 3) := by decide +kernel
theorem dX9_askOf_80 : decode cX9_askOf 80 = .ok (.iload 6, 2) := by decide +kernel
theorem dX9_askOf_82 : decode cX9_askOf 82 = .ok (.isub, 1) := by decide +kernel
theorem dX9_askOf_83 : decode cX9_askOf 83 = .ok (.istore 7, 2) := by decide +kernel
theorem dX9_askOf_85 : decode cX9_askOf 85 = .ok (.iload 6, 2) := by decide +kernel
theorem dX9_askOf_87 : decode cX9_askOf 87 = .ok (.iload 7, 2) := by decide +kernel
theorem dX9_askOf_89 : decode cX9_askOf 89 = .ok (.if_icmp .le 8, 3) := by decide +kernel
theorem dX9_askOf_92 : decode cX9_askOf 92 = .ok (.iload 6, 2) := by decide +kernel
theorem dX9_askOf_94 : decode cX9_askOf 94 = .ok (.goto 5, 3) := by decide +kernel
theorem dX9_askOf_97 : decode cX9_askOf 97 = .ok (.iload 7, 2) := by decide +kernel
theorem dX9_askOf_99 : decode cX9_askOf 99 = .ok (.istore 8, 2) := by decide +kernel
theorem dX9_askOf_101 : decode cX9_askOf 101 = .ok (.iload 8, 2) := by decide +kernel
theorem dX9_askOf_103 : decode cX9_askOf 103 = .ok (.iload 4, 2) := by decide +kernel
theorem dX9_askOf_105 : decode cX9_askOf 105 = .ok (.if_icmp .ge 8, 3) := by decide +kernel
theorem dX9_askOf_108 : decode cX9_askOf 108 = .ok (.iload 5, 2) := by decide +kernel
theorem dX9_askOf_110 : decode cX9_askOf 110 = .ok (.goto 4, 3) := by decide +kernel
theorem dX9_askOf_113 : decode cX9_askOf 113 = .ok (.iload_n 3, 1) := by decide +kernel
theorem dX9_askOf_114 : decode cX9_askOf 114 = .ok (.istore_n 3, 1) := by decide +kernel
theorem dX9_askOf_115 : decode cX9_askOf 115 = .ok (.iload 8, 2) := by decide +kernel
theorem dX9_askOf_117 : decode cX9_askOf 117 = .ok (.iload 4, 2) := by decide +kernel
theorem dX9_askOf_119 : decode cX9_askOf 119 = .ok (.if_icmp .ge 8, 3) := by decide +kernel
theorem dX9_askOf_122 : decode cX9_askOf 122 = .ok (.iload 8, 2) := by decide +kernel
theorem dX9_askOf_124 : decode cX9_askOf 124 = .ok (.goto 5, 3) := by decide +kernel
theorem dX9_askOf_127 : decode cX9_askOf 127 = .ok (.iload 4, 2) := by decide +kernel
theorem dX9_askOf_129 : decode cX9_askOf 129 = .ok (.istore 4, 2) := by decide +kernel
theorem dX9_askOf_131 : decode cX9_askOf 131 = .ok (.iinc 5 1, 3) := by decide +kernel
theorem dX9_askOf_134 : decode cX9_askOf 134 = .ok (.goto (-119), 3) := by decide +kernel
theorem dX9_askOf_137 : decode cX9_askOf 137 = .ok (.iload_n 3, 1) := by decide +kernel
theorem dX9_askOf_138 : decode cX9_askOf 138 = .ok (.ireturn, 1) := by decide +kernel
theorem dX9_draw_0 : decode cX9_draw 0 = .ok (.aload_n 0, 1) := by decide +kernel
theorem dX9_draw_1 : decode cX9_draw 1 = .ok (.ldc2_w 208, 3) := by decide +kernel
theorem dX9_draw_4 : decode cX9_draw 4 = .ok (.aload_n 0, 1) := by decide +kernel
theorem dX9_draw_5 : decode cX9_draw 5 = .ok (.getfield 210, 3) := by decide +kernel
theorem dX9_draw_8 : decode cX9_draw 8 = .ok (.lmul, 1) := by decide +kernel
theorem dX9_draw_9 : decode cX9_draw 9 = .ok (.ldc2_w 214, 3) := by decide +kernel
theorem dX9_draw_12 : decode cX9_draw 12 = .ok (.ladd, 1) := by decide +kernel
theorem dX9_draw_13 : decode cX9_draw 13 = .ok (.ldc2_w 216, 3) := by decide +kernel
theorem dX9_draw_16 : decode cX9_draw 16 = .ok (.land, 1) := by decide +kernel
theorem dX9_draw_17 : decode cX9_draw 17 = .ok (.putfield 210, 3) := by decide +kernel
theorem dX9_draw_20 : decode cX9_draw 20 = .ok (.aload_n 0, 1) := by decide +kernel
theorem dX9_draw_21 : decode cX9_draw 21 = .ok (.getfield 210, 3) := by decide +kernel
theorem dX9_draw_24 : decode cX9_draw 24 = .ok (.ldc2_w 218, 3) := by decide +kernel
theorem dX9_draw_27 : decode cX9_draw 27 = .ok (.ldiv, 1) := by decide +kernel
theorem dX9_draw_28 : decode cX9_draw 28 = .ok (.iload_n 1, 1) := by decide +kernel
theorem dX9_draw_29 : decode cX9_draw 29 = .ok (.i2l, 1) := by decide +kernel
theorem dX9_draw_30 : decode cX9_draw 30 = .ok (.lrem, 1) := by decide +kernel
theorem dX9_draw_31 : decode cX9_draw 31 = .ok (.l2i, 1) := by decide +kernel
theorem dX9_draw_32 : decode cX9_draw 32 = .ok (.ireturn, 1) := by decide +kernel
theorem dX9_goNight_0 : decode cX9_goNight 0 = .ok (.aload_n 0, 1) := by decide +kernel
theorem dX9_goNight_1 : decode cX9_goNight 1 = .ok (.iconst 3, 1) := by decide +kernel
theorem dX9_goNight_2 : decode cX9_goNight 2 = .ok (.invokevirtual 220, 3) := by decide +kernel
theorem dX9_goNight_5 : decode cX9_goNight 5 = .ok (.ifCond .ne 31, 3) := by decide +kernel
theorem dX9_goNight_8 : decode cX9_goNight 8 = .ok (.aload_n 0, 1) := by decide +kernel
theorem dX9_goNight_9 : decode cX9_goNight 9 = .ok (.aload_n 0, 1) := by decide +kernel
theorem dX9_goNight_10 : decode cX9_goNight 10 = .ok (.getfield 83, 3) := by decide +kernel
theorem dX9_goNight_13 : decode cX9_goNight 13 = .ok (.invokevirtual 220, 3) := by decide +kernel
theorem dX9_goNight_16 : decode cX9_goNight 16 = .ok (.istore_n 1, 1) := by decide +kernel
theorem dX9_goNight_17 : decode cX9_goNight 17 = .ok (.aload_n 0, 1) := by decide +kernel
theorem dX9_goNight_18 : decode cX9_goNight 18 = .ok (.getfield 89, 3) := by decide +kernel
theorem dX9_goNight_21 : decode cX9_goNight 21 = .ok (.iload_n 1, 1) := by decide +kernel
theorem dX9_goNight_22 : decode cX9_goNight 22 = .ok (.invokestatic 105, 3) := by decide +kernel
theorem dX9_goNight_25 : decode cX9_goNight 25 = .ok (.ifCond .eq 8, 3) := by decide +kernel
theorem dX9_goNight_28 : decode cX9_goNight 28 = .ok (.aload_n 0, 1) := by decide +kernel
theorem dX9_goNight_29 : decode cX9_goNight 29 = .ok (.iload_n 1, 1) := by decide +kernel
theorem dX9_goNight_30 : decode cX9_goNight 30 = .ok (.invokevirtual 157, 3) := by decide +kernel
theorem dX9_goNight_33 : decode cX9_goNight 33 = .ok (.goto 8, 3) := by decide +kernel
theorem dX9_goNight_36 : decode cX9_goNight 36 = .ok (.aload_n 0, 1) := by decide +kernel
theorem dX9_goNight_37 : decode cX9_goNight 37 = .ok (.invokevirtual 164, 3) := by decide +kernel
theorem dX9_goNight_40 : decode cX9_goNight 40 = .ok (.pop, 1) := by decide +kernel
theorem dX9_goNight_41 : decode cX9_goNight 41 = .ok (.return_, 1) := by decide +kernel
theorem dX9_nightsNow_0 : decode cX9_nightsNow 0 = .ok (.aload_n 0, 1) := by decide +kernel
theorem dX9_nightsNow_1 : decode cX9_nightsNow 1 = .ok (.invokevirtual 189, 3) := by decide +kernel
theorem dX9_nightsNow_4 : decode cX9_nightsNow 4 = .ok (.aload_n 0, 1) := by decide +kernel
theorem dX9_nightsNow_5 : decode cX9_nightsNow 5 = .ok (.iload_n 2, 1) := by decide +kernel
theorem dX9_nightsNow_6 : decode cX9_nightsNow 6 = .ok (.i2l, 1) := by decide +kernel
theorem dX9_nightsNow_7 : decode cX9_nightsNow 7 = .ok (.putfield 210, 3) := by decide +kernel
theorem dX9_nightsNow_10 : decode cX9_nightsNow 10 = .ok (.iconst 0, 1) := by decide +kernel
theorem dX9_nightsNow_11 : decode cX9_nightsNow 11 = .ok (.istore 4, 2) := by decide +kernel
theorem dX9_nightsNow_13 : decode cX9_nightsNow 13 = .ok (.iload 4, 2) := by decide +kernel
theorem dX9_nightsNow_15 : decode cX9_nightsNow 15 = .ok (.iload_n 1, 1) := by decide +kernel
theorem dX9_nightsNow_16 : decode cX9_nightsNow 16 = .ok (.if_icmp .ge 13, 3) := by decide +kernel
theorem dX9_nightsNow_19 : decode cX9_nightsNow 19 = .ok (.aload_n 0, 1) := by decide +kernel
theorem dX9_nightsNow_20 : decode cX9_nightsNow 20 = .ok (.invokevirtual 223, 3) := by decide +kernel
theorem dX9_nightsNow_23 : decode cX9_nightsNow 23 = .ok (.iinc 4 1, 3) := by decide +kernel
theorem dX9_nightsNow_26 : decode cX9_nightsNow 26 = .ok (.goto (-13), 3) := by decide +kernel
theorem dX9_nightsNow_29 : decode cX9_nightsNow 29 = .ok (.iload_n 3, 1) := by decide +kernel
theorem dX9_nightsNow_30 : decode cX9_nightsNow 30 = .ok (.ifCond .ne 13, 3) := by decide +kernel
theorem dX9_nightsNow_33 : decode cX9_nightsNow 33 = .ok (.aload_n 0, 1) := by decide +kernel
theorem dX9_nightsNow_34 : decode cX9_nightsNow 34 = .ok (.invokevirtual 114, 3) := by decide +kernel
theorem dX9_nightsNow_37 : decode cX9_nightsNow 37 = .ok (.invokestatic 154, 3) := by decide +kernel
theorem dX9_nightsNow_40 : decode cX9_nightsNow 40 = .ok (.goto 20, 3) := by decide +kernel
theorem dX9_nightsNow_43 : decode cX9_nightsNow 43 = .ok (.iload_n 3, 1) := by decide +kernel
theorem dX9_nightsNow_44 : decode cX9_nightsNow 44 = .ok (.iconst 1, 1) := by decide +kernel
theorem dX9_nightsNow_45 : decode cX9_nightsNow 45 = .ok (.if_icmp .ne 10, 3) := by decide +kernel
theorem dX9_nightsNow_48 : decode cX9_nightsNow 48 = .ok (.aload_n 0, 1) := by decide +kernel
theorem dX9_nightsNow_49 : decode cX9_nightsNow 49 = .ok (.getfield 86, 3) := by decide +kernel
theorem dX9_nightsNow_52 : decode cX9_nightsNow 52 = .ok (.goto 8, 3) := by decide +kernel
theorem dX9_nightsNow_55 : decode cX9_nightsNow 55 = .ok (.aload_n 0, 1) := by decide +kernel
theorem dX9_nightsNow_56 : decode cX9_nightsNow 56 = .ok (.getfield 210, 3) := by decide +kernel
theorem dX9_nightsNow_59 : decode cX9_nightsNow 59 = .ok (.l2i, 1) := by decide +kernel
theorem dX9_nightsNow_60 : decode cX9_nightsNow 60 = .ok (.istore 4, 2) := by decide +kernel
theorem dX9_nightsNow_62 : decode cX9_nightsNow 62 = .ok (.aload_n 0, 1) := by decide +kernel
theorem dX9_nightsNow_63 : decode cX9_nightsNow 63 = .ok (.invokevirtual 192, 3) := by decide +kernel
theorem dX9_nightsNow_66 : decode cX9_nightsNow 66 = .ok (.iload 4, 2) := by decide +kernel
theorem dX9_nightsNow_68 : decode cX9_nightsNow 68 = .ok (.ireturn, 1) := by decide +kernel
theorem dX9_nights_0 : decode cX9_nights 0 = .ok (.iload_n 1, 1) := by decide +kernel
theorem dX9_nights_1 : decode cX9_nights 1 = .ok (.iconst 1, 1) := by decide +kernel
theorem dX9_nights_2 : decode cX9_nights 2 = .ok (.bipush 60, 2) := by decide +kernel
theorem dX9_nights_4 : decode cX9_nights 4 = .ok (.invokestatic 50, 3) := by decide +kernel
theorem dX9_nights_7 : decode cX9_nights 7 = .ok (.ifCond .eq 16, 3) := by decide +kernel
theorem dX9_nights_10 : decode cX9_nights 10 = .ok (.iload_n 2, 1) := by decide +kernel
theorem dX9_nights_11 : decode cX9_nights 11 = .ok (.ifCond .lt 12, 3) := by decide +kernel
theorem dX9_nights_14 : decode cX9_nights 14 = .ok (.iload_n 3, 1) := by decide +kernel
theorem dX9_nights_15 : decode cX9_nights 15 = .ok (.iconst 0, 1) := by decide +kernel
theorem dX9_nights_16 : decode cX9_nights 16 = .ok (.iconst 2, 1) := by decide +kernel
theorem dX9_nights_17 : decode cX9_nights 17 = .ok (.invokestatic 50, 3) := by decide +kernel
theorem dX9_nights_20 : decode cX9_nights 20 = .ok (.ifCond .ne 6, 3) := by decide +kernel
theorem dX9_nights_23 : decode cX9_nights 23 = .ok (.bipush (-102), 2) := by decide +kernel
theorem dX9_nights_25 : decode cX9_nights 25 = .ok (.ireturn, 1) := by decide +kernel
theorem dX9_nights_26 : decode cX9_nights 26 = .ok (.aload_n 0, 1) := by decide +kernel
theorem dX9_nights_27 : decode cX9_nights 27 = .ok (.getfield 83, 3) := by decide +kernel
theorem dX9_nights_30 : decode cX9_nights 30 = .ok (.ifCond .ne 8, 3) := by decide +kernel
theorem dX9_nights_33 : decode cX9_nights 33 = .ok (.bipush (-103), 2) := by decide +kernel
theorem dX9_nights_35 : decode cX9_nights 35 = .ok (.goto 10, 3) := by decide +kernel
theorem dX9_nights_38 : decode cX9_nights 38 = .ok (.aload_n 0, 1) := by decide +kernel
theorem dX9_nights_39 : decode cX9_nights 39 = .ok (.iload_n 1, 1) := by decide +kernel
theorem dX9_nights_40 : decode cX9_nights 40 = .ok (.iload_n 2, 1) := by decide +kernel
theorem dX9_nights_41 : decode cX9_nights 41 = .ok (.iload_n 3, 1) := by decide +kernel
theorem dX9_nights_42 : decode cX9_nights 42 = .ok (.invokevirtual 226, 3) := by decide +kernel
theorem dX9_nights_45 : decode cX9_nights 45 = .ok (.ireturn, 1) := by decide +kernel
theorem dX9_image_0 : decode cX9_image 0 = .ok (.aload_n 0, 1) := by decide +kernel
theorem dX9_image_1 : decode cX9_image 1 = .ok (.getfield 83, 3) := by decide +kernel
theorem dX9_image_4 : decode cX9_image 4 = .ok (.ifCond .ne 6, 3) := by decide +kernel
theorem dX9_image_7 : decode cX9_image 7 = .ok (.bipush (-103), 2) := by decide +kernel
theorem dX9_image_9 : decode cX9_image 9 = .ok (.ireturn, 1) := by decide +kernel
theorem dX9_image_10 : decode cX9_image 10 = .ok (.aload_n 0, 1) := by decide +kernel
theorem dX9_image_11 : decode cX9_image 11 = .ok (.iconst 1, 1) := by decide +kernel
theorem dX9_image_12 : decode cX9_image 12 = .ok (.putfield 229, 3) := by decide +kernel
theorem dX9_image_15 : decode cX9_image 15 = .ok (.aload_n 0, 1) := by decide +kernel
theorem dX9_image_16 : decode cX9_image 16 = .ok (.aload_n 0, 1) := by decide +kernel
theorem dX9_image_17 : decode cX9_image 17 = .ok (.getfield 95, 3) := by decide +kernel
theorem dX9_image_20 : decode cX9_image 20 = .ok (.putfield 232, 3) := by decide +kernel
theorem dX9_image_23 : decode cX9_image 23 = .ok (.aload_n 0, 1) := by decide +kernel
theorem dX9_image_24 : decode cX9_image 24 = .ok (.aload_n 0, 1) := by decide +kernel
theorem dX9_image_25 : decode cX9_image 25 = .ok (.getfield 86, 3) := by decide +kernel
theorem dX9_image_28 : decode cX9_image 28 = .ok (.putfield 235, 3) := by decide +kernel
theorem dX9_image_31 : decode cX9_image 31 = .ok (.aload_n 0, 1) := by decide +kernel
theorem dX9_image_32 : decode cX9_image 32 = .ok (.aload_n 0, 1) := by decide +kernel
theorem dX9_image_33 : decode cX9_image 33 = .ok (.getfield 92, 3) := by decide +kernel
theorem dX9_image_36 : decode cX9_image 36 = .ok (.putfield 238, 3) := by decide +kernel
theorem dX9_image_39 : decode cX9_image 39 = .ok (.aload_n 0, 1) := by decide +kernel
theorem dX9_image_40 : decode cX9_image 40 = .ok (.aload_n 0, 1) := by decide +kernel
theorem dX9_image_41 : decode cX9_image 41 = .ok (.getfield 89, 3) := by decide +kernel
theorem dX9_image_44 : decode cX9_image 44 = .ok (.putfield 241, 3) := by decide +kernel
theorem dX9_image_47 : decode cX9_image 47 = .ok (.aload_n 0, 1) := by decide +kernel
theorem dX9_image_48 : decode cX9_image 48 = .ok (.aload_n 0, 1) := by decide +kernel
theorem dX9_image_49 : decode cX9_image 49 = .ok (.getfield 98, 3) := by decide +kernel
theorem dX9_image_52 : decode cX9_image 52 = .ok (.putfield 244, 3) := by decide +kernel
theorem dX9_image_55 : decode cX9_image 55 = .ok (.iconst 0, 1) := by decide +kernel
theorem dX9_image_56 : decode cX9_image 56 = .ok (.istore_n 1, 1) := by decide +kernel
theorem dX9_image_57 : decode cX9_image 57 = .ok (.iload_n 1, 1) := by decide +kernel
theorem dX9_image_58 : decode cX9_image 58 = .ok (.bipush 8, 2) := by decide +kernel
theorem dX9_image_60 : decode cX9_image 60 = .ok (.if_icmp .ge 33, 3) := by decide +kernel
theorem dX9_image_63 : decode cX9_image 63 = .ok (.aload_n 0, 1) := by decide +kernel
theorem dX9_image_64 : decode cX9_image 64 = .ok (.getfield 35, 3) := by decide +kernel
theorem dX9_image_67 : decode cX9_image 67 = .ok (.iload_n 1, 1) := by decide +kernel
theorem dX9_image_68 : decode cX9_image 68 = .ok (.aload_n 0, 1) := by decide +kernel
theorem dX9_image_69 : decode cX9_image 69 = .ok (.getfield 7, 3) := by decide +kernel
theorem dX9_image_72 : decode cX9_image 72 = .ok (.iload_n 1, 1) := by decide +kernel
theorem dX9_image_73 : decode cX9_image 73 = .ok (.iaload, 1) := by decide +kernel
theorem dX9_image_74 : decode cX9_image 74 = .ok (.iastore, 1) := by decide +kernel
theorem dX9_image_75 : decode cX9_image 75 = .ok (.aload_n 0, 1) := by decide +kernel
theorem dX9_image_76 : decode cX9_image 76 = .ok (.getfield 38, 3) := by decide +kernel
theorem dX9_image_79 : decode cX9_image 79 = .ok (.iload_n 1, 1) := by decide +kernel
theorem dX9_image_80 : decode cX9_image 80 = .ok (.aload_n 0, 1) := by decide +kernel
theorem dX9_image_81 : decode cX9_image 81 = .ok (.getfield 13, 3) := by decide +kernel
theorem dX9_image_84 : decode cX9_image 84 = .ok (.iload_n 1, 1) := by decide +kernel
theorem dX9_image_85 : decode cX9_image 85 = .ok (.iaload, 1) := by decide +kernel
theorem dX9_image_86 : decode cX9_image 86 = .ok (.iastore, 1) := by decide +kernel
theorem dX9_image_87 : decode cX9_image 87 = .ok (.iinc 1 1, 3) := by decide +kernel
theorem dX9_image_90 : decode cX9_image 90 = .ok (.goto (-33), 3) := by decide +kernel
theorem dX9_image_93 : decode cX9_image 93 = .ok (.iconst 0, 1) := by decide +kernel
theorem dX9_image_94 : decode cX9_image 94 = .ok (.istore_n 1, 1) := by decide +kernel
theorem dX9_image_95 : decode cX9_image 95 = .ok (.iload_n 1, 1) := by decide +kernel
theorem dX9_image_96 : decode cX9_image 96 = .ok (.bipush 6, 2) := by decide +kernel
theorem dX9_image_98 : decode cX9_image 98 = .ok (.if_icmp .ge 45, 3) := by decide +kernel
theorem dX9_image_101 : decode cX9_image 101 = .ok (.aload_n 0, 1) := by decide +kernel
theorem dX9_image_102 : decode cX9_image 102 = .ok (.getfield 41, 3) := by decide +kernel
theorem dX9_image_105 : decode cX9_image 105 = .ok (.iload_n 1, 1) := by decide +kernel
theorem dX9_image_106 : decode cX9_image 106 = .ok (.aload_n 0, 1) := by decide +kernel
theorem dX9_image_107 : decode cX9_image 107 = .ok (.getfield 19, 3) := by decide +kernel
theorem dX9_image_110 : decode cX9_image 110 = .ok (.iload_n 1, 1) := by decide +kernel
theorem dX9_image_111 : decode cX9_image 111 = .ok (.iaload, 1) := by decide +kernel
theorem dX9_image_112 : decode cX9_image 112 = .ok (.iastore, 1) := by decide +kernel
theorem dX9_image_113 : decode cX9_image 113 = .ok (.aload_n 0, 1) := by decide +kernel
theorem dX9_image_114 : decode cX9_image 114 = .ok (.getfield 44, 3) := by decide +kernel
theorem dX9_image_117 : decode cX9_image 117 = .ok (.iload_n 1, 1) := by decide +kernel
theorem dX9_image_118 : decode cX9_image 118 = .ok (.aload_n 0, 1) := by decide +kernel
theorem dX9_image_119 : decode cX9_image 119 = .ok (.getfield 22, 3) := by decide +kernel
theorem dX9_image_122 : decode cX9_image 122 = .ok (.iload_n 1, 1) := by decide +kernel
theorem dX9_image_123 : decode cX9_image 123 = .ok (.iaload, 1) := by decide +kernel
theorem dX9_image_124 : decode cX9_image 124 = .ok (.iastore, 1) := by decide +kernel
theorem dX9_image_125 : decode cX9_image 125 = .ok (.aload_n 0, 1) := by decide +kernel
theorem dX9_image_126 : decode cX9_image 126 = .ok (.getfield 47, 3) := by decide +kernel
theorem dX9_image_129 : decode cX9_image 129 = .ok (.iload_n 1, 1) := by decide +kernel
theorem dX9_image_130 : decode cX9_image 130 = .ok (.aload_n 0, 1) := by decide +kernel
theorem dX9_image_131 : decode cX9_image 131 = .ok (.getfield 25, 3) := by decide +kernel
theorem dX9_image_134 : decode cX9_image 134 = .ok (.iload_n 1, 1) := by decide +kernel
theorem dX9_image_135 : decode cX9_image 135 = .ok (.iaload, 1) := by decide +kernel
theorem dX9_image_136 : decode cX9_image 136 = .ok (.iastore, 1) := by decide +kernel
theorem dX9_image_137 : decode cX9_image 137 = .ok (.iinc 1 1, 3) := by decide +kernel
theorem dX9_image_140 : decode cX9_image 140 = .ok (.goto (-45), 3) := by decide +kernel
theorem dX9_image_143 : decode cX9_image 143 = .ok (.aload_n 0, 1) := by decide +kernel
theorem dX9_image_144 : decode cX9_image 144 = .ok (.getfield 92, 3) := by decide +kernel
theorem dX9_image_147 : decode cX9_image 147 = .ok (.ireturn, 1) := by decide +kernel
theorem dX9_restore_0 : decode cX9_restore 0 = .ok (.aload_n 0, 1) := by decide +kernel
theorem dX9_restore_1 : decode cX9_restore 1 = .ok (.getfield 229, 3) := by decide +kernel
theorem dX9_restore_4 : decode cX9_restore 4 = .ok (.ifCond .eq 14, 3) := by decide +kernel
theorem dX9_restore_7 : decode cX9_restore 7 = .ok (.aload_n 0, 1) := by decide +kernel
theorem dX9_restore_8 : decode cX9_restore 8 = .ok (.getfield 232, 3) := by decide +kernel
theorem dX9_restore_11 : decode cX9_restore 11 = .ok (.aload_n 0, 1) := by decide +kernel
theorem dX9_restore_12 : decode cX9_restore 12 = .ok (.getfield 95, 3) := by decide +kernel
theorem dX9_restore_15 : decode cX9_restore 15 = .ok (.if_icmp .eq 6, 3) := by decide +kernel
theorem dX9_restore_18 : decode cX9_restore 18 = .ok (.bipush (-103), 2) := by decide +kernel
theorem dX9_restore_20 : decode cX9_restore 20 = .ok (.ireturn, 1) := by decide +kernel
theorem dX9_restore_21 : decode cX9_restore 21 = .ok (.aload_n 0, 1) := by decide +kernel
theorem dX9_restore_22 : decode cX9_restore 22 = .ok (.aload_n 0, 1) := by decide +kernel
theorem dX9_restore_23 : decode cX9_restore 23 = .ok (.getfield 235, 3) := by decide +kernel
theorem dX9_restore_26 : decode cX9_restore 26 = .ok (.putfield 86, 3) := by decide +kernel
theorem dX9_restore_29 : decode cX9_restore 29 = .ok (.aload_n 0, 1) := by decide +kernel
theorem dX9_restore_30 : decode cX9_restore 30 = .ok (.aload_n 0, 1) := by decide +kernel
theorem dX9_restore_31 : decode cX9_restore 31 = .ok (.getfield 238, 3) := by decide +kernel
theorem dX9_restore_34 : decode cX9_restore 34 = .ok (.putfield 92, 3) := by decide +kernel
theorem dX9_restore_37 : decode cX9_restore 37 = .ok (.aload_n 0, 1) := by decide +kernel
theorem dX9_restore_38 : decode cX9_restore 38 = .ok (.aload_n 0, 1) := by decide +kernel
theorem dX9_restore_39 : decode cX9_restore 39 = .ok (.getfield 241, 3) := by decide +kernel
theorem dX9_restore_42 : decode cX9_restore 42 = .ok (.putfield 89, 3) := by decide +kernel
theorem dX9_restore_45 : decode cX9_restore 45 = .ok (.aload_n 0, 1) := by decide +kernel
theorem dX9_restore_46 : decode cX9_restore 46 = .ok (.aload_n 0, 1) := by decide +kernel
theorem dX9_restore_47 : decode cX9_restore 47 = .ok (.getfield 244, 3) := by decide +kernel
theorem dX9_restore_50 : decode cX9_restore 50 = .ok (.putfield 98, 3) := by decide +kernel
theorem dX9_restore_53 : decode cX9_restore 53 = .ok (.iconst 0, 1) := by decide +kernel
theorem dX9_restore_54 : decode cX9_restore 54 = .ok (.istore_n 1, 1) := by decide +kernel
theorem dX9_restore_55 : decode cX9_restore 55 = .ok (.iload_n 1, 1) := by decide +kernel
theorem dX9_restore_56 : decode cX9_restore 56 = .ok (.bipush 8, 2) := by decide +kernel
theorem dX9_restore_58 : decode cX9_restore 58 = .ok (.if_icmp .ge 33, 3) := by decide +kernel
theorem dX9_restore_61 : decode cX9_restore 61 = .ok (.aload_n 0, 1) := by decide +kernel
theorem dX9_restore_62 : decode cX9_restore 62 = .ok (.getfield 7, 3) := by decide +kernel
theorem dX9_restore_65 : decode cX9_restore 65 = .ok (.iload_n 1, 1) := by decide +kernel
theorem dX9_restore_66 : decode cX9_restore 66 = .ok (.aload_n 0, 1) := by decide +kernel
theorem dX9_restore_67 : decode cX9_restore 67 = .ok (.getfield 35, 3) := by decide +kernel
theorem dX9_restore_70 : decode cX9_restore 70 = .ok (.iload_n 1, 1) := by decide +kernel
theorem dX9_restore_71 : decode cX9_restore 71 = .ok (.iaload, 1) := by decide +kernel
theorem dX9_restore_72 : decode cX9_restore 72 = .ok (.iastore, 1) := by decide +kernel
theorem dX9_restore_73 : decode cX9_restore 73 = .ok (.aload_n 0, 1) := by decide +kernel
theorem dX9_restore_74 : decode cX9_restore 74 = .ok (.getfield 13, 3) := by decide +kernel
theorem dX9_restore_77 : decode cX9_restore 77 = .ok (.iload_n 1, 1) := by decide +kernel
theorem dX9_restore_78 : decode cX9_restore 78 = .ok (.aload_n 0, 1) := by decide +kernel
theorem dX9_restore_79 : decode cX9_restore 79 = .ok (.getfield 38, 3) := by decide +kernel
theorem dX9_restore_82 : decode cX9_restore 82 = .ok (.iload_n 1, 1) := by decide +kernel
theorem dX9_restore_83 : decode cX9_restore 83 = .ok (.iaload, 1) := by decide +kernel
theorem dX9_restore_84 : decode cX9_restore 84 = .ok (.iastore, 1) := by decide +kernel
theorem dX9_restore_85 : decode cX9_restore 85 = .ok (.iinc 1 1, 3) := by decide +kernel
theorem dX9_restore_88 : decode cX9_restore 88 = .ok (.goto (-33), 3) := by decide +kernel
theorem dX9_restore_91 : decode cX9_restore 91 = .ok (.iconst 0, 1) := by decide +kernel
theorem dX9_restore_92 : decode cX9_restore 92 = .ok (.istore_n 1, 1) := by decide +kernel
theorem dX9_restore_93 : decode cX9_restore 93 = .ok (.iload_n 1, 1) := by decide +kernel
theorem dX9_restore_94 : decode cX9_restore 94 = .ok (.bipush 6, 2) := by decide +kernel
theorem dX9_restore_96 : decode cX9_restore 96 = .ok (.if_icmp .ge 45, 3) := by decide +kernel
theorem dX9_restore_99 : decode cX9_restore 99 = .ok (.aload_n 0, 1) := by decide +kernel
theorem dX9_restore_100 : decode cX9_restore 100 = .ok (.getfield 19, 3) := by decide +kernel
theorem dX9_restore_103 : decode cX9_restore 103 = .ok (.iload_n 1, 1) := by decide +kernel
theorem dX9_restore_104 : decode cX9_restore 104 = .ok (.aload_n 0, 1) := by decide +kernel
theorem dX9_restore_105 : decode cX9_restore 105 = .ok (.getfield 41, 3) := by decide +kernel
theorem dX9_restore_108 : decode cX9_restore 108 = .ok (.iload_n 1, 1) := by decide +kernel
theorem dX9_restore_109 : decode cX9_restore 109 = .ok (.iaload, 1) := by decide +kernel
theorem dX9_restore_110 : decode cX9_restore 110 = .ok (.iastore, 1) := by decide +kernel
theorem dX9_restore_111 : decode cX9_restore 111 = .ok (.aload_n 0, 1) := by decide +kernel
theorem dX9_restore_112 : decode cX9_restore 112 = .ok (.getfield 22, 3) := by decide +kernel
theorem dX9_restore_115 : decode cX9_restore 115 = .ok (.iload_n 1, 1) := by decide +kernel
theorem dX9_restore_116 : decode cX9_restore 116 = .ok (.aload_n 0, 1) := by decide +kernel
theorem dX9_restore_117 : decode cX9_restore 117 = .ok (.getfield 44, 3) := by decide +kernel
theorem dX9_restore_120 : decode cX9_restore 120 = .ok (.iload_n 1, 1) := by decide +kernel
theorem dX9_restore_121 : decode cX9_restore 121 = .ok (.iaload, 1) := by decide +kernel
theorem dX9_restore_122 : decode cX9_restore 122 = .ok (.iastore, 1) := by decide +kernel
theorem dX9_restore_123 : decode cX9_restore 123 = .ok (.aload_n 0, 1) := by decide +kernel
theorem dX9_restore_124 : decode cX9_restore 124 = .ok (.getfield 25, 3) := by decide +kernel
theorem dX9_restore_127 : decode cX9_restore 127 = .ok (.iload_n 1, 1) := by decide +kernel
theorem dX9_restore_128 : decode cX9_restore 128 = .ok (.aload_n 0, 1) := by decide +kernel
theorem dX9_restore_129 : decode cX9_restore 129 = .ok (.getfield 47, 3) := by decide +kernel
theorem dX9_restore_132 : decode cX9_restore 132 = .ok (.iload_n 1, 1) := by decide +kernel
theorem dX9_restore_133 : decode cX9_restore 133 = .ok (.iaload, 1) := by decide +kernel
theorem dX9_restore_134 : decode cX9_restore 134 = .ok (.iastore, 1) := by decide +kernel
theorem dX9_restore_135 : decode cX9_restore 135 = .ok (.iinc 1 1, 3) := by decide +kernel
theorem dX9_restore_138 : decode cX9_restore 138 = .ok (.goto (-45), 3) := by decide +kernel
theorem dX9_restore_141 : decode cX9_restore 141 = .ok (.aload_n 0, 1) := by decide +kernel
theorem dX9_restore_142 : decode cX9_restore 142 = .ok (.getfield 92, 3) := by decide +kernel
theorem dX9_restore_145 : decode cX9_restore 145 = .ok (.ireturn, 1) := by decide +kernel
theorem dX9_shyAll_0 : decode cX9_shyAll 0 = .ok (.iconst 0, 1) := by decide +kernel
theorem dX9_shyAll_1 : decode cX9_shyAll 1 = .ok (.istore_n 1, 1) := by decide +kernel
theorem dX9_shyAll_2 : decode cX9_shyAll 2 = .ok (.iconst 0, 1) := by decide +kernel
theorem dX9_shyAll_3 : decode cX9_shyAll 3 = .ok (.istore_n 2, 1) := by decide +kernel
theorem dX9_shyAll_4 : decode cX9_shyAll 4 = .ok (.iload_n 2, 1) := by decide +kernel
theorem dX9_shyAll_5 : decode cX9_shyAll 5 = .ok (.aload_n 0, 1) := by decide +kernel
theorem dX9_shyAll_6 : decode cX9_shyAll 6 = .ok (.getfield 83, 3) := by decide +kernel
theorem dX9_shyAll_9 : decode cX9_shyAll 9 = .ok (.if_icmp .ge 33, 3) := by decide +kernel
theorem dX9_shyAll_12 : decode cX9_shyAll 12 = .ok (.iload_n 1, 1) := by decide +kernel
theorem dX9_shyAll_13 : decode cX9_shyAll 13 = .ok (.aload_n 0, 1) := by decide +kernel
theorem dX9_shyAll_14 : decode cX9_shyAll 14 = .ok (.getfield 89, 3) := by decide +kernel
theorem dX9_shyAll_17 : decode cX9_shyAll 17 = .ok (.iload_n 2, 1) := by decide +kernel
theorem dX9_shyAll_18 : decode cX9_shyAll 18 = .ok (.invokestatic 105, 3) := by decide +kernel
theorem dX9_shyAll_21 : decode cX9_shyAll 21 = .ok (.ifCond .eq 12, 3) := by decide +kernel
theorem dX9_shyAll_24 : decode cX9_shyAll 24 = .ok (.aload_n 0, 1) := by decide +kernel
theorem dX9_shyAll_25 : decode cX9_shyAll 25 = .ok (.getfield 13, 3) := by decide +kernel
theorem dX9_shyAll_28 : decode cX9_shyAll 28 = .ok (.iload_n 2, 1) := by decide +kernel
theorem dX9_shyAll_29 : decode cX9_shyAll 29 = .ok (.iaload, 1) := by decide +kernel
theorem dX9_shyAll_30 : decode cX9_shyAll 30 = .ok (.goto 4, 3) := by decide +kernel
theorem dX9_shyAll_33 : decode cX9_shyAll 33 = .ok (.iconst 0, 1) := by decide +kernel
theorem dX9_shyAll_34 : decode cX9_shyAll 34 = .ok (.iadd, 1) := by decide +kernel
theorem dX9_shyAll_35 : decode cX9_shyAll 35 = .ok (.istore_n 1, 1) := by decide +kernel
theorem dX9_shyAll_36 : decode cX9_shyAll 36 = .ok (.iinc 2 1, 3) := by decide +kernel
theorem dX9_shyAll_39 : decode cX9_shyAll 39 = .ok (.goto (-35), 3) := by decide +kernel
theorem dX9_shyAll_42 : decode cX9_shyAll 42 = .ok (.iload_n 1, 1) := by decide +kernel
theorem dX9_shyAll_43 : decode cX9_shyAll 43 = .ok (.ireturn, 1) := by decide +kernel
theorem dX9_alone_0 : decode cX9_alone 0 = .ok (.iconst 0, 1) := by decide +kernel
theorem dX9_alone_1 : decode cX9_alone 1 = .ok (.istore_n 1, 1) := by decide +kernel
theorem dX9_alone_2 : decode cX9_alone 2 = .ok (.iconst 0, 1) := by decide +kernel
theorem dX9_alone_3 : decode cX9_alone 3 = .ok (.istore_n 2, 1) := by decide +kernel
theorem dX9_alone_4 : decode cX9_alone 4 = .ok (.iload_n 2, 1) := by decide +kernel
theorem dX9_alone_5 : decode cX9_alone 5 = .ok (.aload_n 0, 1) := by decide +kernel
theorem dX9_alone_6 : decode cX9_alone 6 = .ok (.getfield 83, 3) := by decide +kernel
theorem dX9_alone_9 : decode cX9_alone 9 = .ok (.if_icmp .ge 39, 3) := by decide +kernel
theorem dX9_alone_12 : decode cX9_alone 12 = .ok (.iload_n 1, 1) := by decide +kernel
theorem dX9_alone_13 : decode cX9_alone 13 = .ok (.aload_n 0, 1) := by decide +kernel
theorem dX9_alone_14 : decode cX9_alone 14 = .ok (.getfield 89, 3) := by decide +kernel
theorem dX9_alone_17 : decode cX9_alone 17 = .ok (.iload_n 2, 1) := by decide +kernel
theorem dX9_alone_18 : decode cX9_alone 18 = .ok (.invokestatic 105, 3) := by decide +kernel
theorem dX9_alone_21 : decode cX9_alone 21 = .ok (.ifCond .eq 18, 3) := by decide +kernel
theorem dX9_alone_24 : decode cX9_alone 24 = .ok (.aload_n 0, 1) := by decide +kernel
theorem dX9_alone_25 : decode cX9_alone 25 = .ok (.iload_n 2, 1) := by decide +kernel
theorem dX9_alone_26 : decode cX9_alone 26 = .ok (.iconst 1, 1) := by decide +kernel
theorem dX9_alone_27 : decode cX9_alone 27 = .ok (.iload_n 2, 1) := by decide +kernel
theorem dX9_alone_28 : decode cX9_alone 28 = .ok (.ishl, 1) := by decide +kernel
theorem dX9_alone_29 : decode cX9_alone 29 = .ok (.invokevirtual 129, 3) := by decide +kernel
theorem dX9_alone_32 : decode cX9_alone 32 = .ok (.ifCond .eq 7, 3) := by decide +kernel
theorem dX9_alone_35 : decode cX9_alone 35 = .ok (.iconst 1, 1) := by decide +kernel
theorem dX9_alone_36 : decode cX9_alone 36 = .ok (.goto 4, 3) := by decide +kernel
theorem dX9_alone_39 : decode cX9_alone 39 = .ok (.iconst 0, 1) := by decide +kernel
theorem dX9_alone_40 : decode cX9_alone 40 = .ok (.iadd, 1) := by decide +kernel
theorem dX9_alone_41 : decode cX9_alone 41 = .ok (.istore_n 1, 1) := by decide +kernel
theorem dX9_alone_42 : decode cX9_alone 42 = .ok (.iinc 2 1, 3) := by decide +kernel
theorem dX9_alone_45 : decode cX9_alone 45 = .ok (.goto (-41), 3) := by decide +kernel
theorem dX9_alone_48 : decode cX9_alone 48 = .ok (.iload_n 1, 1) := by decide +kernel
theorem dX9_alone_49 : decode cX9_alone 49 = .ok (.ireturn, 1) := by decide +kernel
theorem dX9_howMany_0 : decode cX9_howMany 0 = .ok (.iload_n 1, 1) := by decide +kernel
theorem dX9_howMany_1 : decode cX9_howMany 1 = .ok (.tableswitch 112 0 9 #[55, 60, 68, 73, 78, 83, 92, 97, 102, 107], 55) := by decide +kernel
theorem dX9_howMany_56 : decode cX9_howMany 56 = .ok (.aload_n 0, 1) := by decide +kernel
theorem dX9_howMany_57 : decode cX9_howMany 57 = .ok (.getfield 83, 3) := by decide +kernel
theorem dX9_howMany_60 : decode cX9_howMany 60 = .ok (.ireturn, 1) := by decide +kernel
theorem dX9_howMany_61 : decode cX9_howMany 61 = .ok (.aload_n 0, 1) := by decide +kernel
theorem dX9_howMany_62 : decode cX9_howMany 62 = .ok (.getfield 89, 3) := by decide +kernel
theorem dX9_howMany_65 : decode cX9_howMany 65 = .ok (.invokestatic 154, 3) := by decide +kernel
theorem dX9_howMany_68 : decode cX9_howMany 68 = .ok (.ireturn, 1) := by decide +kernel
theorem dX9_howMany_69 : decode cX9_howMany 69 = .ok (.aload_n 0, 1) := by decide +kernel
theorem dX9_howMany_70 : decode cX9_howMany 70 = .ok (.getfield 86, 3) := by decide +kernel
theorem dX9_howMany_73 : decode cX9_howMany 73 = .ok (.ireturn, 1) := by decide +kernel
theorem dX9_howMany_74 : decode cX9_howMany 74 = .ok (.aload_n 0, 1) := by decide +kernel
theorem dX9_howMany_75 : decode cX9_howMany 75 = .ok (.getfield 92, 3) := by decide +kernel
theorem dX9_howMany_78 : decode cX9_howMany 78 = .ok (.ireturn, 1) := by decide +kernel
theorem dX9_howMany_79 : decode cX9_howMany 79 = .ok (.aload_n 0, 1) := by decide +kernel
theorem dX9_howMany_80 : decode cX9_howMany 80 = .ok (.invokevirtual 247, 3) := by decide +kernel
theorem dX9_howMany_83 : decode cX9_howMany 83 = .ok (.ireturn, 1) := by decide +kernel
theorem dX9_howMany_84 : decode cX9_howMany 84 = .ok (.aload_n 0, 1) := by decide +kernel
theorem dX9_howMany_85 : decode cX9_howMany 85 = .ok (.aload_n 0, 1) := by decide +kernel
theorem dX9_howMany_86 : decode cX9_howMany 86 = .ok (.invokevirtual 114, 3) := by decide +kernel
theorem dX9_howMany_89 : decode cX9_howMany 89 = .ok (.invokevirtual 117, 3) := by decide +kernel
theorem dX9_howMany_92 : decode cX9_howMany 92 = .ok (.ireturn, 1) := by decide +kernel
theorem dX9_howMany_93 : decode cX9_howMany 93 = .ok (.aload_n 0, 1) := by decide +kernel
theorem dX9_howMany_94 : decode cX9_howMany 94 = .ok (.invokevirtual 250, 3) := by decide +kernel
theorem dX9_howMany_97 : decode cX9_howMany 97 = .ok (.ireturn, 1) := by decide +kernel
theorem dX9_howMany_98 : decode cX9_howMany 98 = .ok (.aload_n 0, 1) := by decide +kernel
theorem dX9_howMany_99 : decode cX9_howMany 99 = .ok (.getfield 98, 3) := by decide +kernel
theorem dX9_howMany_102 : decode cX9_howMany 102 = .ok (.ireturn, 1) := by decide +kernel
theorem dX9_howMany_103 : decode cX9_howMany 103 = .ok (.aload_n 0, 1) := by decide +kernel
theorem dX9_howMany_104 : decode cX9_howMany 104 = .ok (.getfield 54, 3) := by decide +kernel
theorem dX9_howMany_107 : decode cX9_howMany 107 = .ok (.ireturn, 1) := by decide +kernel
theorem dX9_howMany_108 : decode cX9_howMany 108 = .ok (.aload_n 0, 1) := by decide +kernel
theorem dX9_howMany_109 : decode cX9_howMany 109 = .ok (.getfield 95, 3) := by decide +kernel
theorem dX9_howMany_112 : decode cX9_howMany 112 = .ok (.ireturn, 1) := by decide +kernel
theorem dX9_howMany_113 : decode cX9_howMany 113 = .ok (.bipush (-102), 2) := by decide +kernel
theorem dX9_howMany_115 : decode cX9_howMany 115 = .ok (.ireturn, 1) := by decide +kernel
theorem dX9_count_0 : decode cX9_count 0 = .ok (.aload_n 0, 1) := by decide +kernel
theorem dX9_count_1 : decode cX9_count 1 = .ok (.iload_n 1, 1) := by decide +kernel
theorem dX9_count_2 : decode cX9_count 2 = .ok (.invokevirtual 253, 3) := by decide +kernel
theorem dX9_count_5 : decode cX9_count 5 = .ok (.ireturn, 1) := by decide +kernel
theorem dX9_mix_0 : decode cX9_mix 0 = .ok (.aload_n 0, 1) := by decide +kernel
theorem dX9_mix_1 : decode cX9_mix 1 = .ok (.ldc2_w 256, 3) := by decide +kernel
theorem dX9_mix_4 : decode cX9_mix 4 = .ok (.aload_n 0, 1) := by decide +kernel
theorem dX9_mix_5 : decode cX9_mix 5 = .ok (.getfield 258, 3) := by decide +kernel
theorem dX9_mix_8 : decode cX9_mix 8 = .ok (.lmul, 1) := by decide +kernel
theorem dX9_mix_9 : decode cX9_mix 9 = .ok (.lload_n 1, 1) := by decide +kernel
theorem dX9_mix_10 : decode cX9_mix 10 = .ok (.ladd, 1) := by decide +kernel
theorem dX9_mix_11 : decode cX9_mix 11 = .ok (.putfield 258, 3) := by decide +kernel
theorem dX9_mix_14 : decode cX9_mix 14 = .ok (.return_, 1) := by decide +kernel
theorem dX9_mixParty_0 : decode cX9_mixParty 0 = .ok (.aload_n 0, 1) := by decide +kernel
theorem dX9_mixParty_1 : decode cX9_mixParty 1 = .ok (.aload_n 0, 1) := by decide +kernel
theorem dX9_mixParty_2 : decode cX9_mixParty 2 = .ok (.aload_n 0, 1) := by decide +kernel
theorem dX9_mixParty_3 : decode cX9_mixParty 3 = .ok (.getfield 89, 3) := by decide +kernel
theorem dX9_mixParty_6 : decode cX9_mixParty 6 = .ok (.invokevirtual 167, 3) := by decide +kernel
theorem dX9_mixParty_9 : decode cX9_mixParty 9 = .ok (.i2l, 1) := by decide +kernel
theorem dX9_mixParty_10 : decode cX9_mixParty 10 = .ok (.invokevirtual 261, 3) := by decide +kernel
theorem dX9_mixParty_13 : decode cX9_mixParty 13 = .ok (.aload_n 0, 1) := by decide +kernel
theorem dX9_mixParty_14 : decode cX9_mixParty 14 = .ok (.aload_n 0, 1) := by decide +kernel
theorem dX9_mixParty_15 : decode cX9_mixParty 15 = .ok (.invokevirtual 170, 3) := by decide +kernel
theorem dX9_mixParty_18 : decode cX9_mixParty 18 = .ok (.i2l, 1) := by decide +kernel
theorem dX9_mixParty_19 : decode cX9_mixParty 19 = .ok (.invokevirtual 261, 3) := by decide +kernel
theorem dX9_mixParty_22 : decode cX9_mixParty 22 = .ok (.aload_n 0, 1) := by decide +kernel
theorem dX9_mixParty_23 : decode cX9_mixParty 23 = .ok (.aload_n 0, 1) := by decide +kernel
theorem dX9_mixParty_24 : decode cX9_mixParty 24 = .ok (.invokevirtual 180, 3) := by decide +kernel
theorem dX9_mixParty_27 : decode cX9_mixParty 27 = .ok (.invokestatic 154, 3) := by decide +kernel
theorem dX9_mixParty_30 : decode cX9_mixParty 30 = .ok (.i2l, 1) := by decide +kernel
theorem dX9_mixParty_31 : decode cX9_mixParty 31 = .ok (.invokevirtual 261, 3) := by decide +kernel
theorem dX9_mixParty_34 : decode cX9_mixParty 34 = .ok (.aload_n 0, 1) := by decide +kernel
theorem dX9_mixParty_35 : decode cX9_mixParty 35 = .ok (.aload_n 0, 1) := by decide +kernel
theorem dX9_mixParty_36 : decode cX9_mixParty 36 = .ok (.invokevirtual 180, 3) := by decide +kernel
theorem dX9_mixParty_39 : decode cX9_mixParty 39 = .ok (.i2l, 1) := by decide +kernel
theorem dX9_mixParty_40 : decode cX9_mixParty 40 = .ok (.invokevirtual 261, 3) := by decide +kernel
theorem dX9_mixParty_43 : decode cX9_mixParty 43 = .ok (.aload_n 0, 1) := by decide +kernel
theorem dX9_mixParty_44 : decode cX9_mixParty 44 = .ok (.aload_n 0, 1) := by decide +kernel
theorem dX9_mixParty_45 : decode cX9_mixParty 45 = .ok (.invokevirtual 195, 3) := by decide +kernel
theorem dX9_mixParty_48 : decode cX9_mixParty 48 = .ok (.i2l, 1) := by decide +kernel
theorem dX9_mixParty_49 : decode cX9_mixParty 49 = .ok (.invokevirtual 261, 3) := by decide +kernel
theorem dX9_mixParty_52 : decode cX9_mixParty 52 = .ok (.iconst 0, 1) := by decide +kernel
theorem dX9_mixParty_53 : decode cX9_mixParty 53 = .ok (.istore_n 1, 1) := by decide +kernel
theorem dX9_mixParty_54 : decode cX9_mixParty 54 = .ok (.iload_n 1, 1) := by decide +kernel
theorem dX9_mixParty_55 : decode cX9_mixParty 55 = .ok (.aload_n 0, 1) := by decide +kernel
theorem dX9_mixParty_56 : decode cX9_mixParty 56 = .ok (.getfield 83, 3) := by decide +kernel
theorem dX9_mixParty_59 : decode cX9_mixParty 59 = .ok (.if_icmp .ge 44, 3) := by decide +kernel
theorem dX9_mixParty_62 : decode cX9_mixParty 62 = .ok (.aload_n 0, 1) := by decide +kernel
theorem dX9_mixParty_63 : decode cX9_mixParty 63 = .ok (.getfield 89, 3) := by decide +kernel
theorem dX9_mixParty_66 : decode cX9_mixParty 66 = .ok (.iload_n 1, 1) := by decide +kernel
theorem dX9_mixParty_67 : decode cX9_mixParty 67 = .ok (.invokestatic 105, 3) := by decide +kernel
theorem dX9_mixParty_70 : decode cX9_mixParty 70 = .ok (.ifCond .eq 27, 3) := by decide +kernel
theorem dX9_mixParty_73 : decode cX9_mixParty 73 = .ok (.aload_n 0, 1) := by decide +kernel
theorem dX9_mixParty_74 : decode cX9_mixParty 74 = .ok (.aload_n 0, 1) := by decide +kernel
theorem dX9_mixParty_75 : decode cX9_mixParty 75 = .ok (.iload_n 1, 1) := by decide +kernel
theorem dX9_mixParty_76 : decode cX9_mixParty 76 = .ok (.iconst 4, 1) := by decide +kernel
theorem dX9_mixParty_77 : decode cX9_mixParty 77 = .ok (.iconst 0, 1) := by decide +kernel
theorem dX9_mixParty_78 : decode cX9_mixParty 78 = .ok (.invokevirtual 201, 3) := by decide +kernel
theorem dX9_mixParty_81 : decode cX9_mixParty 81 = .ok (.i2l, 1) := by decide +kernel
theorem dX9_mixParty_82 : decode cX9_mixParty 82 = .ok (.invokevirtual 261, 3) := by decide +kernel
theorem dX9_mixParty_85 : decode cX9_mixParty 85 = .ok (.aload_n 0, 1) := by decide +kernel
theorem dX9_mixParty_86 : decode cX9_mixParty 86 = .ok (.aload_n 0, 1) := by decide +kernel
theorem dX9_mixParty_87 : decode cX9_mixParty 87 = .ok (.iload_n 1, 1) := by decide +kernel
theorem dX9_mixParty_88 : decode cX9_mixParty 88 = .ok (.iconst 4, 1) := by decide +kernel
theorem dX9_mixParty_89 : decode cX9_mixParty 89 = .ok (.iconst 1, 1) := by decide +kernel
theorem dX9_mixParty_90 : decode cX9_mixParty 90 = .ok (.invokevirtual 201, 3) := by decide +kernel
theorem dX9_mixParty_93 : decode cX9_mixParty 93 = .ok (.i2l, 1) := by decide +kernel
theorem dX9_mixParty_94 : decode cX9_mixParty 94 = .ok (.invokevirtual 261, 3) := by decide +kernel
theorem dX9_mixParty_97 : decode cX9_mixParty 97 = .ok (.iinc 1 1, 3) := by decide +kernel
theorem dX9_mixParty_100 : decode cX9_mixParty 100 = .ok (.goto (-46), 3) := by decide +kernel
theorem dX9_mixParty_103 : decode cX9_mixParty 103 = .ok (.return_, 1) := by decide +kernel
theorem dX9_digest_0 : decode cX9_digest 0 = .ok (.aload_n 0, 1) := by decide +kernel
theorem dX9_digest_1 : decode cX9_digest 1 = .ok (.ldc2_w 265, 3) := by decide +kernel
theorem dX9_digest_4 : decode cX9_digest 4 = .ok (.putfield 258, 3) := by decide +kernel
theorem dX9_digest_7 : decode cX9_digest 7 = .ok (.iconst 0, 1) := by decide +kernel
theorem dX9_digest_8 : decode cX9_digest 8 = .ok (.istore_n 1, 1) := by decide +kernel
theorem dX9_digest_9 : decode cX9_digest 9 = .ok (.iload_n 1, 1) := by decide +kernel
theorem dX9_digest_10 : decode cX9_digest 10 = .ok (.aload_n 0, 1) := by decide +kernel
theorem dX9_digest_11 : decode cX9_digest 11 = .ok (.getfield 83, 3) := by decide +kernel
theorem dX9_digest_14 : decode cX9_digest 14 = .ok (.if_icmp .ge 34, 3) := by decide +kernel
theorem dX9_digest_17 : decode cX9_digest 17 = .ok (.iconst 0, 1) := by decide +kernel
theorem dX9_digest_18 : decode cX9_digest 18 = .ok (.istore_n 2, 1) := by decide +kernel
theorem dX9_digest_19 : decode cX9_digest 19 = .ok (.iload_n 2, 1) := by decide +kernel
theorem dX9_digest_20 : decode cX9_digest 20 = .ok (.bipush 9, 2) := by decide +kernel
theorem dX9_digest_22 : decode cX9_digest 22 = .ok (.if_icmp .ge 20, 3) := by decide +kernel
theorem dX9_digest_25 : decode cX9_digest 25 = .ok (.aload_n 0, 1) := by decide +kernel
theorem dX9_digest_26 : decode cX9_digest 26 = .ok (.aload_n 0, 1) := by decide +kernel
theorem dX9_digest_27 : decode cX9_digest 27 = .ok (.iload_n 1, 1) := by decide +kernel
theorem dX9_digest_28 : decode cX9_digest 28 = .ok (.iload_n 2, 1) := by decide +kernel
theorem dX9_digest_29 : decode cX9_digest 29 = .ok (.invokevirtual 148, 3) := by decide +kernel
theorem dX9_digest_32 : decode cX9_digest 32 = .ok (.i2l, 1) := by decide +kernel
theorem dX9_digest_33 : decode cX9_digest 33 = .ok (.invokevirtual 261, 3) := by decide +kernel
theorem dX9_digest_36 : decode cX9_digest 36 = .ok (.iinc 2 1, 3) := by decide +kernel
theorem dX9_digest_39 : decode cX9_digest 39 = .ok (.goto (-20), 3) := by decide +kernel
theorem dX9_digest_42 : decode cX9_digest 42 = .ok (.iinc 1 1, 3) := by decide +kernel
theorem dX9_digest_45 : decode cX9_digest 45 = .ok (.goto (-36), 3) := by decide +kernel
theorem dX9_digest_48 : decode cX9_digest 48 = .ok (.aload_n 0, 1) := by decide +kernel
theorem dX9_digest_49 : decode cX9_digest 49 = .ok (.getfield 83, 3) := by decide +kernel
theorem dX9_digest_52 : decode cX9_digest 52 = .ok (.ifCond .le 7, 3) := by decide +kernel
theorem dX9_digest_55 : decode cX9_digest 55 = .ok (.aload_n 0, 1) := by decide +kernel
theorem dX9_digest_56 : decode cX9_digest 56 = .ok (.invokevirtual 267, 3) := by decide +kernel
theorem dX9_digest_59 : decode cX9_digest 59 = .ok (.iconst 0, 1) := by decide +kernel
theorem dX9_digest_60 : decode cX9_digest 60 = .ok (.istore_n 1, 1) := by decide +kernel
theorem dX9_digest_61 : decode cX9_digest 61 = .ok (.iload_n 1, 1) := by decide +kernel
theorem dX9_digest_62 : decode cX9_digest 62 = .ok (.aload_n 0, 1) := by decide +kernel
theorem dX9_digest_63 : decode cX9_digest 63 = .ok (.getfield 54, 3) := by decide +kernel
theorem dX9_digest_66 : decode cX9_digest 66 = .ok (.if_icmp .ge 20, 3) := by decide +kernel
theorem dX9_digest_69 : decode cX9_digest 69 = .ok (.aload_n 0, 1) := by decide +kernel
theorem dX9_digest_70 : decode cX9_digest 70 = .ok (.aload_n 0, 1) := by decide +kernel
theorem dX9_digest_71 : decode cX9_digest 71 = .ok (.getfield 28, 3) := by decide +kernel
theorem dX9_digest_74 : decode cX9_digest 74 = .ok (.iload_n 1, 1) := by decide +kernel
theorem dX9_digest_75 : decode cX9_digest 75 = .ok (.baload, 1) := by decide +kernel
theorem dX9_digest_76 : decode cX9_digest 76 = .ok (.i2l, 1) := by decide +kernel
theorem dX9_digest_77 : decode cX9_digest 77 = .ok (.invokevirtual 261, 3) := by decide +kernel
theorem dX9_digest_80 : decode cX9_digest 80 = .ok (.iinc 1 1, 3) := by decide +kernel
theorem dX9_digest_83 : decode cX9_digest 83 = .ok (.goto (-22), 3) := by decide +kernel
theorem dX9_digest_86 : decode cX9_digest 86 = .ok (.iconst 0, 1) := by decide +kernel
theorem dX9_digest_87 : decode cX9_digest 87 = .ok (.istore_n 1, 1) := by decide +kernel
theorem dX9_digest_88 : decode cX9_digest 88 = .ok (.iload_n 1, 1) := by decide +kernel
theorem dX9_digest_89 : decode cX9_digest 89 = .ok (.bipush 10, 2) := by decide +kernel
theorem dX9_digest_91 : decode cX9_digest 91 = .ok (.if_icmp .ge 19, 3) := by decide +kernel
theorem dX9_digest_94 : decode cX9_digest 94 = .ok (.aload_n 0, 1) := by decide +kernel
theorem dX9_digest_95 : decode cX9_digest 95 = .ok (.aload_n 0, 1) := by decide +kernel
theorem dX9_digest_96 : decode cX9_digest 96 = .ok (.iload_n 1, 1) := by decide +kernel
theorem dX9_digest_97 : decode cX9_digest 97 = .ok (.invokevirtual 253, 3) := by decide +kernel
theorem dX9_digest_100 : decode cX9_digest 100 = .ok (.i2l, 1) := by decide +kernel
theorem dX9_digest_101 : decode cX9_digest 101 = .ok (.invokevirtual 261, 3) := by decide +kernel
theorem dX9_digest_104 : decode cX9_digest 104 = .ok (.iinc 1 1, 3) := by decide +kernel
theorem dX9_digest_107 : decode cX9_digest 107 = .ok (.goto (-19), 3) := by decide +kernel
theorem dX9_digest_110 : decode cX9_digest 110 = .ok (.aload_n 0, 1) := by decide +kernel
theorem dX9_digest_111 : decode cX9_digest 111 = .ok (.getfield 258, 3) := by decide +kernel
theorem dX9_digest_114 : decode cX9_digest 114 = .ok (.lreturn, 1) := by decide +kernel
end
section
theorem dJ6_bitCount_0f7a4_0 : decode cJ6_bitCount_0f7a4 0 = .ok (.iload_n 0, 1) := by decide +kernel
theorem dJ6_bitCount_0f7a4_1 : decode cJ6_bitCount_0f7a4 1 = .ok (.iload_n 0, 1) := by decide +kernel
theorem dJ6_bitCount_0f7a4_2 : decode cJ6_bitCount_0f7a4 2 = .ok (.iconst 1, 1) := by decide +kernel
theorem dJ6_bitCount_0f7a4_3 : decode cJ6_bitCount_0f7a4 3 = .ok (.iushr, 1) := by decide +kernel
theorem dJ6_bitCount_0f7a4_4 : decode cJ6_bitCount_0f7a4 4 = .ok (.ldc_w 265, 3) := by decide +kernel
theorem dJ6_bitCount_0f7a4_7 : decode cJ6_bitCount_0f7a4 7 = .ok (.iand, 1) := by decide +kernel
theorem dJ6_bitCount_0f7a4_8 : decode cJ6_bitCount_0f7a4 8 = .ok (.isub, 1) := by decide +kernel
theorem dJ6_bitCount_0f7a4_9 : decode cJ6_bitCount_0f7a4 9 = .ok (.istore_n 0, 1) := by decide +kernel
theorem dJ6_bitCount_0f7a4_10 : decode cJ6_bitCount_0f7a4 10 = .ok (.iload_n 0, 1) := by decide +kernel
theorem dJ6_bitCount_0f7a4_11 : decode cJ6_bitCount_0f7a4 11 = .ok (.ldc_w 266, 3) := by decide +kernel
theorem dJ6_bitCount_0f7a4_14 : decode cJ6_bitCount_0f7a4 14 = .ok (.iand, 1) := by decide +kernel
theorem dJ6_bitCount_0f7a4_15 : decode cJ6_bitCount_0f7a4 15 = .ok (.iload_n 0, 1) := by decide +kernel
theorem dJ6_bitCount_0f7a4_16 : decode cJ6_bitCount_0f7a4 16 = .ok (.iconst 2, 1) := by decide +kernel
theorem dJ6_bitCount_0f7a4_17 : decode cJ6_bitCount_0f7a4 17 = .ok (.iushr, 1) := by decide +kernel
theorem dJ6_bitCount_0f7a4_18 : decode cJ6_bitCount_0f7a4 18 = .ok (.ldc_w 266, 3) := by decide +kernel
theorem dJ6_bitCount_0f7a4_21 : decode cJ6_bitCount_0f7a4 21 = .ok (.iand, 1) := by decide +kernel
theorem dJ6_bitCount_0f7a4_22 : decode cJ6_bitCount_0f7a4 22 = .ok (.iadd, 1) := by decide +kernel
theorem dJ6_bitCount_0f7a4_23 : decode cJ6_bitCount_0f7a4 23 = .ok (.istore_n 0, 1) := by decide +kernel
theorem dJ6_bitCount_0f7a4_24 : decode cJ6_bitCount_0f7a4 24 = .ok (.iload_n 0, 1) := by decide +kernel
theorem dJ6_bitCount_0f7a4_25 : decode cJ6_bitCount_0f7a4 25 = .ok (.iload_n 0, 1) := by decide +kernel
theorem dJ6_bitCount_0f7a4_26 : decode cJ6_bitCount_0f7a4 26 = .ok (.iconst 4, 1) := by decide +kernel
theorem dJ6_bitCount_0f7a4_27 : decode cJ6_bitCount_0f7a4 27 = .ok (.iushr, 1) := by decide +kernel
theorem dJ6_bitCount_0f7a4_28 : decode cJ6_bitCount_0f7a4 28 = .ok (.iadd, 1) := by decide +kernel
theorem dJ6_bitCount_0f7a4_29 : decode cJ6_bitCount_0f7a4 29 = .ok (.ldc_w 267, 3) := by decide +kernel
theorem dJ6_bitCount_0f7a4_32 : decode cJ6_bitCount_0f7a4 32 = .ok (.iand, 1) := by decide +kernel
theorem dJ6_bitCount_0f7a4_33 : decode cJ6_bitCount_0f7a4 33 = .ok (.istore_n 0, 1) := by decide +kernel
theorem dJ6_bitCount_0f7a4_34 : decode cJ6_bitCount_0f7a4 34 = .ok (.iload_n 0, 1) := by decide +kernel
theorem dJ6_bitCount_0f7a4_35 : decode cJ6_bitCount_0f7a4 35 = .ok (.iload_n 0, 1) := by decide +kernel
theorem dJ6_bitCount_0f7a4_36 : decode cJ6_bitCount_0f7a4 36 = .ok (.bipush 8, 2) := by decide +kernel
theorem dJ6_bitCount_0f7a4_38 : decode cJ6_bitCount_0f7a4 38 = .ok (.iushr, 1) := by decide +kernel
theorem dJ6_bitCount_0f7a4_39 : decode cJ6_bitCount_0f7a4 39 = .ok (.iadd, 1) := by decide +kernel
theorem dJ6_bitCount_0f7a4_40 : decode cJ6_bitCount_0f7a4 40 = .ok (.istore_n 0, 1) := by decide +kernel
theorem dJ6_bitCount_0f7a4_41 : decode cJ6_bitCount_0f7a4 41 = .ok (.iload_n 0, 1) := by decide +kernel
theorem dJ6_bitCount_0f7a4_42 : decode cJ6_bitCount_0f7a4 42 = .ok (.iload_n 0, 1) := by decide +kernel
theorem dJ6_bitCount_0f7a4_43 : decode cJ6_bitCount_0f7a4 43 = .ok (.bipush 16, 2) := by decide +kernel
theorem dJ6_bitCount_0f7a4_45 : decode cJ6_bitCount_0f7a4 45 = .ok (.iushr, 1) := by decide +kernel
theorem dJ6_bitCount_0f7a4_46 : decode cJ6_bitCount_0f7a4 46 = .ok (.iadd, 1) := by decide +kernel
theorem dJ6_bitCount_0f7a4_47 : decode cJ6_bitCount_0f7a4 47 = .ok (.istore_n 0, 1) := by decide +kernel
theorem dJ6_bitCount_0f7a4_48 : decode cJ6_bitCount_0f7a4 48 = .ok (.iload_n 0, 1) := by decide +kernel
theorem dJ6_bitCount_0f7a4_49 : decode cJ6_bitCount_0f7a4 49 = .ok (.bipush 63, 2) := by decide +kernel
theorem dJ6_bitCount_0f7a4_51 : decode cJ6_bitCount_0f7a4 51 = .ok (.iand, 1) := by decide +kernel
theorem dJ6_bitCount_0f7a4_52 : decode cJ6_bitCount_0f7a4 52 = .ok (.ireturn, 1) := by decide +kernel
theorem dJ9_max_7cf53_0 : decode cJ9_max_7cf53 0 = .ok (.iload_n 0, 1) := by decide +kernel
theorem dJ9_max_7cf53_1 : decode cJ9_max_7cf53 1 = .ok (.iload_n 1, 1) := by decide +kernel
theorem dJ9_max_7cf53_2 : decode cJ9_max_7cf53 2 = .ok (.if_icmp .lt 7, 3) := by decide +kernel
theorem dJ9_max_7cf53_5 : decode cJ9_max_7cf53 5 = .ok (.iload_n 0, 1) := by decide +kernel
theorem dJ9_max_7cf53_6 : decode cJ9_max_7cf53 6 = .ok (.goto 4, 3) := by decide +kernel
theorem dJ9_max_7cf53_9 : decode cJ9_max_7cf53 9 = .ok (.iload_n 1, 1) := by decide +kernel
theorem dJ9_max_7cf53_10 : decode cJ9_max_7cf53 10 = .ok (.ireturn, 1) := by decide +kernel
theorem dJ0_length_8abf5_0 : decode cJ0_length_8abf5 0 = .ok (.aload_n 0, 1) := by decide +kernel
theorem dJ0_length_8abf5_1 : decode cJ0_length_8abf5 1 = .ok (.getfield 9, 3) := by decide +kernel
theorem dJ0_length_8abf5_4 : decode cJ0_length_8abf5 4 = .ok (.arraylength, 1) := by decide +kernel
theorem dJ0_length_8abf5_5 : decode cJ0_length_8abf5 5 = .ok (.aload_n 0, 1) := by decide +kernel
theorem dJ0_length_8abf5_6 : decode cJ0_length_8abf5 6 = .ok (.invokevirtual 335, 3) := by decide +kernel
theorem dJ0_length_8abf5_9 : decode cJ0_length_8abf5 9 = .ok (.ishr, 1) := by decide +kernel
theorem dJ0_length_8abf5_10 : decode cJ0_length_8abf5 10 = .ok (.ireturn, 1) := by decide +kernel
theorem dJ0_charAt_5068e_0 : decode cJ0_charAt_5068e 0 = .ok (.aload_n 0, 1) := by decide +kernel
theorem dJ0_charAt_5068e_1 : decode cJ0_charAt_5068e 1 = .ok (.invokevirtual 492, 3) := by decide +kernel
theorem dJ0_charAt_5068e_4 : decode cJ0_charAt_5068e 4 = .ok (.ifCond .eq 12, 3) := by decide +kernel
theorem dJ0_charAt_5068e_7 : decode cJ0_charAt_5068e 7 = .ok (.aload_n 0, 1) := by decide +kernel
theorem dJ0_charAt_5068e_8 : decode cJ0_charAt_5068e 8 = .ok (.getfield 9, 3) := by decide +kernel
theorem dJ0_charAt_5068e_11 : decode cJ0_charAt_5068e 11 = .ok (.iload_n 1, 1) := by decide +kernel
theorem dJ0_charAt_5068e_12 : decode cJ0_charAt_5068e 12 = .ok (.invokestatic 495, 3) := by decide +kernel
theorem dJ0_charAt_5068e_15 : decode cJ0_charAt_5068e 15 = .ok (.ireturn, 1) := by decide +kernel
theorem dJ0_charAt_5068e_16 : decode cJ0_charAt_5068e 16 = .ok (.aload_n 0, 1) := by decide +kernel
theorem dJ0_charAt_5068e_17 : decode cJ0_charAt_5068e 17 = .ok (.getfield 9, 3) := by decide +kernel
theorem dJ0_charAt_5068e_20 : decode cJ0_charAt_5068e 20 = .ok (.iload_n 1, 1) := by decide +kernel
theorem dJ0_charAt_5068e_21 : decode cJ0_charAt_5068e 21 = .ok (.invokestatic 498, 3) := by decide +kernel
theorem dJ0_charAt_5068e_24 : decode cJ0_charAt_5068e 24 = .ok (.ireturn, 1) := by decide +kernel
theorem dJ0_coder_7d493_0 : decode cJ0_coder_7d493 0 = .ok (.getstatic 38, 3) := by decide +kernel
theorem dJ0_coder_7d493_3 : decode cJ0_coder_7d493 3 = .ok (.ifCond .eq 10, 3) := by decide +kernel
theorem dJ0_coder_7d493_6 : decode cJ0_coder_7d493 6 = .ok (.aload_n 0, 1) := by decide +kernel
theorem dJ0_coder_7d493_7 : decode cJ0_coder_7d493 7 = .ok (.getfield 15, 3) := by decide +kernel
theorem dJ0_coder_7d493_10 : decode cJ0_coder_7d493 10 = .ok (.goto 4, 3) := by decide +kernel
theorem dJ0_coder_7d493_13 : decode cJ0_coder_7d493 13 = .ok (.iconst 1, 1) := by decide +kernel
theorem dJ0_coder_7d493_14 : decode cJ0_coder_7d493 14 = .ok (.ireturn, 1) := by decide +kernel
theorem dJ0_isLatin1_aae02_0 : decode cJ0_isLatin1_aae02 0 = .ok (.getstatic 38, 3) := by decide +kernel
theorem dJ0_isLatin1_aae02_3 : decode cJ0_isLatin1_aae02 3 = .ok (.ifCond .eq 14, 3) := by decide +kernel
theorem dJ0_isLatin1_aae02_6 : decode cJ0_isLatin1_aae02 6 = .ok (.aload_n 0, 1) := by decide +kernel
theorem dJ0_isLatin1_aae02_7 : decode cJ0_isLatin1_aae02 7 = .ok (.getfield 15, 3) := by decide +kernel
theorem dJ0_isLatin1_aae02_10 : decode cJ0_isLatin1_aae02 10 = .ok (.ifCond .ne 7, 3) := by decide +kernel
theorem dJ0_isLatin1_aae02_13 : decode cJ0_isLatin1_aae02 13 = .ok (.iconst 1, 1) := by decide +kernel
theorem dJ0_isLatin1_aae02_14 : decode cJ0_isLatin1_aae02 14 = .ok (.goto 4, 3) := by decide +kernel
theorem dJ0_isLatin1_aae02_17 : decode cJ0_isLatin1_aae02 17 = .ok (.iconst 0, 1) := by decide +kernel
theorem dJ0_isLatin1_aae02_18 : decode cJ0_isLatin1_aae02 18 = .ok (.ireturn, 1) := by decide +kernel
theorem dJ0_checkIndex_df160_0 : decode cJ0_checkIndex_df160 0 = .ok (.iload_n 0, 1) := by decide +kernel
theorem dJ0_checkIndex_df160_1 : decode cJ0_checkIndex_df160 1 = .ok (.iload_n 1, 1) := by decide +kernel
theorem dJ0_checkIndex_df160_2 : decode cJ0_checkIndex_df160 2 = .ok (.getstatic 1053, 3) := by decide +kernel
theorem dJ0_checkIndex_df160_5 : decode cJ0_checkIndex_df160 5 = .ok (.invokestatic 1059, 3) := by decide +kernel
theorem dJ0_checkIndex_df160_8 : decode cJ0_checkIndex_df160 8 = .ok (.pop, 1) := by decide +kernel
theorem dJ0_checkIndex_df160_9 : decode cJ0_checkIndex_df160 9 = .ok (.return_, 1) := by decide +kernel
theorem dJ1_charAt_3b067_0 : decode cJ1_charAt_3b067 0 = .ok (.iload_n 1, 1) := by decide +kernel
theorem dJ1_charAt_3b067_1 : decode cJ1_charAt_3b067 1 = .ok (.aload_n 0, 1) := by decide +kernel
theorem dJ1_charAt_3b067_2 : decode cJ1_charAt_3b067 2 = .ok (.arraylength, 1) := by decide +kernel
theorem dJ1_charAt_3b067_3 : decode cJ1_charAt_3b067 3 = .ok (.invokestatic 9, 3) := by decide +kernel
theorem dJ1_charAt_3b067_6 : decode cJ1_charAt_3b067 6 = .ok (.aload_n 0, 1) := by decide +kernel
theorem dJ1_charAt_3b067_7 : decode cJ1_charAt_3b067 7 = .ok (.iload_n 1, 1) := by decide +kernel
theorem dJ1_charAt_3b067_8 : decode cJ1_charAt_3b067 8 = .ok (.baload, 1) := by decide +kernel
theorem dJ1_charAt_3b067_9 : decode cJ1_charAt_3b067 9 = .ok (.sipush 255, 3) := by decide +kernel
theorem dJ1_charAt_3b067_12 : decode cJ1_charAt_3b067 12 = .ok (.iand, 1) := by decide +kernel
theorem dJ1_charAt_3b067_13 : decode cJ1_charAt_3b067 13 = .ok (.i2c, 1) := by decide +kernel
theorem dJ1_charAt_3b067_14 : decode cJ1_charAt_3b067 14 = .ok (.ireturn, 1) := by decide +kernel
theorem dJ3_checkIndex_8e157_0 : decode cJ3_checkIndex_8e157 0 = .ok (.iload_n 0, 1) := by decide +kernel
theorem dJ3_checkIndex_8e157_1 : decode cJ3_checkIndex_8e157 1 = .ok (.ifCond .lt 8, 3) := by decide +kernel
theorem dJ3_checkIndex_8e157_4 : decode cJ3_checkIndex_8e157 4 = .ok (.iload_n 0, 1) := by decide +kernel
theorem dJ3_checkIndex_8e157_5 : decode cJ3_checkIndex_8e157 5 = .ok (.iload_n 1, 1) := by decide +kernel
theorem dJ3_checkIndex_8e157_6 : decode cJ3_checkIndex_8e157 6 = .ok (.if_icmp .lt 10, 3) := by decide +kernel
theorem dJ3_checkIndex_8e157_9 : decode cJ3_checkIndex_8e157 9 = .ok (.aload_n 2, 1) := by decide +kernel
theorem dJ3_checkIndex_8e157_10 : decode cJ3_checkIndex_8e157 10 = .ok (.iload_n 0, 1) := by decide +kernel
theorem dJ3_checkIndex_8e157_11 : decode cJ3_checkIndex_8e157 11 = .ok (.iload_n 1, 1) := by decide +kernel
theorem dJ3_checkIndex_8e157_12 : decode cJ3_checkIndex_8e157 12 = .ok (.invokestatic 95, 3) := by decide +kernel
theorem dJ3_checkIndex_8e157_15 : decode cJ3_checkIndex_8e157 15 = .ok (.athrow, 1) := by decide +kernel
theorem dJ3_checkIndex_8e157_16 : decode cJ3_checkIndex_8e157 16 = .ok (.iload_n 0, 1) := by decide +kernel
theorem dJ3_checkIndex_8e157_17 : decode cJ3_checkIndex_8e157 17 = .ok (.ireturn, 1) := by decide +kernel
end
section
theorem dL_law_0 : decode cL_law 0 = .ok (.new 7, 3) := by decide +kernel
theorem dL_law_3 : decode cL_law 3 = .ok (.dup, 1) := by decide +kernel
theorem dL_law_4 : decode cL_law 4 = .ok (.invokespecial 9, 3) := by decide +kernel
theorem dL_law_7 : decode cL_law 7 = .ok (.astore_n 1, 1) := by decide +kernel
theorem dL_law_8 : decode cL_law 8 = .ok (.new 10, 3) := by decide +kernel
theorem dL_law_11 : decode cL_law 11 = .ok (.dup, 1) := by decide +kernel
theorem dL_law_12 : decode cL_law 12 = .ok (.invokespecial 12, 3) := by decide +kernel
theorem dL_law_15 : decode cL_law 15 = .ok (.astore_n 2, 1) := by decide +kernel
theorem dL_law_16 : decode cL_law 16 = .ok (.iconst 0, 1) := by decide +kernel
theorem dL_law_17 : decode cL_law 17 = .ok (.istore_n 3, 1) := by decide +kernel
theorem dL_law_18 : decode cL_law 18 = .ok (.iload_n 3, 1) := by decide +kernel
theorem dL_law_19 : decode cL_law 19 = .ok (.aload_n 0, 1) := by decide +kernel
theorem dL_law_20 : decode cL_law 20 = .ok (.arraylength, 1) := by decide +kernel
theorem dL_law_21 : decode cL_law 21 = .ok (.iconst 4, 1) := by decide +kernel
theorem dL_law_22 : decode cL_law 22 = .ok (.isub, 1) := by decide +kernel
theorem dL_law_23 : decode cL_law 23 = .ok (.if_icmp .gt 686, 3) := by decide +kernel
theorem dL_law_26 : decode cL_law 26 = .ok (.aload_n 0, 1) := by decide +kernel
theorem dL_law_27 : decode cL_law 27 = .ok (.iload_n 3, 1) := by decide +kernel
theorem dL_law_28 : decode cL_law 28 = .ok (.iaload, 1) := by decide +kernel
theorem dL_law_29 : decode cL_law 29 = .ok (.bipush 31, 2) := by decide +kernel
theorem dL_law_31 : decode cL_law 31 = .ok (.iand, 1) := by decide +kernel
theorem dL_law_32 : decode cL_law 32 = .ok (.tableswitch 671 0 23 #[112, 135, 148, 161, 174, 207, 240, 263, 276, 299, 322, 345, 388, 401, 414, 437, 450, 493, 552, 565, 608, 621, 634, 657], 112) := by decide +kernel
theorem dL_law_144 : decode cL_law 144 = .ok (.aload_n 1, 1) := by decide +kernel
theorem dL_law_145 : decode cL_law 145 = .ok (.aload_n 0, 1) := by decide +kernel
theorem dL_law_146 : decode cL_law 146 = .ok (.iload_n 3, 1) := by decide +kernel
theorem dL_law_147 : decode cL_law 147 = .ok (.iconst 1, 1) := by decide +kernel
theorem dL_law_148 : decode cL_law 148 = .ok (.iadd, 1) := by decide +kernel
theorem dL_law_149 : decode cL_law 149 = .ok (.iaload, 1) := by decide +kernel
theorem dL_law_150 : decode cL_law 150 = .ok (.invokevirtual 13, 3) := by decide +kernel
theorem dL_law_153 : decode cL_law 153 = .ok (.aload_n 2, 1) := by decide +kernel
theorem dL_law_154 : decode cL_law 154 = .ok (.aload_n 0, 1) := by decide +kernel
theorem dL_law_155 : decode cL_law 155 = .ok (.iload_n 3, 1) := by decide +kernel
theorem dL_law_156 : decode cL_law 156 = .ok (.iconst 1, 1) := by decide +kernel
theorem dL_law_157 : decode cL_law 157 = .ok (.iadd, 1) := by decide +kernel
theorem dL_law_158 : decode cL_law 158 = .ok (.iaload, 1) := by decide +kernel
theorem dL_law_159 : decode cL_law 159 = .ok (.invokevirtual 17, 3) := by decide +kernel
theorem dL_law_162 : decode cL_law 162 = .ok (.if_icmp .eq 541, 3) := by decide +kernel
theorem dL_law_165 : decode cL_law 165 = .ok (.iconst 0, 1) := by decide +kernel
theorem dL_law_166 : decode cL_law 166 = .ok (.ireturn, 1) := by decide +kernel
theorem dL_law_167 : decode cL_law 167 = .ok (.aload_n 1, 1) := by decide +kernel
theorem dL_law_168 : decode cL_law 168 = .ok (.invokevirtual 18, 3) := by decide +kernel
theorem dL_law_171 : decode cL_law 171 = .ok (.aload_n 2, 1) := by decide +kernel
theorem dL_law_172 : decode cL_law 172 = .ok (.invokevirtual 22, 3) := by decide +kernel
theorem dL_law_175 : decode cL_law 175 = .ok (.if_icmp .eq 528, 3) := by decide +kernel
theorem dL_law_178 : decode cL_law 178 = .ok (.iconst 0, 1) := by decide +kernel
theorem dL_law_179 : decode cL_law 179 = .ok (.ireturn, 1) := by decide +kernel
theorem dL_law_180 : decode cL_law 180 = .ok (.aload_n 1, 1) := by decide +kernel
theorem dL_law_181 : decode cL_law 181 = .ok (.invokevirtual 23, 3) := by decide +kernel
theorem dL_law_184 : decode cL_law 184 = .ok (.aload_n 2, 1) := by decide +kernel
theorem dL_law_185 : decode cL_law 185 = .ok (.invokevirtual 26, 3) := by decide +kernel
theorem dL_law_188 : decode cL_law 188 = .ok (.if_icmp .eq 515, 3) := by decide +kernel
theorem dL_law_191 : decode cL_law 191 = .ok (.iconst 0, 1) := by decide +kernel
theorem dL_law_192 : decode cL_law 192 = .ok (.ireturn, 1) := by decide +kernel
theorem dL_law_193 : decode cL_law 193 = .ok (.aload_n 1, 1) := by decide +kernel
theorem dL_law_194 : decode cL_law 194 = .ok (.invokevirtual 27, 3) := by decide +kernel
theorem dL_law_197 : decode cL_law 197 = .ok (.aload_n 2, 1) := by decide +kernel
theorem dL_law_198 : decode cL_law 198 = .ok (.invokevirtual 30, 3) := by decide +kernel
theorem dL_law_201 : decode cL_law 201 = .ok (.if_icmp .eq 502, 3) := by decide +kernel
theorem dL_law_204 : decode cL_law 204 = .ok (.iconst 0, 1) := by decide +kernel
theorem dL_law_205 : decode cL_law 205 = .ok (.ireturn, 1) := by decide +kernel
theorem dL_law_206 : decode cL_law 206 = .ok (.aload_n 1, 1) := by decide +kernel
theorem dL_law_207 : decode cL_law 207 = .ok (.aload_n 0, 1) := by decide +kernel
theorem dL_law_208 : decode cL_law 208 = .ok (.iload_n 3, 1) := by decide +kernel
theorem dL_law_209 : decode cL_law 209 = .ok (.iconst 1, 1) := by decide +kernel
theorem dL_law_210 : decode cL_law 210 = .ok (.iadd, 1) := by decide +kernel
theorem dL_law_211 : decode cL_law 211 = .ok (.iaload, 1) := by decide +kernel
theorem dL_law_212 : decode cL_law 212 = .ok (.aload_n 0, 1) := by decide +kernel
theorem dL_law_213 : decode cL_law 213 = .ok (.iload_n 3, 1) := by decide +kernel
theorem dL_law_214 : decode cL_law 214 = .ok (.iconst 2, 1) := by decide +kernel
theorem dL_law_215 : decode cL_law 215 = .ok (.iadd, 1) := by decide +kernel
theorem dL_law_216 : decode cL_law 216 = .ok (.iaload, 1) := by decide +kernel
theorem dL_law_217 : decode cL_law 217 = .ok (.invokevirtual 31, 3) := by decide +kernel
theorem dL_law_220 : decode cL_law 220 = .ok (.aload_n 2, 1) := by decide +kernel
theorem dL_law_221 : decode cL_law 221 = .ok (.aload_n 0, 1) := by decide +kernel
theorem dL_law_222 : decode cL_law 222 = .ok (.iload_n 3, 1) := by decide +kernel
theorem dL_law_223 : decode cL_law 223 = .ok (.iconst 1, 1) := by decide +kernel
theorem dL_law_224 : decode cL_law 224 = .ok (.iadd, 1) := by decide +kernel
theorem dL_law_225 : decode cL_law 225 = .ok (.iaload, 1) := by decide +kernel
theorem dL_law_226 : decode cL_law 226 = .ok (.aload_n 0, 1) := by decide +kernel
theorem dL_law_227 : decode cL_law 227 = .ok (.iload_n 3, 1) := by decide +kernel
theorem dL_law_228 : decode cL_law 228 = .ok (.iconst 2, 1) := by decide +kernel
theorem dL_law_229 : decode cL_law 229 = .ok (.iadd, 1) := by decide +kernel
theorem dL_law_230 : decode cL_law 230 = .ok (.iaload, 1) := by decide +kernel
theorem dL_law_231 : decode cL_law 231 = .ok (.invokevirtual 35, 3) := by decide +kernel
theorem dL_law_234 : decode cL_law 234 = .ok (.if_icmp .eq 469, 3) := by decide +kernel
theorem dL_law_237 : decode cL_law 237 = .ok (.iconst 0, 1) := by decide +kernel
theorem dL_law_238 : decode cL_law 238 = .ok (.ireturn, 1) := by decide +kernel
theorem dL_law_239 : decode cL_law 239 = .ok (.aload_n 1, 1) := by decide +kernel
theorem dL_law_240 : decode cL_law 240 = .ok (.aload_n 0, 1) := by decide +kernel
theorem dL_law_241 : decode cL_law 241 = .ok (.iload_n 3, 1) := by decide +kernel
theorem dL_law_242 : decode cL_law 242 = .ok (.iconst 1, 1) := by decide +kernel
theorem dL_law_243 : decode cL_law 243 = .ok (.iadd, 1) := by decide +kernel
theorem dL_law_244 : decode cL_law 244 = .ok (.iaload, 1) := by decide +kernel
theorem dL_law_245 : decode cL_law 245 = .ok (.aload_n 0, 1) := by decide +kernel
theorem dL_law_246 : decode cL_law 246 = .ok (.iload_n 3, 1) := by decide +kernel
theorem dL_law_247 : decode cL_law 247 = .ok (.iconst 2, 1) := by decide +kernel
theorem dL_law_248 : decode cL_law 248 = .ok (.iadd, 1) := by decide +kernel
theorem dL_law_249 : decode cL_law 249 = .ok (.iaload, 1) := by decide +kernel
theorem dL_law_250 : decode cL_law 250 = .ok (.invokevirtual 36, 3) := by decide +kernel
theorem dL_law_253 : decode cL_law 253 = .ok (.aload_n 2, 1) := by decide +kernel
theorem dL_law_254 : decode cL_law 254 = .ok (.aload_n 0, 1) := by decide +kernel
theorem dL_law_255 : decode cL_law 255 = .ok (.iload_n 3, 1) := by decide +kernel
theorem dL_law_256 : decode cL_law 256 = .ok (.iconst 1, 1) := by decide +kernel
theorem dL_law_257 : decode cL_law 257 = .ok (.iadd, 1) := by decide +kernel
theorem dL_law_258 : decode cL_law 258 = .ok (.iaload, 1) := by decide +kernel
theorem dL_law_259 : decode cL_law 259 = .ok (.aload_n 0, 1) := by decide +kernel
theorem dL_law_260 : decode cL_law 260 = .ok (.iload_n 3, 1) := by decide +kernel
theorem dL_law_261 : decode cL_law 261 = .ok (.iconst 2, 1) := by decide +kernel
theorem dL_law_262 : decode cL_law 262 = .ok (.iadd, 1) := by decide +kernel
theorem dL_law_263 : decode cL_law 263 = .ok (.iaload, 1) := by decide +kernel
theorem dL_law_264 : decode cL_law 264 = .ok (.invokevirtual 39, 3) := by decide +kernel
theorem dL_law_267 : decode cL_law 267 = .ok (.if_icmp .eq 436, 3) := by decide +kernel
theorem dL_law_270 : decode cL_law 270 = .ok (.iconst 0, 1) := by decide +kernel
theorem dL_law_271 : decode cL_law 271 = .ok (.ireturn, 1) := by decide +kernel
theorem dL_law_272 : decode cL_law 272 = .ok (.aload_n 1, 1) := by decide +kernel
theorem dL_law_273 : decode cL_law 273 = .ok (.aload_n 0, 1) := by decide +kernel
theorem dL_law_274 : decode cL_law 274 = .ok (.iload_n 3, 1) := by decide +kernel
theorem dL_law_275 : decode cL_law 275 = .ok (.iconst 1, 1) := by decide +kernel
theorem dL_law_276 : decode cL_law 276 = .ok (.iadd, 1) := by decide +kernel
theorem dL_law_277 : decode cL_law 277 = .ok (.iaload, 1) := by decide +kernel
theorem dL_law_278 : decode cL_law 278 = .ok (.invokevirtual 40, 3) := by decide +kernel
theorem dL_law_281 : decode cL_law 281 = .ok (.aload_n 2, 1) := by decide +kernel
theorem dL_law_282 : decode cL_law 282 = .ok (.aload_n 0, 1) := by decide +kernel
theorem dL_law_283 : decode cL_law 283 = .ok (.iload_n 3, 1) := by decide +kernel
theorem dL_law_284 : decode cL_law 284 = .ok (.iconst 1, 1) := by decide +kernel
theorem dL_law_285 : decode cL_law 285 = .ok (.iadd, 1) := by decide +kernel
theorem dL_law_286 : decode cL_law 286 = .ok (.iaload, 1) := by decide +kernel
theorem dL_law_287 : decode cL_law 287 = .ok (.invokevirtual 43, 3) := by decide +kernel
theorem dL_law_290 : decode cL_law 290 = .ok (.if_icmp .eq 413, 3) := by decide +kernel
theorem dL_law_293 : decode cL_law 293 = .ok (.iconst 0, 1) := by decide +kernel
theorem dL_law_294 : decode cL_law 294 = .ok (.ireturn, 1) := by decide +kernel
theorem dL_law_295 : decode cL_law 295 = .ok (.aload_n 1, 1) := by decide +kernel
theorem dL_law_296 : decode cL_law 296 = .ok (.invokevirtual 44, 3) := by decide +kernel
theorem dL_law_299 : decode cL_law 299 = .ok (.aload_n 2, 1) := by decide +kernel
theorem dL_law_300 : decode cL_law 300 = .ok (.invokevirtual 47, 3) := by decide +kernel
theorem dL_law_303 : decode cL_law 303 = .ok (.if_icmp .eq 400, 3) := by decide +kernel
theorem dL_law_306 : decode cL_law 306 = .ok (.iconst 0, 1) := by decide +kernel
theorem dL_law_307 : decode cL_law 307 = .ok (.ireturn, 1) := by decide +kernel
theorem dL_law_308 : decode cL_law 308 = .ok (.aload_n 1, 1) := by decide +kernel
theorem dL_law_309 : decode cL_law 309 = .ok (.aload_n 0, 1) := by decide +kernel
theorem dL_law_310 : decode cL_law 310 = .ok (.iload_n 3, 1) := by decide +kernel
theorem dL_law_311 : decode cL_law 311 = .ok (.iconst 1, 1) := by decide +kernel
theorem dL_law_312 : decode cL_law 312 = .ok (.iadd, 1) := by decide +kernel
theorem dL_law_313 : decode cL_law 313 = .ok (.iaload, 1) := by decide +kernel
theorem dL_law_314 : decode cL_law 314 = .ok (.invokevirtual 48, 3) := by decide +kernel
theorem dL_law_317 : decode cL_law 317 = .ok (.aload_n 2, 1) := by decide +kernel
theorem dL_law_318 : decode cL_law 318 = .ok (.aload_n 0, 1) := by decide +kernel
theorem dL_law_319 : decode cL_law 319 = .ok (.iload_n 3, 1) := by decide +kernel
theorem dL_law_320 : decode cL_law 320 = .ok (.iconst 1, 1) := by decide +kernel
theorem dL_law_321 : decode cL_law 321 = .ok (.iadd, 1) := by decide +kernel
theorem dL_law_322 : decode cL_law 322 = .ok (.iaload, 1) := by decide +kernel
theorem dL_law_323 : decode cL_law 323 = .ok (.invokevirtual 51, 3) := by decide +kernel
theorem dL_law_326 : decode cL_law 326 = .ok (.if_icmp .eq 377, 3) := by decide +kernel
theorem dL_law_329 : decode cL_law 329 = .ok (.iconst 0, 1) := by decide +kernel
theorem dL_law_330 : decode cL_law 330 = .ok (.ireturn, 1) := by decide +kernel
theorem dL_law_331 : decode cL_law 331 = .ok (.aload_n 1, 1) := by decide +kernel
theorem dL_law_332 : decode cL_law 332 = .ok (.aload_n 0, 1) := by decide +kernel
theorem dL_law_333 : decode cL_law 333 = .ok (.iload_n 3, 1) := by decide +kernel
theorem dL_law_334 : decode cL_law 334 = .ok (.iconst 1, 1) := by decide +kernel
theorem dL_law_335 : decode cL_law 335 = .ok (.iadd, 1) := by decide +kernel
theorem dL_law_336 : decode cL_law 336 = .ok (.iaload, 1) := by decide +kernel
theorem dL_law_337 : decode cL_law 337 = .ok (.invokevirtual 52, 3) := by decide +kernel
theorem dL_law_340 : decode cL_law 340 = .ok (.aload_n 2, 1) := by decide +kernel
theorem dL_law_341 : decode cL_law 341 = .ok (.aload_n 0, 1) := by decide +kernel
theorem dL_law_342 : decode cL_law 342 = .ok (.iload_n 3, 1) := by decide +kernel
theorem dL_law_343 : decode cL_law 343 = .ok (.iconst 1, 1) := by decide +kernel
theorem dL_law_344 : decode cL_law 344 = .ok (.iadd, 1) := by decide +kernel
theorem dL_law_345 : decode cL_law 345 = .ok (.iaload, 1) := by decide +kernel
theorem dL_law_346 : decode cL_law 346 = .ok (.invokevirtual 55, 3) := by decide +kernel
theorem dL_law_349 : decode cL_law 349 = .ok (.if_icmp .eq 354, 3) := by decide +kernel
theorem dL_law_352 : decode cL_law 352 = .ok (.iconst 0, 1) := by decide +kernel
theorem dL_law_353 : decode cL_law 353 = .ok (.ireturn, 1) := by decide +kernel
theorem dL_law_354 : decode cL_law 354 = .ok (.aload_n 1, 1) := by decide +kernel
theorem dL_law_355 : decode cL_law 355 = .ok (.aload_n 0, 1) := by decide +kernel
theorem dL_law_356 : decode cL_law 356 = .ok (.iload_n 3, 1) := by decide +kernel
theorem dL_law_357 : decode cL_law 357 = .ok (.iconst 1, 1) := by decide +kernel
theorem dL_law_358 : decode cL_law 358 = .ok (.iadd, 1) := by decide +kernel
theorem dL_law_359 : decode cL_law 359 = .ok (.iaload, 1) := by decide +kernel
theorem dL_law_360 : decode cL_law 360 = .ok (.invokevirtual 56, 3) := by decide +kernel
theorem dL_law_363 : decode cL_law 363 = .ok (.aload_n 2, 1) := by decide +kernel
theorem dL_law_364 : decode cL_law 364 = .ok (.aload_n 0, 1) := by decide +kernel
theorem dL_law_365 : decode cL_law 365 = .ok (.iload_n 3, 1) := by decide +kernel
theorem dL_law_366 : decode cL_law 366 = .ok (.iconst 1, 1) := by decide +kernel
theorem dL_law_367 : decode cL_law 367 = .ok (.iadd, 1) := by decide +kernel
theorem dL_law_368 : decode cL_law 368 = .ok (.iaload, 1) := by decide +kernel
theorem dL_law_369 : decode cL_law 369 = .ok (.invokevirtual 59, 3) := by decide +kernel
theorem dL_law_372 : decode cL_law 372 = .ok (.if_icmp .eq 331, 3) := by decide +kernel
theorem dL_law_375 : decode cL_law 375 = .ok (.iconst 0, 1) := by decide +kernel
theorem dL_law_376 : decode cL_law 376 = .ok (.ireturn, 1) := by decide +kernel
theorem dL_law_377 : decode cL_law 377 = .ok (.aload_n 1, 1) := by decide +kernel
theorem dL_law_378 : decode cL_law 378 = .ok (.aload_n 0, 1) := by decide +kernel
theorem dL_law_379 : decode cL_law 379 = .ok (.iload_n 3, 1) := by decide +kernel
theorem dL_law_380 : decode cL_law 380 = .ok (.iconst 1, 1) := by decide +kernel
theorem dL_law_381 : decode cL_law 381 = .ok (.iadd, 1) := by decide +kernel
theorem dL_law_382 : decode cL_law 382 = .ok (.iaload, 1) := by decide +kernel
theorem dL_law_383 : decode cL_law 383 = .ok (.aload_n 0, 1) := by decide +kernel
theorem dL_law_384 : decode cL_law 384 = .ok (.iload_n 3, 1) := by decide +kernel
theorem dL_law_385 : decode cL_law 385 = .ok (.iconst 2, 1) := by decide +kernel
theorem dL_law_386 : decode cL_law 386 = .ok (.iadd, 1) := by decide +kernel
theorem dL_law_387 : decode cL_law 387 = .ok (.iaload, 1) := by decide +kernel
theorem dL_law_388 : decode cL_law 388 = .ok (.aload_n 0, 1) := by decide +kernel
theorem dL_law_389 : decode cL_law 389 = .ok (.iload_n 3, 1) := by decide +kernel
theorem dL_law_390 : decode cL_law 390 = .ok (.iconst 3, 1) := by decide +kernel
theorem dL_law_391 : decode cL_law 391 = .ok (.iadd, 1) := by decide +kernel
theorem dL_law_392 : decode cL_law 392 = .ok (.iaload, 1) := by decide +kernel
theorem dL_law_393 : decode cL_law 393 = .ok (.invokevirtual 60, 3) := by decide +kernel
theorem dL_law_396 : decode cL_law 396 = .ok (.aload_n 2, 1) := by decide +kernel
theorem dL_law_397 : decode cL_law 397 = .ok (.aload_n 0, 1) := by decide +kernel
theorem dL_law_398 : decode cL_law 398 = .ok (.iload_n 3, 1) := by decide +kernel
theorem dL_law_399 : decode cL_law 399 = .ok (.iconst 1, 1) := by decide +kernel
theorem dL_law_400 : decode cL_law 400 = .ok (.iadd, 1) := by decide +kernel
theorem dL_law_401 : decode cL_law 401 = .ok (.iaload, 1) := by decide +kernel
theorem dL_law_402 : decode cL_law 402 = .ok (.aload_n 0, 1) := by decide +kernel
theorem dL_law_403 : decode cL_law 403 = .ok (.iload_n 3, 1) := by decide +kernel
theorem dL_law_404 : decode cL_law 404 = .ok (.iconst 2, 1) := by decide +kernel
theorem dL_law_405 : decode cL_law 405 = .ok (.iadd, 1) := by decide +kernel
theorem dL_law_406 : decode cL_law 406 = .ok (.iaload, 1) := by decide +kernel
theorem dL_law_407 : decode cL_law 407 = .ok (.aload_n 0, 1) := by decide +kernel
theorem dL_law_408 : decode cL_law 408 = .ok (.iload_n 3, 1) := by decide +kernel
theorem dL_law_409 : decode cL_law 409 = .ok (.iconst 3, 1) := by decide +kernel
theorem dL_law_410 : decode cL_law 410 = .ok (.iadd, 1) := by decide +kernel
theorem dL_law_411 : decode cL_law 411 = .ok (.iaload, 1) := by decide +kernel
theorem dL_law_412 : decode cL_law 412 = .ok (.invokevirtual 64, 3) := by decide +kernel
theorem dL_law_415 : decode cL_law 415 = .ok (.if_icmp .eq 288, 3) := by decide +kernel
theorem dL_law_418 : decode cL_law 418 = .ok (.iconst 0, 1) := by decide +kernel
theorem dL_law_419 : decode cL_law 419 = .ok (.ireturn, 1) := by decide +kernel
theorem dL_law_420 : decode cL_law 420 = .ok (.aload_n 1, 1) := by decide +kernel
theorem dL_law_421 : decode cL_law 421 = .ok (.invokevirtual 65, 3) := by decide +kernel
theorem dL_law_424 : decode cL_law 424 = .ok (.aload_n 2, 1) := by decide +kernel
theorem dL_law_425 : decode cL_law 425 = .ok (.invokevirtual 68, 3) := by decide +kernel
theorem dL_law_428 : decode cL_law 428 = .ok (.if_icmp .eq 275, 3) := by decide +kernel
theorem dL_law_431 : decode cL_law 431 = .ok (.iconst 0, 1) := by decide +kernel
theorem dL_law_432 : decode cL_law 432 = .ok (.ireturn, 1) := by decide +kernel
theorem dL_law_433 : decode cL_law 433 = .ok (.aload_n 1, 1) := by decide +kernel
theorem dL_law_434 : decode cL_law 434 = .ok (.invokevirtual 69, 3) := by decide +kernel
theorem dL_law_437 : decode cL_law 437 = .ok (.aload_n 2, 1) := by decide +kernel
theorem dL_law_438 : decode cL_law 438 = .ok (.invokevirtual 72, 3) := by decide +kernel
theorem dL_law_441 : decode cL_law 441 = .ok (.if_icmp .eq 262, 3) := by decide +kernel
theorem dL_law_444 : decode cL_law 444 = .ok (.iconst 0, 1) := by decide +kernel
theorem dL_law_445 : decode cL_law 445 = .ok (.ireturn, 1) := by decide +kernel
theorem dL_law_446 : decode cL_law 446 = .ok (.aload_n 1, 1) := by decide +kernel
theorem dL_law_447 : decode cL_law 447 = .ok (.aload_n 0, 1) := by decide +kernel
theorem dL_law_448 : decode cL_law 448 = .ok (.iload_n 3, 1) := by decide +kernel
theorem dL_law_449 : decode cL_law 449 = .ok (.iconst 1, 1) := by decide +kernel
theorem dL_law_450 : decode cL_law 450 = .ok (.iadd, 1) := by decide +kernel
theorem dL_law_451 : decode cL_law 451 = .ok (.iaload, 1) := by decide +kernel
theorem dL_law_452 : decode cL_law 452 = .ok (.invokevirtual 73, 3) := by decide +kernel
theorem dL_law_455 : decode cL_law 455 = .ok (.aload_n 2, 1) := by decide +kernel
theorem dL_law_456 : decode cL_law 456 = .ok (.aload_n 0, 1) := by decide +kernel
theorem dL_law_457 : decode cL_law 457 = .ok (.iload_n 3, 1) := by decide +kernel
theorem dL_law_458 : decode cL_law 458 = .ok (.iconst 1, 1) := by decide +kernel
theorem dL_law_459 : decode cL_law 459 = .ok (.iadd, 1) := by decide +kernel
theorem dL_law_460 : decode cL_law 460 = .ok (.iaload, 1) := by decide +kernel
theorem dL_law_461 : decode cL_law 461 = .ok (.invokevirtual 76, 3) := by decide +kernel
theorem dL_law_464 : decode cL_law 464 = .ok (.if_icmp .eq 239, 3) := by decide +kernel
theorem dL_law_467 : decode cL_law 467 = .ok (.iconst 0, 1) := by decide +kernel
theorem dL_law_468 : decode cL_law 468 = .ok (.ireturn, 1) := by decide +kernel
theorem dL_law_469 : decode cL_law 469 = .ok (.aload_n 1, 1) := by decide +kernel
theorem dL_law_470 : decode cL_law 470 = .ok (.invokevirtual 77, 3) := by decide +kernel
theorem dL_law_473 : decode cL_law 473 = .ok (.aload_n 2, 1) := by decide +kernel
theorem dL_law_474 : decode cL_law 474 = .ok (.invokevirtual 80, 3) := by decide +kernel
theorem dL_law_477 : decode cL_law 477 = .ok (.if_icmp .eq 226, 3) := by decide +kernel
theorem dL_law_480 : decode cL_law 480 = .ok (.iconst 0, 1) := by decide +kernel
theorem dL_law_481 : decode cL_law 481 = .ok (.ireturn, 1) := by decide +kernel
theorem dL_law_482 : decode cL_law 482 = .ok (.aload_n 1, 1) := by decide +kernel
theorem dL_law_483 : decode cL_law 483 = .ok (.aload_n 0, 1) := by decide +kernel
theorem dL_law_484 : decode cL_law 484 = .ok (.iload_n 3, 1) := by decide +kernel
theorem dL_law_485 : decode cL_law 485 = .ok (.iconst 1, 1) := by decide +kernel
theorem dL_law_486 : decode cL_law 486 = .ok (.iadd, 1) := by decide +kernel
theorem dL_law_487 : decode cL_law 487 = .ok (.iaload, 1) := by decide +kernel
theorem dL_law_488 : decode cL_law 488 = .ok (.aload_n 0, 1) := by decide +kernel
theorem dL_law_489 : decode cL_law 489 = .ok (.iload_n 3, 1) := by decide +kernel
theorem dL_law_490 : decode cL_law 490 = .ok (.iconst 2, 1) := by decide +kernel
theorem dL_law_491 : decode cL_law 491 = .ok (.iadd, 1) := by decide +kernel
theorem dL_law_492 : decode cL_law 492 = .ok (.iaload, 1) := by decide +kernel
theorem dL_law_493 : decode cL_law 493 = .ok (.aload_n 0, 1) := by decide +kernel
theorem dL_law_494 : decode cL_law 494 = .ok (.iload_n 3, 1) := by decide +kernel
theorem dL_law_495 : decode cL_law 495 = .ok (.iconst 3, 1) := by decide +kernel
theorem dL_law_496 : decode cL_law 496 = .ok (.iadd, 1) := by decide +kernel
theorem dL_law_497 : decode cL_law 497 = .ok (.iaload, 1) := by decide +kernel
theorem dL_law_498 : decode cL_law 498 = .ok (.invokevirtual 81, 3) := by decide +kernel
theorem dL_law_501 : decode cL_law 501 = .ok (.aload_n 2, 1) := by decide +kernel
theorem dL_law_502 : decode cL_law 502 = .ok (.aload_n 0, 1) := by decide +kernel
theorem dL_law_503 : decode cL_law 503 = .ok (.iload_n 3, 1) := by decide +kernel
theorem dL_law_504 : decode cL_law 504 = .ok (.iconst 1, 1) := by decide +kernel
theorem dL_law_505 : decode cL_law 505 = .ok (.iadd, 1) := by decide +kernel
theorem dL_law_506 : decode cL_law 506 = .ok (.iaload, 1) := by decide +kernel
theorem dL_law_507 : decode cL_law 507 = .ok (.aload_n 0, 1) := by decide +kernel
theorem dL_law_508 : decode cL_law 508 = .ok (.iload_n 3, 1) := by decide +kernel
theorem dL_law_509 : decode cL_law 509 = .ok (.iconst 2, 1) := by decide +kernel
theorem dL_law_510 : decode cL_law 510 = .ok (.iadd, 1) := by decide +kernel
theorem dL_law_511 : decode cL_law 511 = .ok (.iaload, 1) := by decide +kernel
theorem dL_law_512 : decode cL_law 512 = .ok (.aload_n 0, 1) := by decide +kernel
theorem dL_law_513 : decode cL_law 513 = .ok (.iload_n 3, 1) := by decide +kernel
theorem dL_law_514 : decode cL_law 514 = .ok (.iconst 3, 1) := by decide +kernel
theorem dL_law_515 : decode cL_law 515 = .ok (.iadd, 1) := by decide +kernel
theorem dL_law_516 : decode cL_law 516 = .ok (.iaload, 1) := by decide +kernel
theorem dL_law_517 : decode cL_law 517 = .ok (.invokevirtual 84, 3) := by decide +kernel
theorem dL_law_520 : decode cL_law 520 = .ok (.if_icmp .eq 183, 3) := by decide +kernel
theorem dL_law_523 : decode cL_law 523 = .ok (.iconst 0, 1) := by decide +kernel
theorem dL_law_524 : decode cL_law 524 = .ok (.ireturn, 1) := by decide +kernel
theorem dL_law_525 : decode cL_law 525 = .ok (.aload_n 1, 1) := by decide +kernel
theorem dL_law_526 : decode cL_law 526 = .ok (.aload_n 0, 1) := by decide +kernel
theorem dL_law_527 : decode cL_law 527 = .ok (.iload_n 3, 1) := by decide +kernel
theorem dL_law_528 : decode cL_law 528 = .ok (.iconst 1, 1) := by decide +kernel
theorem dL_law_529 : decode cL_law 529 = .ok (.iadd, 1) := by decide +kernel
theorem dL_law_530 : decode cL_law 530 = .ok (.iaload, 1) := by decide +kernel
theorem dL_law_531 : decode cL_law 531 = .ok (.aload_n 0, 1) := by decide +kernel
theorem dL_law_532 : decode cL_law 532 = .ok (.iload_n 3, 1) := by decide +kernel
theorem dL_law_533 : decode cL_law 533 = .ok (.iconst 2, 1) := by decide +kernel
theorem dL_law_534 : decode cL_law 534 = .ok (.iadd, 1) := by decide +kernel
theorem dL_law_535 : decode cL_law 535 = .ok (.iaload, 1) := by decide +kernel
theorem dL_law_536 : decode cL_law 536 = .ok (.aload_n 0, 1) := by decide +kernel
theorem dL_law_537 : decode cL_law 537 = .ok (.iload_n 3, 1) := by decide +kernel
theorem dL_law_538 : decode cL_law 538 = .ok (.iconst 3, 1) := by decide +kernel
theorem dL_law_539 : decode cL_law 539 = .ok (.iadd, 1) := by decide +kernel
theorem dL_law_540 : decode cL_law 540 = .ok (.iaload, 1) := by decide +kernel
theorem dL_law_541 : decode cL_law 541 = .ok (.ifCond .eq 7, 3) := by decide +kernel
theorem dL_law_544 : decode cL_law 544 = .ok (.iconst 1, 1) := by decide +kernel
theorem dL_law_545 : decode cL_law 545 = .ok (.goto 4, 3) := by decide +kernel
theorem dL_law_548 : decode cL_law 548 = .ok (.iconst 0, 1) := by decide +kernel
theorem dL_law_549 : decode cL_law 549 = .ok (.invokevirtual 85, 3) := by decide +kernel
theorem dL_law_552 : decode cL_law 552 = .ok (.aload_n 2, 1) := by decide +kernel
theorem dL_law_553 : decode cL_law 553 = .ok (.aload_n 0, 1) := by decide +kernel
theorem dL_law_554 : decode cL_law 554 = .ok (.iload_n 3, 1) := by decide +kernel
theorem dL_law_555 : decode cL_law 555 = .ok (.iconst 1, 1) := by decide +kernel
theorem dL_law_556 : decode cL_law 556 = .ok (.iadd, 1) := by decide +kernel
theorem dL_law_557 : decode cL_law 557 = .ok (.iaload, 1) := by decide +kernel
theorem dL_law_558 : decode cL_law 558 = .ok (.aload_n 0, 1) := by decide +kernel
theorem dL_law_559 : decode cL_law 559 = .ok (.iload_n 3, 1) := by decide +kernel
theorem dL_law_560 : decode cL_law 560 = .ok (.iconst 2, 1) := by decide +kernel
theorem dL_law_561 : decode cL_law 561 = .ok (.iadd, 1) := by decide +kernel
theorem dL_law_562 : decode cL_law 562 = .ok (.iaload, 1) := by decide +kernel
theorem dL_law_563 : decode cL_law 563 = .ok (.aload_n 0, 1) := by decide +kernel
theorem dL_law_564 : decode cL_law 564 = .ok (.iload_n 3, 1) := by decide +kernel
theorem dL_law_565 : decode cL_law 565 = .ok (.iconst 3, 1) := by decide +kernel
theorem dL_law_566 : decode cL_law 566 = .ok (.iadd, 1) := by decide +kernel
theorem dL_law_567 : decode cL_law 567 = .ok (.iaload, 1) := by decide +kernel
theorem dL_law_568 : decode cL_law 568 = .ok (.ifCond .eq 7, 3) := by decide +kernel
theorem dL_law_571 : decode cL_law 571 = .ok (.iconst 1, 1) := by decide +kernel
theorem dL_law_572 : decode cL_law 572 = .ok (.goto 4, 3) := by decide +kernel
theorem dL_law_575 : decode cL_law 575 = .ok (.iconst 0, 1) := by decide +kernel
theorem dL_law_576 : decode cL_law 576 = .ok (.invokevirtual 89, 3) := by decide +kernel
theorem dL_law_579 : decode cL_law 579 = .ok (.if_icmp .eq 124, 3) := by decide +kernel
theorem dL_law_582 : decode cL_law 582 = .ok (.iconst 0, 1) := by decide +kernel
theorem dL_law_583 : decode cL_law 583 = .ok (.ireturn, 1) := by decide +kernel
theorem dL_law_584 : decode cL_law 584 = .ok (.aload_n 1, 1) := by decide +kernel
theorem dL_law_585 : decode cL_law 585 = .ok (.invokevirtual 90, 3) := by decide +kernel
theorem dL_law_588 : decode cL_law 588 = .ok (.aload_n 2, 1) := by decide +kernel
theorem dL_law_589 : decode cL_law 589 = .ok (.invokevirtual 93, 3) := by decide +kernel
theorem dL_law_592 : decode cL_law 592 = .ok (.if_icmp .eq 111, 3) := by decide +kernel
theorem dL_law_595 : decode cL_law 595 = .ok (.iconst 0, 1) := by decide +kernel
theorem dL_law_596 : decode cL_law 596 = .ok (.ireturn, 1) := by decide +kernel
theorem dL_law_597 : decode cL_law 597 = .ok (.aload_n 1, 1) := by decide +kernel
theorem dL_law_598 : decode cL_law 598 = .ok (.aload_n 0, 1) := by decide +kernel
theorem dL_law_599 : decode cL_law 599 = .ok (.iload_n 3, 1) := by decide +kernel
theorem dL_law_600 : decode cL_law 600 = .ok (.iconst 1, 1) := by decide +kernel
theorem dL_law_601 : decode cL_law 601 = .ok (.iadd, 1) := by decide +kernel
theorem dL_law_602 : decode cL_law 602 = .ok (.iaload, 1) := by decide +kernel
theorem dL_law_603 : decode cL_law 603 = .ok (.aload_n 0, 1) := by decide +kernel
theorem dL_law_604 : decode cL_law 604 = .ok (.iload_n 3, 1) := by decide +kernel
theorem dL_law_605 : decode cL_law 605 = .ok (.iconst 2, 1) := by decide +kernel
theorem dL_law_606 : decode cL_law 606 = .ok (.iadd, 1) := by decide +kernel
theorem dL_law_607 : decode cL_law 607 = .ok (.iaload, 1) := by decide +kernel
theorem dL_law_608 : decode cL_law 608 = .ok (.aload_n 0, 1) := by decide +kernel
theorem dL_law_609 : decode cL_law 609 = .ok (.iload_n 3, 1) := by decide +kernel
theorem dL_law_610 : decode cL_law 610 = .ok (.iconst 3, 1) := by decide +kernel
theorem dL_law_611 : decode cL_law 611 = .ok (.iadd, 1) := by decide +kernel
theorem dL_law_612 : decode cL_law 612 = .ok (.iaload, 1) := by decide +kernel
theorem dL_law_613 : decode cL_law 613 = .ok (.invokevirtual 94, 3) := by decide +kernel
theorem dL_law_616 : decode cL_law 616 = .ok (.aload_n 2, 1) := by decide +kernel
theorem dL_law_617 : decode cL_law 617 = .ok (.aload_n 0, 1) := by decide +kernel
theorem dL_law_618 : decode cL_law 618 = .ok (.iload_n 3, 1) := by decide +kernel
theorem dL_law_619 : decode cL_law 619 = .ok (.iconst 1, 1) := by decide +kernel
theorem dL_law_620 : decode cL_law 620 = .ok (.iadd, 1) := by decide +kernel
theorem dL_law_621 : decode cL_law 621 = .ok (.iaload, 1) := by decide +kernel
theorem dL_law_622 : decode cL_law 622 = .ok (.aload_n 0, 1) := by decide +kernel
theorem dL_law_623 : decode cL_law 623 = .ok (.iload_n 3, 1) := by decide +kernel
theorem dL_law_624 : decode cL_law 624 = .ok (.iconst 2, 1) := by decide +kernel
theorem dL_law_625 : decode cL_law 625 = .ok (.iadd, 1) := by decide +kernel
theorem dL_law_626 : decode cL_law 626 = .ok (.iaload, 1) := by decide +kernel
theorem dL_law_627 : decode cL_law 627 = .ok (.aload_n 0, 1) := by decide +kernel
theorem dL_law_628 : decode cL_law 628 = .ok (.iload_n 3, 1) := by decide +kernel
theorem dL_law_629 : decode cL_law 629 = .ok (.iconst 3, 1) := by decide +kernel
theorem dL_law_630 : decode cL_law 630 = .ok (.iadd, 1) := by decide +kernel
theorem dL_law_631 : decode cL_law 631 = .ok (.iaload, 1) := by decide +kernel
theorem dL_law_632 : decode cL_law 632 = .ok (.invokevirtual 97, 3) := by decide +kernel
theorem dL_law_635 : decode cL_law 635 = .ok (.if_icmp .eq 68, 3) := by decide +kernel
theorem dL_law_638 : decode cL_law 638 = .ok (.iconst 0, 1) := by decide +kernel
theorem dL_law_639 : decode cL_law 639 = .ok (.ireturn, 1) := by decide +kernel
theorem dL_law_640 : decode cL_law 640 = .ok (.aload_n 1, 1) := by decide +kernel
theorem dL_law_641 : decode cL_law 641 = .ok (.invokevirtual 98, 3) := by decide +kernel
theorem dL_law_644 : decode cL_law 644 = .ok (.aload_n 2, 1) := by decide +kernel
theorem dL_law_645 : decode cL_law 645 = .ok (.invokevirtual 101, 3) := by decide +kernel
theorem dL_law_648 : decode cL_law 648 = .ok (.if_icmp .eq 55, 3) := by decide +kernel
theorem dL_law_651 : decode cL_law 651 = .ok (.iconst 0, 1) := by decide +kernel
theorem dL_law_652 : decode cL_law 652 = .ok (.ireturn, 1) := by decide +kernel
theorem dL_law_653 : decode cL_law 653 = .ok (.aload_n 1, 1) := by decide +kernel
theorem dL_law_654 : decode cL_law 654 = .ok (.invokevirtual 102, 3) := by decide +kernel
theorem dL_law_657 : decode cL_law 657 = .ok (.aload_n 2, 1) := by decide +kernel
theorem dL_law_658 : decode cL_law 658 = .ok (.invokevirtual 105, 3) := by decide +kernel
theorem dL_law_661 : decode cL_law 661 = .ok (.if_icmp .eq 42, 3) := by decide +kernel
theorem dL_law_664 : decode cL_law 664 = .ok (.iconst 0, 1) := by decide +kernel
theorem dL_law_665 : decode cL_law 665 = .ok (.ireturn, 1) := by decide +kernel
theorem dL_law_666 : decode cL_law 666 = .ok (.aload_n 1, 1) := by decide +kernel
theorem dL_law_667 : decode cL_law 667 = .ok (.aload_n 0, 1) := by decide +kernel
theorem dL_law_668 : decode cL_law 668 = .ok (.iload_n 3, 1) := by decide +kernel
theorem dL_law_669 : decode cL_law 669 = .ok (.iconst 1, 1) := by decide +kernel
theorem dL_law_670 : decode cL_law 670 = .ok (.iadd, 1) := by decide +kernel
theorem dL_law_671 : decode cL_law 671 = .ok (.iaload, 1) := by decide +kernel
theorem dL_law_672 : decode cL_law 672 = .ok (.invokevirtual 106, 3) := by decide +kernel
theorem dL_law_675 : decode cL_law 675 = .ok (.aload_n 2, 1) := by decide +kernel
theorem dL_law_676 : decode cL_law 676 = .ok (.aload_n 0, 1) := by decide +kernel
theorem dL_law_677 : decode cL_law 677 = .ok (.iload_n 3, 1) := by decide +kernel
theorem dL_law_678 : decode cL_law 678 = .ok (.iconst 1, 1) := by decide +kernel
theorem dL_law_679 : decode cL_law 679 = .ok (.iadd, 1) := by decide +kernel
theorem dL_law_680 : decode cL_law 680 = .ok (.iaload, 1) := by decide +kernel
theorem dL_law_681 : decode cL_law 681 = .ok (.invokevirtual 109, 3) := by decide +kernel
theorem dL_law_684 : decode cL_law 684 = .ok (.if_icmp .eq 19, 3) := by decide +kernel
theorem dL_law_687 : decode cL_law 687 = .ok (.iconst 0, 1) := by decide +kernel
theorem dL_law_688 : decode cL_law 688 = .ok (.ireturn, 1) := by decide +kernel
theorem dL_law_689 : decode cL_law 689 = .ok (.aload_n 1, 1) := by decide +kernel
theorem dL_law_690 : decode cL_law 690 = .ok (.invokevirtual 110, 3) := by decide +kernel
theorem dL_law_693 : decode cL_law 693 = .ok (.aload_n 2, 1) := by decide +kernel
theorem dL_law_694 : decode cL_law 694 = .ok (.invokevirtual 114, 3) := by decide +kernel
theorem dL_law_697 : decode cL_law 697 = .ok (.lcmp, 1) := by decide +kernel
theorem dL_law_698 : decode cL_law 698 = .ok (.ifCond .eq 5, 3) := by decide +kernel
theorem dL_law_701 : decode cL_law 701 = .ok (.iconst 0, 1) := by decide +kernel
theorem dL_law_702 : decode cL_law 702 = .ok (.ireturn, 1) := by decide +kernel
theorem dL_law_703 : decode cL_law 703 = .ok (.iinc 3 4, 3) := by decide +kernel
theorem dL_law_706 : decode cL_law 706 = .ok (.goto (-688), 3) := by decide +kernel
theorem dL_law_709 : decode cL_law 709 = .ok (.iconst 1, 1) := by decide +kernel
theorem dL_law_710 : decode cL_law 710 = .ok (.ireturn, 1) := by decide +kernel
end
section
def z_fw (own : String) (idx ci k : Nat) : Prop := ∃ (C : String) (T : u_T) (N : Nat), vwCl[ci]? = some (C, T, N) ∧ k < N ∧ Cond.fieldLink own idx (T k).1 (T k).2.1 (T k).2.2.1 ∈ z_tb ∧ ∀ w ∈ u_ws C T N, w ∈ z_tb
def z_fp (own : String) (idx ci k : Nat) (ty : FieldType) : Prop := ∃ (C : String) (T : u_T) (N : Nat) (ty0 : Nat → FieldType), vwCl[ci]? = some (C, T, N) ∧ k < N ∧ Cond.fieldLink own idx (T k).1 (T k).2.1 (T k).2.2.1 ∈ z_tb ∧ (∀ w ∈ u_ws C T N, w ∈ z_tb) ∧ (∀ k, k < N → parseFieldDescriptor (T k).2.2.1 = some (ty0 k)) ∧ (∀ a, a < N → ∀ b, b < N → a ≠ b → (T a).2.1 ≠ (T b).2.1) ∧ (T k).2.2.2 = false ∧ parseFieldDescriptor (T k).2.2.1 = some ty
def z_yv (y : MethodName) (cc : ByteArray) (nL : Nat) (ret : Option FieldType) (n : Nat) : Prop := Cond.instanceMethod y ∈ z_tb ∧ Cond.selects y.cls y y ∈ z_tb ∧ Cond.initialized y.cls ∈ z_tb ∧ Cond.code y cc nL ret ∈ z_tb ∧ y.cls ≠ "java/lang/invoke/MethodHandle" ∧ y.cls ≠ "java/lang/invoke/VarHandle" ∧ (parseMethodDescriptor y.desc).map (fun d => d.parameters.length) = some n
def z_ys (y : MethodName) (cc : ByteArray) (nL : Nat) (ret : Option FieldType) (n : Nat) : Prop := Cond.static y ∈ z_tb ∧ Cond.initialized y.cls ∈ z_tb ∧ Cond.code y cc nL ret ∈ z_tb ∧ y.cls ≠ "java/lang/invoke/MethodHandle" ∧ y.cls ≠ "java/lang/invoke/VarHandle" ∧ (parseMethodDescriptor y.desc).map (fun d => d.parameters.length) = some n
theorem z_X0 : ∀ w ∈ wsX00, w ∈ z_tb := fun w h => by
  have hp : wsX00 = [180, 182, 184].filterMap (fun i => lw_tbl[i]?) := by decide +kernel
  have hg : wsX00.all goodWord = true := by decide +kernel
  have h1 := List.all_eq_true.mp hg w h
  rw [hp] at h
  obtain ⟨i, -, hi⟩ := List.mem_filterMap.mp h
  exact List.mem_filter.mpr ⟨List.mem_of_getElem? hi, h1⟩
theorem z_X1 : ∀ w ∈ wsX10, w ∈ z_tb := fun w h => by
  have hp : wsX10 = [206].filterMap (fun i => lw_tbl[i]?) := by decide +kernel
  have hg : wsX10.all goodWord = true := by decide +kernel
  have h1 := List.all_eq_true.mp hg w h
  rw [hp] at h
  obtain ⟨i, -, hi⟩ := List.mem_filterMap.mp h
  exact List.mem_filter.mpr ⟨List.mem_of_getElem? hi, h1⟩
theorem z_X2 : ∀ w ∈ wsX20, w ∈ z_tb := fun w h => by
  have hp : wsX20 = [195].filterMap (fun i => lw_tbl[i]?) := by decide +kernel
  have hg : wsX20.all goodWord = true := by decide +kernel
  have h1 := List.all_eq_true.mp hg w h
  rw [hp] at h
  obtain ⟨i, -, hi⟩ := List.mem_filterMap.mp h
  exact List.mem_filter.mpr ⟨List.mem_of_getElem? hi, h1⟩
theorem z_X4 : ∀ w ∈ wsX40, w ∈ z_tb := fun w h => by
  have hp : wsX40 = [88, 90].filterMap (fun i => lw_tbl[i]?) := by decide +kernel
  have hg : wsX40.all goodWord = true := by decide +kernel
  have h1 := List.all_eq_true.mp hg w h
  rw [hp] at h
  obtain ⟨i, -, hi⟩ := List.mem_filterMap.mp h
  exact List.mem_filter.mpr ⟨List.mem_of_getElem? hi, h1⟩
theorem z_X5 : ∀ w ∈ wsX50, w ∈ z_tb := fun w h => by
  have hp : wsX50 = [164, 166].filterMap (fun i => lw_tbl[i]?) := by decide +kernel
  have hg : wsX50.all goodWord = true := by decide +kernel
  have h1 := List.all_eq_true.mp hg w h
  rw [hp] at h
  obtain ⟨i, -, hi⟩ := List.mem_filterMap.mp h
  exact List.mem_filter.mpr ⟨List.mem_of_getElem? hi, h1⟩
theorem z_X6 : ∀ w ∈ wsX60, w ∈ z_tb := fun w h => by
  have hp : wsX60 = [118, 120, 122, 124, 126, 128, 130].filterMap (fun i => lw_tbl[i]?) := by decide +kernel
  have hg : wsX60.all goodWord = true := by decide +kernel
  have h1 := List.all_eq_true.mp hg w h
  rw [hp] at h
  obtain ⟨i, -, hi⟩ := List.mem_filterMap.mp h
  exact List.mem_filter.mpr ⟨List.mem_of_getElem? hi, h1⟩
theorem z_X7 : ∀ w ∈ wsX70, w ∈ z_tb := fun w h => by
  have hp : wsX70 = [144, 146, 148, 150].filterMap (fun i => lw_tbl[i]?) := by decide +kernel
  have hg : wsX70.all goodWord = true := by decide +kernel
  have h1 := List.all_eq_true.mp hg w h
  rw [hp] at h
  obtain ⟨i, -, hi⟩ := List.mem_filterMap.mp h
  exact List.mem_filter.mpr ⟨List.mem_of_getElem? hi, h1⟩
theorem z_X8 : ∀ w ∈ wsX80, w ∈ z_tb := fun w h => by
  have hp : wsX80 = [221, 223, 225, 227, 229, 231, 233, 235, 237, 239, 241, 243].filterMap (fun i => lw_tbl[i]?) := by decide +kernel
  have hg : wsX80.all goodWord = true := by decide +kernel
  have h1 := List.all_eq_true.mp hg w h
  rw [hp] at h
  obtain ⟨i, -, hi⟩ := List.mem_filterMap.mp h
  exact List.mem_filter.mpr ⟨List.mem_of_getElem? hi, h1⟩
theorem z_X9 : ∀ w ∈ wsX90, w ∈ z_tb := fun w h => by
  have hp : wsX90 = [712, 714, 716, 718, 720, 722, 724, 726, 728, 730, 732, 734, 736, 738, 740, 742, 744, 746, 748, 750, 752, 754, 756, 758, 760, 762, 764, 766, 768, 770, 772, 774].filterMap (fun i => lw_tbl[i]?) := by decide +kernel
  have hg : wsX90.all goodWord = true := by decide +kernel
  have h1 := List.all_eq_true.mp hg w h
  rw [hp] at h
  obtain ⟨i, -, hi⟩ := List.mem_filterMap.mp h
  exact List.mem_filter.mpr ⟨List.mem_of_getElem? hi, h1⟩
theorem zv_X0_find : z_yv yX0_find cX0_find 6 none 3 := ⟨z_in 573 (by decide +kernel) (by decide +kernel), z_in 574 (by decide +kernel) (by decide +kernel), z_in 59 (by decide +kernel) (by decide +kernel), z_in 575 (by decide +kernel) (by decide +kernel), by decide +kernel, by decide +kernel, by decide +kernel⟩
theorem zv_X0_weigh : z_yv yX0_weigh cX0_weigh 4 none 2 := ⟨z_in 579 (by decide +kernel) (by decide +kernel), z_in 6 (by decide +kernel) (by decide +kernel), z_in 59 (by decide +kernel) (by decide +kernel), z_in 580 (by decide +kernel) (by decide +kernel), by decide +kernel, by decide +kernel, by decide +kernel⟩
theorem zv_X0_weightOf : z_yv yX0_weightOf cX0_weightOf 3 (some .int) 1 := ⟨z_in 588 (by decide +kernel) (by decide +kernel), z_in 7 (by decide +kernel) (by decide +kernel), z_in 59 (by decide +kernel) (by decide +kernel), z_in 589 (by decide +kernel) (by decide +kernel), by decide +kernel, by decide +kernel, by decide +kernel⟩
theorem zv_X0_reduce : z_yv yX0_reduce cX0_reduce 2 none 0 := ⟨z_in 592 (by decide +kernel) (by decide +kernel), z_in 8 (by decide +kernel) (by decide +kernel), z_in 59 (by decide +kernel) (by decide +kernel), z_in 593 (by decide +kernel) (by decide +kernel), by decide +kernel, by decide +kernel, by decide +kernel⟩
theorem zs_X0_power : z_ys yX0_power cX0_power 4 (some .int) 2 := ⟨z_in 582 (by decide +kernel) (by decide +kernel), z_in 59 (by decide +kernel) (by decide +kernel), z_in 583 (by decide +kernel) (by decide +kernel), by decide +kernel, by decide +kernel, by decide +kernel⟩
theorem zs_X0_commonDivisor : z_ys yX0_commonDivisor cX0_commonDivisor 6 (some .int) 2 := ⟨z_in 595 (by decide +kernel) (by decide +kernel), z_in 59 (by decide +kernel) (by decide +kernel), z_in 596 (by decide +kernel) (by decide +kernel), by decide +kernel, by decide +kernel, by decide +kernel⟩
theorem zv_X1_next : z_yv yX1_next cX1_next 2 (some .int) 1 := ⟨z_in 618 (by decide +kernel) (by decide +kernel), z_in 619 (by decide +kernel) (by decide +kernel), z_in 61 (by decide +kernel) (by decide +kernel), z_in 620 (by decide +kernel) (by decide +kernel), by decide +kernel, by decide +kernel, by decide +kernel⟩
theorem zv_X2_find : z_yv yX2_find cX2_find 3 none 1 := ⟨z_in 380 (by decide +kernel) (by decide +kernel), z_in 381 (by decide +kernel) (by decide +kernel), z_in 60 (by decide +kernel) (by decide +kernel), z_in 382 (by decide +kernel) (by decide +kernel), by decide +kernel, by decide +kernel, by decide +kernel⟩
theorem zv_X2_noteFor : z_yv yX2_noteFor cX2_noteFor 4 none 2 := ⟨z_in 414 (by decide +kernel) (by decide +kernel), z_in 0 (by decide +kernel) (by decide +kernel), z_in 60 (by decide +kernel) (by decide +kernel), z_in 415 (by decide +kernel) (by decide +kernel), by decide +kernel, by decide +kernel, by decide +kernel⟩
theorem zs_X2_hintsToRise : z_ys yX2_hintsToRise cX2_hintsToRise 8 (some .int) 2 := ⟨z_in 384 (by decide +kernel) (by decide +kernel), z_in 60 (by decide +kernel) (by decide +kernel), z_in 385 (by decide +kernel) (by decide +kernel), by decide +kernel, by decide +kernel, by decide +kernel⟩
theorem zs_X3_isKind : z_ys yX3_isKind cX3_isKind 1 (some .boolean) 1 := ⟨z_in 455 (by decide +kernel) (by decide +kernel), z_in 63 (by decide +kernel) (by decide +kernel), z_in 456 (by decide +kernel) (by decide +kernel), by decide +kernel, by decide +kernel, by decide +kernel⟩
theorem zs_X3_ofLetter : z_ys yX3_ofLetter cX3_ofLetter 2 (some .int) 1 := ⟨z_in 280 (by decide +kernel) (by decide +kernel), z_in 63 (by decide +kernel) (by decide +kernel), z_in 281 (by decide +kernel) (by decide +kernel), by decide +kernel, by decide +kernel, by decide +kernel⟩
theorem zs_X3_isSuch : z_ys yX3_isSuch cX3_isSuch 2 (some .boolean) 2 := ⟨z_in 458 (by decide +kernel) (by decide +kernel), z_in 63 (by decide +kernel) (by decide +kernel), z_in 459 (by decide +kernel) (by decide +kernel), by decide +kernel, by decide +kernel, by decide +kernel⟩
theorem zs_X3_needs : z_ys yX3_needs cX3_needs 2 (some .int) 2 := ⟨z_in 406 (by decide +kernel) (by decide +kernel), z_in 63 (by decide +kernel) (by decide +kernel), z_in 407 (by decide +kernel) (by decide +kernel), by decide +kernel, by decide +kernel, by decide +kernel⟩
theorem zs_X3_countsAs : z_ys yX3_countsAs cX3_countsAs 1 (some .int) 1 := ⟨z_in 398 (by decide +kernel) (by decide +kernel), z_in 63 (by decide +kernel) (by decide +kernel), z_in 399 (by decide +kernel) (by decide +kernel), by decide +kernel, by decide +kernel, by decide +kernel⟩
theorem zs_X3_hintsTill : z_ys yX3_hintsTill cX3_hintsTill 4 (some .int) 3 := ⟨z_in 403 (by decide +kernel) (by decide +kernel), z_in 63 (by decide +kernel) (by decide +kernel), z_in 404 (by decide +kernel) (by decide +kernel), by decide +kernel, by decide +kernel, by decide +kernel⟩
theorem zv_X4_append : z_yv yX4_append cX4_append 2 (some .int) 1 := ⟨z_in 251 (by decide +kernel) (by decide +kernel), z_in 252 (by decide +kernel) (by decide +kernel), z_in 55 (by decide +kernel) (by decide +kernel), z_in 253 (by decide +kernel) (by decide +kernel), by decide +kernel, by decide +kernel, by decide +kernel⟩
theorem zv_X4_clear : z_yv yX4_clear cX4_clear 2 (some .int) 0 := ⟨z_in 259 (by decide +kernel) (by decide +kernel), z_in 260 (by decide +kernel) (by decide +kernel), z_in 55 (by decide +kernel) (by decide +kernel), z_in 261 (by decide +kernel) (by decide +kernel), by decide +kernel, by decide +kernel, by decide +kernel⟩
theorem zv_X4_at : z_yv yX4_at cX4_at 2 (some .int) 1 := ⟨z_in 359 (by decide +kernel) (by decide +kernel), z_in 360 (by decide +kernel) (by decide +kernel), z_in 55 (by decide +kernel) (by decide +kernel), z_in 361 (by decide +kernel) (by decide +kernel), by decide +kernel, by decide +kernel, by decide +kernel⟩
theorem zv_X4_digitAt : z_yv yX4_digitAt cX4_digitAt 2 (some .int) 1 := ⟨z_in 355 (by decide +kernel) (by decide +kernel), z_in 356 (by decide +kernel) (by decide +kernel), z_in 55 (by decide +kernel) (by decide +kernel), z_in 357 (by decide +kernel) (by decide +kernel), by decide +kernel, by decide +kernel, by decide +kernel⟩
theorem zv_X4_firstFault : z_yv yX4_firstFault cX4_firstFault 2 (some .int) 0 := ⟨z_in 267 (by decide +kernel) (by decide +kernel), z_in 268 (by decide +kernel) (by decide +kernel), z_in 55 (by decide +kernel) (by decide +kernel), z_in 269 (by decide +kernel) (by decide +kernel), by decide +kernel, by decide +kernel, by decide +kernel⟩
theorem zv_X4_isParty : z_yv yX4_isParty cX4_isParty 2 (some .boolean) 0 := ⟨z_in 337 (by decide +kernel) (by decide +kernel), z_in 338 (by decide +kernel) (by decide +kernel), z_in 55 (by decide +kernel) (by decide +kernel), z_in 339 (by decide +kernel) (by decide +kernel), by decide +kernel, by decide +kernel, by decide +kernel⟩
theorem zv_X4_guests : z_yv yX4_guests cX4_guests 1 (some .int) 0 := ⟨z_in 341 (by decide +kernel) (by decide +kernel), z_in 342 (by decide +kernel) (by decide +kernel), z_in 55 (by decide +kernel) (by decide +kernel), z_in 343 (by decide +kernel) (by decide +kernel), by decide +kernel, by decide +kernel, by decide +kernel⟩
theorem zs_X4_placeOf : z_ys yX4_placeOf cX4_placeOf 1 (some .int) 1 := ⟨z_in 363 (by decide +kernel) (by decide +kernel), z_in 55 (by decide +kernel) (by decide +kernel), z_in 364 (by decide +kernel) (by decide +kernel), by decide +kernel, by decide +kernel, by decide +kernel⟩
theorem zs_X4_fits : z_ys yX4_fits cX4_fits 2 (some .boolean) 2 := ⟨z_in 271 (by decide +kernel) (by decide +kernel), z_in 55 (by decide +kernel) (by decide +kernel), z_in 272 (by decide +kernel) (by decide +kernel), by decide +kernel, by decide +kernel, by decide +kernel⟩
theorem zs_X4_fitsGuest : z_ys yX4_fitsGuest cX4_fitsGuest 3 (some .boolean) 3 := ⟨z_in 277 (by decide +kernel) (by decide +kernel), z_in 55 (by decide +kernel) (by decide +kernel), z_in 278 (by decide +kernel) (by decide +kernel), by decide +kernel, by decide +kernel, by decide +kernel⟩
theorem zs_X4_isDigitBelow : z_ys yX4_isDigitBelow cX4_isDigitBelow 2 (some .boolean) 2 := ⟨z_in 274 (by decide +kernel) (by decide +kernel), z_in 55 (by decide +kernel) (by decide +kernel), z_in 275 (by decide +kernel) (by decide +kernel), by decide +kernel, by decide +kernel, by decide +kernel⟩
theorem zv_X5_find : z_yv yX5_find cX5_find 4 none 1 := ⟨z_in 536 (by decide +kernel) (by decide +kernel), z_in 537 (by decide +kernel) (by decide +kernel), z_in 58 (by decide +kernel) (by decide +kernel), z_in 538 (by decide +kernel) (by decide +kernel), by decide +kernel, by decide +kernel, by decide +kernel⟩
theorem zv_X5_isChoice : z_yv yX5_isChoice cX5_isChoice 2 (some .boolean) 1 := ⟨z_in 540 (by decide +kernel) (by decide +kernel), z_in 541 (by decide +kernel) (by decide +kernel), z_in 58 (by decide +kernel) (by decide +kernel), z_in 542 (by decide +kernel) (by decide +kernel), by decide +kernel, by decide +kernel, by decide +kernel⟩
theorem zv_X5_fewest : z_yv yX5_fewest cX5_fewest 3 (some .int) 0 := ⟨z_in 545 (by decide +kernel) (by decide +kernel), z_in 546 (by decide +kernel) (by decide +kernel), z_in 58 (by decide +kernel) (by decide +kernel), z_in 547 (by decide +kernel) (by decide +kernel), by decide +kernel, by decide +kernel, by decide +kernel⟩
theorem zv_X6_readFrom : z_yv yX6_readFrom cX6_readFrom 4 none 1 := ⟨z_in 346 (by decide +kernel) (by decide +kernel), z_in 347 (by decide +kernel) (by decide +kernel), z_in 56 (by decide +kernel) (by decide +kernel), z_in 348 (by decide +kernel) (by decide +kernel), by decide +kernel, by decide +kernel, by decide +kernel⟩
theorem zv_X6_copyFrom : z_yv yX6_copyFrom cX6_copyFrom 2 none 1 := ⟨z_in 562 (by decide +kernel) (by decide +kernel), z_in 563 (by decide +kernel) (by decide +kernel), z_in 56 (by decide +kernel) (by decide +kernel), z_in 564 (by decide +kernel) (by decide +kernel), by decide +kernel, by decide +kernel, by decide +kernel⟩
theorem zv_X6_hasGuest : z_yv yX6_hasGuest cX6_hasGuest 2 (some .boolean) 1 := ⟨z_in 376 (by decide +kernel) (by decide +kernel), z_in 377 (by decide +kernel) (by decide +kernel), z_in 56 (by decide +kernel) (by decide +kernel), z_in 378 (by decide +kernel) (by decide +kernel), by decide +kernel, by decide +kernel, by decide +kernel⟩
theorem zv_X6_isHere : z_yv yX6_isHere cX6_isHere 2 (some .boolean) 1 := ⟨z_in 421 (by decide +kernel) (by decide +kernel), z_in 422 (by decide +kernel) (by decide +kernel), z_in 56 (by decide +kernel) (by decide +kernel), z_in 423 (by decide +kernel) (by decide +kernel), by decide +kernel, by decide +kernel, by decide +kernel⟩
theorem zv_X6_everyone : z_yv yX6_everyone cX6_everyone 1 (some .int) 0 := ⟨z_in 351 (by decide +kernel) (by decide +kernel), z_in 352 (by decide +kernel) (by decide +kernel), z_in 56 (by decide +kernel) (by decide +kernel), z_in 353 (by decide +kernel) (by decide +kernel), by decide +kernel, by decide +kernel, by decide +kernel⟩
theorem zv_X6_gone : z_yv yX6_gone cX6_gone 1 (some .int) 0 := ⟨z_in 387 (by decide +kernel) (by decide +kernel), z_in 388 (by decide +kernel) (by decide +kernel), z_in 56 (by decide +kernel) (by decide +kernel), z_in 389 (by decide +kernel) (by decide +kernel), by decide +kernel, by decide +kernel, by decide +kernel⟩
theorem zv_X6_needsOf : z_yv yX6_needsOf cX6_needsOf 2 (some .int) 1 := ⟨z_in 425 (by decide +kernel) (by decide +kernel), z_in 426 (by decide +kernel) (by decide +kernel), z_in 56 (by decide +kernel) (by decide +kernel), z_in 427 (by decide +kernel) (by decide +kernel), by decide +kernel, by decide +kernel, by decide +kernel⟩
theorem zv_X6_countTogether : z_yv yX6_countTogether cX6_countTogether 4 (some .int) 1 := ⟨z_in 391 (by decide +kernel) (by decide +kernel), z_in 392 (by decide +kernel) (by decide +kernel), z_in 56 (by decide +kernel) (by decide +kernel), z_in 393 (by decide +kernel) (by decide +kernel), by decide +kernel, by decide +kernel, by decide +kernel⟩
theorem zv_X6_shyTogether : z_yv yX6_shyTogether cX6_shyTogether 4 (some .int) 1 := ⟨z_in 643 (by decide +kernel) (by decide +kernel), z_in 644 (by decide +kernel) (by decide +kernel), z_in 56 (by decide +kernel) (by decide +kernel), z_in 645 (by decide +kernel) (by decide +kernel), by decide +kernel, by decide +kernel, by decide +kernel⟩
theorem zv_X6_hasFriendAmong : z_yv yX6_hasFriendAmong cX6_hasFriendAmong 3 (some .boolean) 2 := ⟨z_in 409 (by decide +kernel) (by decide +kernel), z_in 410 (by decide +kernel) (by decide +kernel), z_in 56 (by decide +kernel) (by decide +kernel), z_in 411 (by decide +kernel) (by decide +kernel), by decide +kernel, by decide +kernel, by decide +kernel⟩
theorem zv_X6_whoCanGo : z_yv yX6_whoCanGo cX6_whoCanGo 6 (some .int) 1 := ⟨z_in 466 (by decide +kernel) (by decide +kernel), z_in 467 (by decide +kernel) (by decide +kernel), z_in 56 (by decide +kernel) (by decide +kernel), z_in 468 (by decide +kernel) (by decide +kernel), by decide +kernel, by decide +kernel, by decide +kernel⟩
theorem zv_X6_mostWhoRise : z_yv yX6_mostWhoRise cX6_mostWhoRise 3 (some .int) 0 := ⟨z_in 527 (by decide +kernel) (by decide +kernel), z_in 528 (by decide +kernel) (by decide +kernel), z_in 56 (by decide +kernel) (by decide +kernel), z_in 529 (by decide +kernel) (by decide +kernel), by decide +kernel, by decide +kernel, by decide +kernel⟩
theorem zv_X6_whoCanGoAlone : z_yv yX6_whoCanGoAlone cX6_whoCanGoAlone 5 (some .int) 0 := ⟨z_in 502 (by decide +kernel) (by decide +kernel), z_in 503 (by decide +kernel) (by decide +kernel), z_in 56 (by decide +kernel) (by decide +kernel), z_in 504 (by decide +kernel) (by decide +kernel), by decide +kernel, by decide +kernel, by decide +kernel⟩
theorem zv_X6_letHourPass : z_yv yX6_letHourPass cX6_letHourPass 2 (some .int) 0 := ⟨z_in 483 (by decide +kernel) (by decide +kernel), z_in 484 (by decide +kernel) (by decide +kernel), z_in 56 (by decide +kernel) (by decide +kernel), z_in 485 (by decide +kernel) (by decide +kernel), by decide +kernel, by decide +kernel, by decide +kernel⟩
theorem zv_X6_makeLessShy : z_yv yX6_makeLessShy cX6_makeLessShy 2 none 1 := ⟨z_in 494 (by decide +kernel) (by decide +kernel), z_in 495 (by decide +kernel) (by decide +kernel), z_in 56 (by decide +kernel) (by decide +kernel), z_in 496 (by decide +kernel) (by decide +kernel), by decide +kernel, by decide +kernel, by decide +kernel⟩
theorem zv_X6_makeAllLessShy : z_yv yX6_makeAllLessShy cX6_makeAllLessShy 2 none 0 := ⟨z_in 490 (by decide +kernel) (by decide +kernel), z_in 3 (by decide +kernel) (by decide +kernel), z_in 56 (by decide +kernel) (by decide +kernel), z_in 491 (by decide +kernel) (by decide +kernel), by decide +kernel, by decide +kernel, by decide +kernel⟩
theorem zv_X6_goOneByOne : z_yv yX6_goOneByOne cX6_goOneByOne 4 none 0 := ⟨z_in 499 (by decide +kernel) (by decide +kernel), z_in 4 (by decide +kernel) (by decide +kernel), z_in 56 (by decide +kernel) (by decide +kernel), z_in 500 (by decide +kernel) (by decide +kernel), by decide +kernel, by decide +kernel, by decide +kernel⟩
theorem zv_X7_add : z_yv yX7_add cX7_add 4 (some .int) 3 := ⟨z_in 602 (by decide +kernel) (by decide +kernel), z_in 603 (by decide +kernel) (by decide +kernel), z_in 57 (by decide +kernel) (by decide +kernel), z_in 604 (by decide +kernel) (by decide +kernel), by decide +kernel, by decide +kernel, by decide +kernel⟩
theorem zv_X7_clear : z_yv yX7_clear cX7_clear 2 (some .int) 0 := ⟨z_in 368 (by decide +kernel) (by decide +kernel), z_in 369 (by decide +kernel) (by decide +kernel), z_in 57 (by decide +kernel) (by decide +kernel), z_in 370 (by decide +kernel) (by decide +kernel), by decide +kernel, by decide +kernel, by decide +kernel⟩
theorem zv_X7_copyFrom : z_yv yX7_copyFrom cX7_copyFrom 3 none 1 := ⟨z_in 631 (by decide +kernel) (by decide +kernel), z_in 632 (by decide +kernel) (by decide +kernel), z_in 57 (by decide +kernel) (by decide +kernel), z_in 633 (by decide +kernel) (by decide +kernel), by decide +kernel, by decide +kernel, by decide +kernel⟩
theorem zv_X7_shynessOf : z_yv yX7_shynessOf cX7_shynessOf 6 (some .int) 2 := ⟨z_in 431 (by decide +kernel) (by decide +kernel), z_in 432 (by decide +kernel) (by decide +kernel), z_in 57 (by decide +kernel) (by decide +kernel), z_in 433 (by decide +kernel) (by decide +kernel), by decide +kernel, by decide +kernel, by decide +kernel⟩
theorem zs_X7_whatToAsk : z_ys yX7_whatToAsk cX7_whatToAsk 7 (some .int) 2 := ⟨z_in 439 (by decide +kernel) (by decide +kernel), z_in 57 (by decide +kernel) (by decide +kernel), z_in 440 (by decide +kernel) (by decide +kernel), by decide +kernel, by decide +kernel, by decide +kernel⟩
theorem zs_X7_shynessThatGoes : z_ys yX7_shynessThatGoes cX7_shynessThatGoes 4 (some .int) 2 := ⟨z_in 435 (by decide +kernel) (by decide +kernel), z_in 57 (by decide +kernel) (by decide +kernel), z_in 436 (by decide +kernel) (by decide +kernel), by decide +kernel, by decide +kernel, by decide +kernel⟩
theorem zv_X8_letter : z_yv yX8_letter cX8_letter 2 (some .int) 1 := ⟨z_in 247 (by decide +kernel) (by decide +kernel), z_in 248 (by decide +kernel) (by decide +kernel), z_in 54 (by decide +kernel) (by decide +kernel), z_in 249 (by decide +kernel) (by decide +kernel), by decide +kernel, by decide +kernel, by decide +kernel⟩
theorem zv_X8_blank : z_yv yX8_blank cX8_blank 1 (some .int) 0 := ⟨z_in 255 (by decide +kernel) (by decide +kernel), z_in 256 (by decide +kernel) (by decide +kernel), z_in 54 (by decide +kernel) (by decide +kernel), z_in 257 (by decide +kernel) (by decide +kernel), by decide +kernel, by decide +kernel, by decide +kernel⟩
theorem zv_X8_fault : z_yv yX8_fault cX8_fault 1 (some .int) 0 := ⟨z_in 263 (by decide +kernel) (by decide +kernel), z_in 264 (by decide +kernel) (by decide +kernel), z_in 54 (by decide +kernel) (by decide +kernel), z_in 265 (by decide +kernel) (by decide +kernel), by decide +kernel, by decide +kernel, by decide +kernel⟩
theorem zv_X8_party : z_yv yX8_party cX8_party 1 (some .int) 0 := ⟨z_in 333 (by decide +kernel) (by decide +kernel), z_in 334 (by decide +kernel) (by decide +kernel), z_in 54 (by decide +kernel) (by decide +kernel), z_in 335 (by decide +kernel) (by decide +kernel), by decide +kernel, by decide +kernel, by decide +kernel⟩
theorem zv_X8_guest : z_yv yX8_guest cX8_guest 3 (some .int) 2 := ⟨z_in 372 (by decide +kernel) (by decide +kernel), z_in 373 (by decide +kernel) (by decide +kernel), z_in 54 (by decide +kernel) (by decide +kernel), z_in 374 (by decide +kernel) (by decide +kernel), by decide +kernel, by decide +kernel, by decide +kernel⟩
theorem zv_X8_as : z_yv yX8_as cX8_as 3 (some .int) 2 := ⟨z_in 451 (by decide +kernel) (by decide +kernel), z_in 452 (by decide +kernel) (by decide +kernel), z_in 54 (by decide +kernel) (by decide +kernel), z_in 453 (by decide +kernel) (by decide +kernel), by decide +kernel, by decide +kernel, by decide +kernel⟩
theorem zv_X8_rise : z_yv yX8_rise cX8_rise 2 (some .int) 1 := ⟨z_in 461 (by decide +kernel) (by decide +kernel), z_in 462 (by decide +kernel) (by decide +kernel), z_in 54 (by decide +kernel) (by decide +kernel), z_in 463 (by decide +kernel) (by decide +kernel), by decide +kernel, by decide +kernel, by decide +kernel⟩
theorem zv_X8_hour : z_yv yX8_hour cX8_hour 1 (some .int) 0 := ⟨z_in 475 (by decide +kernel) (by decide +kernel), z_in 476 (by decide +kernel) (by decide +kernel), z_in 54 (by decide +kernel) (by decide +kernel), z_in 477 (by decide +kernel) (by decide +kernel), by decide +kernel, by decide +kernel, by decide +kernel⟩
theorem zv_X8_hint : z_yv yX8_hint cX8_hint 2 (some .int) 1 := ⟨z_in 506 (by decide +kernel) (by decide +kernel), z_in 507 (by decide +kernel) (by decide +kernel), z_in 54 (by decide +kernel) (by decide +kernel), z_in 508 (by decide +kernel) (by decide +kernel), by decide +kernel, by decide +kernel, by decide +kernel⟩
theorem zv_X8_back : z_yv yX8_back cX8_back 2 (some .int) 1 := ⟨z_in 511 (by decide +kernel) (by decide +kernel), z_in 512 (by decide +kernel) (by decide +kernel), z_in 54 (by decide +kernel) (by decide +kernel), z_in 513 (by decide +kernel) (by decide +kernel), by decide +kernel, by decide +kernel, by decide +kernel⟩
theorem zv_X8_feed : z_yv yX8_feed cX8_feed 2 (some .int) 1 := ⟨z_in 515 (by decide +kernel) (by decide +kernel), z_in 516 (by decide +kernel) (by decide +kernel), z_in 54 (by decide +kernel) (by decide +kernel), z_in 517 (by decide +kernel) (by decide +kernel), by decide +kernel, by decide +kernel, by decide +kernel⟩
theorem zv_X8_turn : z_yv yX8_turn cX8_turn 5 (some .int) 3 := ⟨z_in 519 (by decide +kernel) (by decide +kernel), z_in 520 (by decide +kernel) (by decide +kernel), z_in 54 (by decide +kernel) (by decide +kernel), z_in 521 (by decide +kernel) (by decide +kernel), by decide +kernel, by decide +kernel, by decide +kernel⟩
theorem zv_X8_most : z_yv yX8_most cX8_most 1 (some .int) 0 := ⟨z_in 523 (by decide +kernel) (by decide +kernel), z_in 524 (by decide +kernel) (by decide +kernel), z_in 54 (by decide +kernel) (by decide +kernel), z_in 525 (by decide +kernel) (by decide +kernel), by decide +kernel, by decide +kernel, by decide +kernel⟩
theorem zv_X8_least : z_yv yX8_least cX8_least 1 (some .int) 0 := ⟨z_in 532 (by decide +kernel) (by decide +kernel), z_in 533 (by decide +kernel) (by decide +kernel), z_in 54 (by decide +kernel) (by decide +kernel), z_in 534 (by decide +kernel) (by decide +kernel), by decide +kernel, by decide +kernel, by decide +kernel⟩
theorem zv_X8_hire : z_yv yX8_hire cX8_hire 2 (some .int) 1 := ⟨z_in 550 (by decide +kernel) (by decide +kernel), z_in 551 (by decide +kernel) (by decide +kernel), z_in 54 (by decide +kernel) (by decide +kernel), z_in 552 (by decide +kernel) (by decide +kernel), by decide +kernel, by decide +kernel, by decide +kernel⟩
theorem zv_X8_ends : z_yv yX8_ends cX8_ends 2 (some .int) 0 := ⟨z_in 558 (by decide +kernel) (by decide +kernel), z_in 559 (by decide +kernel) (by decide +kernel), z_in 54 (by decide +kernel) (by decide +kernel), z_in 560 (by decide +kernel) (by decide +kernel), by decide +kernel, by decide +kernel, by decide +kernel⟩
theorem zv_X8_odds : z_yv yX8_odds cX8_odds 4 (some .int) 3 := ⟨z_in 569 (by decide +kernel) (by decide +kernel), z_in 570 (by decide +kernel) (by decide +kernel), z_in 54 (by decide +kernel) (by decide +kernel), z_in 571 (by decide +kernel) (by decide +kernel), by decide +kernel, by decide +kernel, by decide +kernel⟩
theorem zv_X8_see : z_yv yX8_see cX8_see 4 (some .int) 3 := ⟨z_in 598 (by decide +kernel) (by decide +kernel), z_in 599 (by decide +kernel) (by decide +kernel), z_in 54 (by decide +kernel) (by decide +kernel), z_in 600 (by decide +kernel) (by decide +kernel), by decide +kernel, by decide +kernel, by decide +kernel⟩
theorem zv_X8_forget : z_yv yX8_forget cX8_forget 1 (some .int) 0 := ⟨z_in 606 (by decide +kernel) (by decide +kernel), z_in 607 (by decide +kernel) (by decide +kernel), z_in 54 (by decide +kernel) (by decide +kernel), z_in 608 (by decide +kernel) (by decide +kernel), by decide +kernel, by decide +kernel, by decide +kernel⟩
theorem zv_X8_nights : z_yv yX8_nights cX8_nights 4 (some .int) 3 := ⟨z_in 610 (by decide +kernel) (by decide +kernel), z_in 611 (by decide +kernel) (by decide +kernel), z_in 54 (by decide +kernel) (by decide +kernel), z_in 612 (by decide +kernel) (by decide +kernel), by decide +kernel, by decide +kernel, by decide +kernel⟩
theorem zv_X8_image : z_yv yX8_image cX8_image 1 (some .int) 0 := ⟨z_in 627 (by decide +kernel) (by decide +kernel), z_in 628 (by decide +kernel) (by decide +kernel), z_in 54 (by decide +kernel) (by decide +kernel), z_in 629 (by decide +kernel) (by decide +kernel), by decide +kernel, by decide +kernel, by decide +kernel⟩
theorem zv_X8_restore : z_yv yX8_restore cX8_restore 1 (some .int) 0 := ⟨z_in 635 (by decide +kernel) (by decide +kernel), z_in 636 (by decide +kernel) (by decide +kernel), z_in 54 (by decide +kernel) (by decide +kernel), z_in 637 (by decide +kernel) (by decide +kernel), by decide +kernel, by decide +kernel, by decide +kernel⟩
theorem zv_X8_count : z_yv yX8_count cX8_count 2 (some .int) 1 := ⟨z_in 639 (by decide +kernel) (by decide +kernel), z_in 640 (by decide +kernel) (by decide +kernel), z_in 54 (by decide +kernel) (by decide +kernel), z_in 641 (by decide +kernel) (by decide +kernel), by decide +kernel, by decide +kernel, by decide +kernel⟩
theorem zv_X8_digest : z_yv yX8_digest cX8_digest 4 (some .long) 0 := ⟨z_in 649 (by decide +kernel) (by decide +kernel), z_in 650 (by decide +kernel) (by decide +kernel), z_in 54 (by decide +kernel) (by decide +kernel), z_in 651 (by decide +kernel) (by decide +kernel), by decide +kernel, by decide +kernel, by decide +kernel⟩
theorem zv_X8_hasParty : z_yv yX8_hasParty cX8_hasParty 1 (some .boolean) 0 := ⟨z_in 480 (by decide +kernel) (by decide +kernel), z_in 2 (by decide +kernel) (by decide +kernel), z_in 54 (by decide +kernel) (by decide +kernel), z_in 481 (by decide +kernel) (by decide +kernel), by decide +kernel, by decide +kernel, by decide +kernel⟩
theorem zv_X8_tellOfGuest : z_yv yX8_tellOfGuest cX8_tellOfGuest 3 (some .int) 2 := ⟨z_in 418 (by decide +kernel) (by decide +kernel), z_in 1 (by decide +kernel) (by decide +kernel), z_in 54 (by decide +kernel) (by decide +kernel), z_in 419 (by decide +kernel) (by decide +kernel), by decide +kernel, by decide +kernel, by decide +kernel⟩
theorem zv_X8_whoShouldBePale : z_yv yX8_whoShouldBePale cX8_whoShouldBePale 1 (some .int) 0 := ⟨z_in 555 (by decide +kernel) (by decide +kernel), z_in 5 (by decide +kernel) (by decide +kernel), z_in 54 (by decide +kernel) (by decide +kernel), z_in 556 (by decide +kernel) (by decide +kernel), by decide +kernel, by decide +kernel, by decide +kernel⟩
theorem zv_X8_tryNights : z_yv yX8_tryNights cX8_tryNights 5 none 2 := ⟨z_in 615 (by decide +kernel) (by decide +kernel), z_in 9 (by decide +kernel) (by decide +kernel), z_in 54 (by decide +kernel) (by decide +kernel), z_in 616 (by decide +kernel) (by decide +kernel), by decide +kernel, by decide +kernel, by decide +kernel⟩
theorem zv_X8_mixGuests : z_yv yX8_mixGuests cX8_mixGuests 7 (some .long) 1 := ⟨z_in 655 (by decide +kernel) (by decide +kernel), z_in 10 (by decide +kernel) (by decide +kernel), z_in 54 (by decide +kernel) (by decide +kernel), z_in 656 (by decide +kernel) (by decide +kernel), by decide +kernel, by decide +kernel, by decide +kernel⟩
theorem zv_X8_mixWouldBe : z_yv yX8_mixWouldBe cX8_mixWouldBe 5 (some .long) 1 := ⟨z_in 663 (by decide +kernel) (by decide +kernel), z_in 11 (by decide +kernel) (by decide +kernel), z_in 54 (by decide +kernel) (by decide +kernel), z_in 664 (by decide +kernel) (by decide +kernel), by decide +kernel, by decide +kernel, by decide +kernel⟩
theorem zv_X8_mixOdds : z_yv yX8_mixOdds cX8_mixOdds 6 (some .long) 1 := ⟨z_in 670 (by decide +kernel) (by decide +kernel), z_in 12 (by decide +kernel) (by decide +kernel), z_in 54 (by decide +kernel) (by decide +kernel), z_in 671 (by decide +kernel) (by decide +kernel), by decide +kernel, by decide +kernel, by decide +kernel⟩
theorem zs_X8_mix : z_ys yX8_mix cX8_mix 4 (some .long) 2 := ⟨z_in 658 (by decide +kernel) (by decide +kernel), z_in 54 (by decide +kernel) (by decide +kernel), z_in 659 (by decide +kernel) (by decide +kernel), by decide +kernel, by decide +kernel, by decide +kernel⟩
theorem zs_X8_isAmong : z_ys yX8_isAmong cX8_isAmong 2 (some .boolean) 2 := ⟨z_in 395 (by decide +kernel) (by decide +kernel), z_in 54 (by decide +kernel) (by decide +kernel), z_in 396 (by decide +kernel) (by decide +kernel), by decide +kernel, by decide +kernel, by decide +kernel⟩
theorem zs_X9_within : z_ys yX9_within cX9_within 3 (some .boolean) 3 := ⟨z_in 782 (by decide +kernel) (by decide +kernel), z_in 62 (by decide +kernel) (by decide +kernel), z_in 783 (by decide +kernel) (by decide +kernel), by decide +kernel, by decide +kernel, by decide +kernel⟩
theorem zs_X9_isIn : z_ys yX9_isIn cX9_isIn 2 (some .boolean) 2 := ⟨z_in 828 (by decide +kernel) (by decide +kernel), z_in 62 (by decide +kernel) (by decide +kernel), z_in 829 (by decide +kernel) (by decide +kernel), by decide +kernel, by decide +kernel, by decide +kernel⟩
theorem zs_X9_size : z_ys yX9_size cX9_size 3 (some .int) 1 := ⟨z_in 855 (by decide +kernel) (by decide +kernel), z_in 62 (by decide +kernel) (by decide +kernel), z_in 856 (by decide +kernel) (by decide +kernel), by decide +kernel, by decide +kernel, by decide +kernel⟩
theorem zs_X9_divisor : z_ys yX9_divisor cX9_divisor 5 (some .int) 2 := ⟨z_in 990 (by decide +kernel) (by decide +kernel), z_in 62 (by decide +kernel) (by decide +kernel), z_in 991 (by decide +kernel) (by decide +kernel), by decide +kernel, by decide +kernel, by decide +kernel⟩
theorem zv_X9_letter : z_yv yX9_letter cX9_letter 2 (some .int) 1 := ⟨z_in 778 (by decide +kernel) (by decide +kernel), z_in 779 (by decide +kernel) (by decide +kernel), z_in 62 (by decide +kernel) (by decide +kernel), z_in 780 (by decide +kernel) (by decide +kernel), by decide +kernel, by decide +kernel, by decide +kernel⟩
theorem zv_X9_blank : z_yv yX9_blank cX9_blank 2 (some .int) 0 := ⟨z_in 785 (by decide +kernel) (by decide +kernel), z_in 786 (by decide +kernel) (by decide +kernel), z_in 62 (by decide +kernel) (by decide +kernel), z_in 787 (by decide +kernel) (by decide +kernel), by decide +kernel, by decide +kernel, by decide +kernel⟩
theorem zs_X9_kindBy : z_ys yX9_kindBy cX9_kindBy 1 (some .int) 1 := ⟨z_in 809 (by decide +kernel) (by decide +kernel), z_in 62 (by decide +kernel) (by decide +kernel), z_in 810 (by decide +kernel) (by decide +kernel), by decide +kernel, by decide +kernel, by decide +kernel⟩
theorem zv_X9_at : z_yv yX9_at cX9_at 2 (some .int) 1 := ⟨z_in 802 (by decide +kernel) (by decide +kernel), z_in 15 (by decide +kernel) (by decide +kernel), z_in 62 (by decide +kernel) (by decide +kernel), z_in 803 (by decide +kernel) (by decide +kernel), by decide +kernel, by decide +kernel, by decide +kernel⟩
theorem zv_X9_isFigure : z_yv yX9_isFigure cX9_isFigure 3 (some .boolean) 2 := ⟨z_in 798 (by decide +kernel) (by decide +kernel), z_in 14 (by decide +kernel) (by decide +kernel), z_in 62 (by decide +kernel) (by decide +kernel), z_in 799 (by decide +kernel) (by decide +kernel), by decide +kernel, by decide +kernel, by decide +kernel⟩
theorem zv_X9_readGuest : z_yv yX9_readGuest cX9_readGuest 2 (some .int) 1 := ⟨z_in 806 (by decide +kernel) (by decide +kernel), z_in 16 (by decide +kernel) (by decide +kernel), z_in 62 (by decide +kernel) (by decide +kernel), z_in 807 (by decide +kernel) (by decide +kernel), by decide +kernel, by decide +kernel, by decide +kernel⟩
theorem zv_X9_read : z_yv yX9_read cX9_read 3 (some .int) 0 := ⟨z_in 794 (by decide +kernel) (by decide +kernel), z_in 13 (by decide +kernel) (by decide +kernel), z_in 62 (by decide +kernel) (by decide +kernel), z_in 795 (by decide +kernel) (by decide +kernel), by decide +kernel, by decide +kernel, by decide +kernel⟩
theorem zv_X9_fault : z_yv yX9_fault cX9_fault 1 (some .int) 0 := ⟨z_in 789 (by decide +kernel) (by decide +kernel), z_in 790 (by decide +kernel) (by decide +kernel), z_in 62 (by decide +kernel) (by decide +kernel), z_in 791 (by decide +kernel) (by decide +kernel), by decide +kernel, by decide +kernel, by decide +kernel⟩
theorem zv_X9_party : z_yv yX9_party cX9_party 3 (some .int) 0 := ⟨z_in 812 (by decide +kernel) (by decide +kernel), z_in 813 (by decide +kernel) (by decide +kernel), z_in 62 (by decide +kernel) (by decide +kernel), z_in 814 (by decide +kernel) (by decide +kernel), by decide +kernel, by decide +kernel, by decide +kernel⟩
theorem zv_X9_isGuest : z_yv yX9_isGuest cX9_isGuest 2 (some .boolean) 1 := ⟨z_in 821 (by decide +kernel) (by decide +kernel), z_in 17 (by decide +kernel) (by decide +kernel), z_in 62 (by decide +kernel) (by decide +kernel), z_in 822 (by decide +kernel) (by decide +kernel), by decide +kernel, by decide +kernel, by decide +kernel⟩
theorem zv_X9_all : z_yv yX9_all cX9_all 1 (some .int) 0 := ⟨z_in 875 (by decide +kernel) (by decide +kernel), z_in 28 (by decide +kernel) (by decide +kernel), z_in 62 (by decide +kernel) (by decide +kernel), z_in 876 (by decide +kernel) (by decide +kernel), by decide +kernel, by decide +kernel, by decide +kernel⟩
theorem zs_X9_needsBy : z_ys yX9_needsBy cX9_needsBy 2 (some .int) 2 := ⟨z_in 835 (by decide +kernel) (by decide +kernel), z_in 62 (by decide +kernel) (by decide +kernel), z_in 836 (by decide +kernel) (by decide +kernel), by decide +kernel, by decide +kernel, by decide +kernel⟩
theorem zv_X9_needs : z_yv yX9_needs cX9_needs 2 (some .int) 1 := ⟨z_in 832 (by decide +kernel) (by decide +kernel), z_in 19 (by decide +kernel) (by decide +kernel), z_in 62 (by decide +kernel) (by decide +kernel), z_in 833 (by decide +kernel) (by decide +kernel), by decide +kernel, by decide +kernel, by decide +kernel⟩
theorem zv_X9_counts : z_yv yX9_counts cX9_counts 2 (some .int) 1 := ⟨z_in 839 (by decide +kernel) (by decide +kernel), z_in 20 (by decide +kernel) (by decide +kernel), z_in 62 (by decide +kernel) (by decide +kernel), z_in 840 (by decide +kernel) (by decide +kernel), by decide +kernel, by decide +kernel, by decide +kernel⟩
theorem zv_X9_countsOf : z_yv yX9_countsOf cX9_countsOf 4 (some .int) 1 := ⟨z_in 883 (by decide +kernel) (by decide +kernel), z_in 30 (by decide +kernel) (by decide +kernel), z_in 62 (by decide +kernel) (by decide +kernel), z_in 884 (by decide +kernel) (by decide +kernel), by decide +kernel, by decide +kernel, by decide +kernel⟩
theorem zv_X9_gone : z_yv yX9_gone cX9_gone 1 (some .int) 0 := ⟨z_in 871 (by decide +kernel) (by decide +kernel), z_in 27 (by decide +kernel) (by decide +kernel), z_in 62 (by decide +kernel) (by decide +kernel), z_in 872 (by decide +kernel) (by decide +kernel), by decide +kernel, by decide +kernel, by decide +kernel⟩
theorem zv_X9_othersFor : z_yv yX9_othersFor cX9_othersFor 3 (some .int) 2 := ⟨z_in 879 (by decide +kernel) (by decide +kernel), z_in 29 (by decide +kernel) (by decide +kernel), z_in 62 (by decide +kernel) (by decide +kernel), z_in 880 (by decide +kernel) (by decide +kernel), by decide +kernel, by decide +kernel, by decide +kernel⟩
theorem zv_X9_hasFriend : z_yv yX9_hasFriend cX9_hasFriend 3 (some .boolean) 2 := ⟨z_in 867 (by decide +kernel) (by decide +kernel), z_in 26 (by decide +kernel) (by decide +kernel), z_in 62 (by decide +kernel) (by decide +kernel), z_in 868 (by decide +kernel) (by decide +kernel), by decide +kernel, by decide +kernel, by decide +kernel⟩
theorem zv_X9_canGo : z_yv yX9_canGo cX9_canGo 3 (some .boolean) 2 := ⟨z_in 903 (by decide +kernel) (by decide +kernel), z_in 33 (by decide +kernel) (by decide +kernel), z_in 62 (by decide +kernel) (by decide +kernel), z_in 904 (by decide +kernel) (by decide +kernel), by decide +kernel, by decide +kernel, by decide +kernel⟩
theorem zv_X9_canRise : z_yv yX9_canRise cX9_canRise 4 (some .boolean) 1 := ⟨z_in 899 (by decide +kernel) (by decide +kernel), z_in 32 (by decide +kernel) (by decide +kernel), z_in 62 (by decide +kernel) (by decide +kernel), z_in 900 (by decide +kernel) (by decide +kernel), by decide +kernel, by decide +kernel, by decide +kernel⟩
theorem zv_X9_mostOf : z_yv yX9_mostOf cX9_mostOf 4 (some .int) 1 := ⟨z_in 943 (by decide +kernel) (by decide +kernel), z_in 37 (by decide +kernel) (by decide +kernel), z_in 62 (by decide +kernel) (by decide +kernel), z_in 944 (by decide +kernel) (by decide +kernel), by decide +kernel, by decide +kernel, by decide +kernel⟩
theorem zv_X9_withoutStuck : z_yv yX9_withoutStuck cX9_withoutStuck 4 (some .int) 1 := ⟨z_in 947 (by decide +kernel) (by decide +kernel), z_in 38 (by decide +kernel) (by decide +kernel), z_in 62 (by decide +kernel) (by decide +kernel), z_in 948 (by decide +kernel) (by decide +kernel), by decide +kernel, by decide +kernel, by decide +kernel⟩
theorem zv_X9_guestNow : z_yv yX9_guestNow cX9_guestNow 3 (some .int) 2 := ⟨z_in 825 (by decide +kernel) (by decide +kernel), z_in 18 (by decide +kernel) (by decide +kernel), z_in 62 (by decide +kernel) (by decide +kernel), z_in 826 (by decide +kernel) (by decide +kernel), by decide +kernel, by decide +kernel, by decide +kernel⟩
theorem zv_X9_guest : z_yv yX9_guest cX9_guest 3 (some .int) 2 := ⟨z_in 816 (by decide +kernel) (by decide +kernel), z_in 817 (by decide +kernel) (by decide +kernel), z_in 62 (by decide +kernel) (by decide +kernel), z_in 818 (by decide +kernel) (by decide +kernel), by decide +kernel, by decide +kernel, by decide +kernel⟩
theorem zv_X9_as : z_yv yX9_as cX9_as 4 (some .int) 2 := ⟨z_in 890 (by decide +kernel) (by decide +kernel), z_in 891 (by decide +kernel) (by decide +kernel), z_in 62 (by decide +kernel) (by decide +kernel), z_in 892 (by decide +kernel) (by decide +kernel), by decide +kernel, by decide +kernel, by decide +kernel⟩
theorem zv_X9_rise : z_yv yX9_rise cX9_rise 2 (some .int) 1 := ⟨z_in 894 (by decide +kernel) (by decide +kernel), z_in 895 (by decide +kernel) (by decide +kernel), z_in 62 (by decide +kernel) (by decide +kernel), z_in 896 (by decide +kernel) (by decide +kernel), by decide +kernel, by decide +kernel, by decide +kernel⟩
theorem zv_X9_firstAlone : z_yv yX9_firstAlone cX9_firstAlone 2 (some .int) 0 := ⟨z_in 919 (by decide +kernel) (by decide +kernel), z_in 36 (by decide +kernel) (by decide +kernel), z_in 62 (by decide +kernel) (by decide +kernel), z_in 920 (by decide +kernel) (by decide +kernel), by decide +kernel, by decide +kernel, by decide +kernel⟩
theorem zv_X9_shyLess : z_yv yX9_shyLess cX9_shyLess 2 none 1 := ⟨z_in 915 (by decide +kernel) (by decide +kernel), z_in 35 (by decide +kernel) (by decide +kernel), z_in 62 (by decide +kernel) (by decide +kernel), z_in 916 (by decide +kernel) (by decide +kernel), by decide +kernel, by decide +kernel, by decide +kernel⟩
theorem zv_X9_goHour : z_yv yX9_goHour cX9_goHour 4 (some .int) 0 := ⟨z_in 911 (by decide +kernel) (by decide +kernel), z_in 34 (by decide +kernel) (by decide +kernel), z_in 62 (by decide +kernel) (by decide +kernel), z_in 912 (by decide +kernel) (by decide +kernel), by decide +kernel, by decide +kernel, by decide +kernel⟩
theorem zv_X9_hour : z_yv yX9_hour cX9_hour 1 (some .int) 0 := ⟨z_in 906 (by decide +kernel) (by decide +kernel), z_in 907 (by decide +kernel) (by decide +kernel), z_in 62 (by decide +kernel) (by decide +kernel), z_in 908 (by decide +kernel) (by decide +kernel), by decide +kernel, by decide +kernel, by decide +kernel⟩
theorem zv_X9_hint : z_yv yX9_hint cX9_hint 2 (some .int) 1 := ⟨z_in 922 (by decide +kernel) (by decide +kernel), z_in 923 (by decide +kernel) (by decide +kernel), z_in 62 (by decide +kernel) (by decide +kernel), z_in 924 (by decide +kernel) (by decide +kernel), by decide +kernel, by decide +kernel, by decide +kernel⟩
theorem zv_X9_back : z_yv yX9_back cX9_back 2 (some .int) 1 := ⟨z_in 926 (by decide +kernel) (by decide +kernel), z_in 927 (by decide +kernel) (by decide +kernel), z_in 62 (by decide +kernel) (by decide +kernel), z_in 928 (by decide +kernel) (by decide +kernel), by decide +kernel, by decide +kernel, by decide +kernel⟩
theorem zv_X9_feed : z_yv yX9_feed cX9_feed 2 (some .int) 1 := ⟨z_in 930 (by decide +kernel) (by decide +kernel), z_in 931 (by decide +kernel) (by decide +kernel), z_in 62 (by decide +kernel) (by decide +kernel), z_in 932 (by decide +kernel) (by decide +kernel), by decide +kernel, by decide +kernel, by decide +kernel⟩
theorem zv_X9_turn : z_yv yX9_turn cX9_turn 5 (some .int) 3 := ⟨z_in 934 (by decide +kernel) (by decide +kernel), z_in 935 (by decide +kernel) (by decide +kernel), z_in 62 (by decide +kernel) (by decide +kernel), z_in 936 (by decide +kernel) (by decide +kernel), by decide +kernel, by decide +kernel, by decide +kernel⟩
theorem zv_X9_most : z_yv yX9_most cX9_most 1 (some .int) 0 := ⟨z_in 938 (by decide +kernel) (by decide +kernel), z_in 939 (by decide +kernel) (by decide +kernel), z_in 62 (by decide +kernel) (by decide +kernel), z_in 940 (by decide +kernel) (by decide +kernel), by decide +kernel, by decide +kernel, by decide +kernel⟩
theorem zv_X9_leastNow : z_yv yX9_leastNow cX9_leastNow 4 (some .int) 0 := ⟨z_in 955 (by decide +kernel) (by decide +kernel), z_in 39 (by decide +kernel) (by decide +kernel), z_in 62 (by decide +kernel) (by decide +kernel), z_in 956 (by decide +kernel) (by decide +kernel), by decide +kernel, by decide +kernel, by decide +kernel⟩
theorem zv_X9_least : z_yv yX9_least cX9_least 1 (some .int) 0 := ⟨z_in 950 (by decide +kernel) (by decide +kernel), z_in 951 (by decide +kernel) (by decide +kernel), z_in 62 (by decide +kernel) (by decide +kernel), z_in 952 (by decide +kernel) (by decide +kernel), by decide +kernel, by decide +kernel, by decide +kernel⟩
theorem zv_X9_hintsFor : z_yv yX9_hintsFor cX9_hintsFor 4 (some .int) 2 := ⟨z_in 887 (by decide +kernel) (by decide +kernel), z_in 31 (by decide +kernel) (by decide +kernel), z_in 62 (by decide +kernel) (by decide +kernel), z_in 888 (by decide +kernel) (by decide +kernel), by decide +kernel, by decide +kernel, by decide +kernel⟩
theorem zv_X9_hintsIn : z_yv yX9_hintsIn cX9_hintsIn 5 (some .int) 1 := ⟨z_in 863 (by decide +kernel) (by decide +kernel), z_in 25 (by decide +kernel) (by decide +kernel), z_in 62 (by decide +kernel) (by decide +kernel), z_in 864 (by decide +kernel) (by decide +kernel), by decide +kernel, by decide +kernel, by decide +kernel⟩
theorem zv_X9_homeFor : z_yv yX9_homeFor cX9_homeFor 6 (some .int) 1 := ⟨z_in 859 (by decide +kernel) (by decide +kernel), z_in 24 (by decide +kernel) (by decide +kernel), z_in 62 (by decide +kernel) (by decide +kernel), z_in 860 (by decide +kernel) (by decide +kernel), by decide +kernel, by decide +kernel, by decide +kernel⟩
theorem zv_X9_hired : z_yv yX9_hired cX9_hired 1 (some .int) 0 := ⟨z_in 963 (by decide +kernel) (by decide +kernel), z_in 40 (by decide +kernel) (by decide +kernel), z_in 62 (by decide +kernel) (by decide +kernel), z_in 964 (by decide +kernel) (by decide +kernel), by decide +kernel, by decide +kernel, by decide +kernel⟩
theorem zv_X9_hire : z_yv yX9_hire cX9_hire 2 (some .int) 1 := ⟨z_in 958 (by decide +kernel) (by decide +kernel), z_in 959 (by decide +kernel) (by decide +kernel), z_in 62 (by decide +kernel) (by decide +kernel), z_in 960 (by decide +kernel) (by decide +kernel), by decide +kernel, by decide +kernel, by decide +kernel⟩
theorem zv_X9_save : z_yv yX9_save cX9_save 2 none 0 := ⟨z_in 975 (by decide +kernel) (by decide +kernel), z_in 42 (by decide +kernel) (by decide +kernel), z_in 62 (by decide +kernel) (by decide +kernel), z_in 976 (by decide +kernel) (by decide +kernel), by decide +kernel, by decide +kernel, by decide +kernel⟩
theorem zv_X9_load : z_yv yX9_load cX9_load 2 none 0 := ⟨z_in 979 (by decide +kernel) (by decide +kernel), z_in 43 (by decide +kernel) (by decide +kernel), z_in 62 (by decide +kernel) (by decide +kernel), z_in 980 (by decide +kernel) (by decide +kernel), by decide +kernel, by decide +kernel, by decide +kernel⟩
theorem zv_X9_endsNow : z_yv yX9_endsNow cX9_endsNow 2 (some .int) 0 := ⟨z_in 971 (by decide +kernel) (by decide +kernel), z_in 41 (by decide +kernel) (by decide +kernel), z_in 62 (by decide +kernel) (by decide +kernel), z_in 972 (by decide +kernel) (by decide +kernel), by decide +kernel, by decide +kernel, by decide +kernel⟩
theorem zv_X9_ends : z_yv yX9_ends cX9_ends 1 (some .int) 0 := ⟨z_in 966 (by decide +kernel) (by decide +kernel), z_in 967 (by decide +kernel) (by decide +kernel), z_in 62 (by decide +kernel) (by decide +kernel), z_in 968 (by decide +kernel) (by decide +kernel), by decide +kernel, by decide +kernel, by decide +kernel⟩
theorem zv_X9_oddsNow : z_yv yX9_oddsNow cX9_oddsNow 11 (some .int) 3 := ⟨z_in 987 (by decide +kernel) (by decide +kernel), z_in 44 (by decide +kernel) (by decide +kernel), z_in 62 (by decide +kernel) (by decide +kernel), z_in 988 (by decide +kernel) (by decide +kernel), by decide +kernel, by decide +kernel, by decide +kernel⟩
theorem zv_X9_odds : z_yv yX9_odds cX9_odds 4 (some .int) 3 := ⟨z_in 982 (by decide +kernel) (by decide +kernel), z_in 983 (by decide +kernel) (by decide +kernel), z_in 62 (by decide +kernel) (by decide +kernel), z_in 984 (by decide +kernel) (by decide +kernel), by decide +kernel, by decide +kernel, by decide +kernel⟩
theorem zv_X9_see : z_yv yX9_see cX9_see 4 (some .int) 3 := ⟨z_in 993 (by decide +kernel) (by decide +kernel), z_in 994 (by decide +kernel) (by decide +kernel), z_in 62 (by decide +kernel) (by decide +kernel), z_in 995 (by decide +kernel) (by decide +kernel), by decide +kernel, by decide +kernel, by decide +kernel⟩
theorem zv_X9_forget : z_yv yX9_forget cX9_forget 2 (some .int) 0 := ⟨z_in 997 (by decide +kernel) (by decide +kernel), z_in 998 (by decide +kernel) (by decide +kernel), z_in 62 (by decide +kernel) (by decide +kernel), z_in 999 (by decide +kernel) (by decide +kernel), by decide +kernel, by decide +kernel, by decide +kernel⟩
theorem zv_X9_wouldGo : z_yv yX9_wouldGo cX9_wouldGo 4 (some .boolean) 3 := ⟨z_in 847 (by decide +kernel) (by decide +kernel), z_in 22 (by decide +kernel) (by decide +kernel), z_in 62 (by decide +kernel) (by decide +kernel), z_in 848 (by decide +kernel) (by decide +kernel), by decide +kernel, by decide +kernel, by decide +kernel⟩
theorem zv_X9_shynessOf : z_yv yX9_shynessOf cX9_shynessOf 6 (some .int) 1 := ⟨z_in 843 (by decide +kernel) (by decide +kernel), z_in 21 (by decide +kernel) (by decide +kernel), z_in 62 (by decide +kernel) (by decide +kernel), z_in 844 (by decide +kernel) (by decide +kernel), by decide +kernel, by decide +kernel, by decide +kernel⟩
theorem zv_X9_askOf : z_yv yX9_askOf cX9_askOf 9 (some .int) 1 := ⟨z_in 851 (by decide +kernel) (by decide +kernel), z_in 23 (by decide +kernel) (by decide +kernel), z_in 62 (by decide +kernel) (by decide +kernel), z_in 852 (by decide +kernel) (by decide +kernel), by decide +kernel, by decide +kernel, by decide +kernel⟩
theorem zv_X9_draw : z_yv yX9_draw cX9_draw 2 (some .int) 1 := ⟨z_in 1014 (by decide +kernel) (by decide +kernel), z_in 47 (by decide +kernel) (by decide +kernel), z_in 62 (by decide +kernel) (by decide +kernel), z_in 1015 (by decide +kernel) (by decide +kernel), by decide +kernel, by decide +kernel, by decide +kernel⟩
theorem zv_X9_goNight : z_yv yX9_goNight cX9_goNight 2 none 0 := ⟨z_in 1010 (by decide +kernel) (by decide +kernel), z_in 46 (by decide +kernel) (by decide +kernel), z_in 62 (by decide +kernel) (by decide +kernel), z_in 1011 (by decide +kernel) (by decide +kernel), by decide +kernel, by decide +kernel, by decide +kernel⟩
theorem zv_X9_nightsNow : z_yv yX9_nightsNow cX9_nightsNow 5 (some .int) 3 := ⟨z_in 1006 (by decide +kernel) (by decide +kernel), z_in 45 (by decide +kernel) (by decide +kernel), z_in 62 (by decide +kernel) (by decide +kernel), z_in 1007 (by decide +kernel) (by decide +kernel), by decide +kernel, by decide +kernel, by decide +kernel⟩
theorem zv_X9_nights : z_yv yX9_nights cX9_nights 4 (some .int) 3 := ⟨z_in 1001 (by decide +kernel) (by decide +kernel), z_in 1002 (by decide +kernel) (by decide +kernel), z_in 62 (by decide +kernel) (by decide +kernel), z_in 1003 (by decide +kernel) (by decide +kernel), by decide +kernel, by decide +kernel, by decide +kernel⟩
theorem zv_X9_image : z_yv yX9_image cX9_image 2 (some .int) 0 := ⟨z_in 1021 (by decide +kernel) (by decide +kernel), z_in 1022 (by decide +kernel) (by decide +kernel), z_in 62 (by decide +kernel) (by decide +kernel), z_in 1023 (by decide +kernel) (by decide +kernel), by decide +kernel, by decide +kernel, by decide +kernel⟩
theorem zv_X9_restore : z_yv yX9_restore cX9_restore 2 (some .int) 0 := ⟨z_in 1025 (by decide +kernel) (by decide +kernel), z_in 1026 (by decide +kernel) (by decide +kernel), z_in 62 (by decide +kernel) (by decide +kernel), z_in 1027 (by decide +kernel) (by decide +kernel), by decide +kernel, by decide +kernel, by decide +kernel⟩
theorem zv_X9_shyAll : z_yv yX9_shyAll cX9_shyAll 3 (some .int) 0 := ⟨z_in 1038 (by decide +kernel) (by decide +kernel), z_in 49 (by decide +kernel) (by decide +kernel), z_in 62 (by decide +kernel) (by decide +kernel), z_in 1039 (by decide +kernel) (by decide +kernel), by decide +kernel, by decide +kernel, by decide +kernel⟩
theorem zv_X9_alone : z_yv yX9_alone cX9_alone 3 (some .int) 0 := ⟨z_in 1042 (by decide +kernel) (by decide +kernel), z_in 50 (by decide +kernel) (by decide +kernel), z_in 62 (by decide +kernel) (by decide +kernel), z_in 1043 (by decide +kernel) (by decide +kernel), by decide +kernel, by decide +kernel, by decide +kernel⟩
theorem zv_X9_howMany : z_yv yX9_howMany cX9_howMany 2 (some .int) 1 := ⟨z_in 1034 (by decide +kernel) (by decide +kernel), z_in 48 (by decide +kernel) (by decide +kernel), z_in 62 (by decide +kernel) (by decide +kernel), z_in 1035 (by decide +kernel) (by decide +kernel), by decide +kernel, by decide +kernel, by decide +kernel⟩
theorem zv_X9_count : z_yv yX9_count cX9_count 2 (some .int) 1 := ⟨z_in 1029 (by decide +kernel) (by decide +kernel), z_in 1030 (by decide +kernel) (by decide +kernel), z_in 62 (by decide +kernel) (by decide +kernel), z_in 1031 (by decide +kernel) (by decide +kernel), by decide +kernel, by decide +kernel, by decide +kernel⟩
theorem zv_X9_mix : z_yv yX9_mix cX9_mix 3 none 1 := ⟨z_in 1051 (by decide +kernel) (by decide +kernel), z_in 51 (by decide +kernel) (by decide +kernel), z_in 62 (by decide +kernel) (by decide +kernel), z_in 1052 (by decide +kernel) (by decide +kernel), by decide +kernel, by decide +kernel, by decide +kernel⟩
theorem zv_X9_mixParty : z_yv yX9_mixParty cX9_mixParty 2 none 0 := ⟨z_in 1056 (by decide +kernel) (by decide +kernel), z_in 52 (by decide +kernel) (by decide +kernel), z_in 62 (by decide +kernel) (by decide +kernel), z_in 1057 (by decide +kernel) (by decide +kernel), by decide +kernel, by decide +kernel, by decide +kernel⟩
theorem zv_X9_digest : z_yv yX9_digest cX9_digest 3 (some .long) 0 := ⟨z_in 1045 (by decide +kernel) (by decide +kernel), z_in 1046 (by decide +kernel) (by decide +kernel), z_in 62 (by decide +kernel) (by decide +kernel), z_in 1047 (by decide +kernel) (by decide +kernel), by decide +kernel, by decide +kernel, by decide +kernel⟩
theorem zs_J6_bitCount_0f7a4 : z_ys yJ6_bitCount_0f7a4 cJ6_bitCount_0f7a4 1 (some .int) 1 := ⟨z_in 442 (by decide +kernel) (by decide +kernel), z_in 68 (by decide +kernel) (by decide +kernel), z_in 443 (by decide +kernel) (by decide +kernel), by decide +kernel, by decide +kernel, by decide +kernel⟩
theorem zs_J9_max_7cf53 : z_ys yJ9_max_7cf53 cJ9_max_7cf53 2 (some .int) 2 := ⟨z_in 448 (by decide +kernel) (by decide +kernel), z_in 69 (by decide +kernel) (by decide +kernel), z_in 449 (by decide +kernel) (by decide +kernel), by decide +kernel, by decide +kernel, by decide +kernel⟩
theorem zv_J0_length_8abf5 : z_yv yJ0_length_8abf5 cJ0_length_8abf5 1 (some .int) 0 := ⟨z_in 284 (by decide +kernel) (by decide +kernel), z_in 285 (by decide +kernel) (by decide +kernel), z_in 64 (by decide +kernel) (by decide +kernel), z_in 286 (by decide +kernel) (by decide +kernel), by decide +kernel, by decide +kernel, by decide +kernel⟩
theorem zv_J0_charAt_5068e : z_yv yJ0_charAt_5068e cJ0_charAt_5068e 2 (some .char) 1 := ⟨z_in 294 (by decide +kernel) (by decide +kernel), z_in 295 (by decide +kernel) (by decide +kernel), z_in 64 (by decide +kernel) (by decide +kernel), z_in 296 (by decide +kernel) (by decide +kernel), by decide +kernel, by decide +kernel, by decide +kernel⟩
theorem zv_J0_coder_7d493 : z_yv yJ0_coder_7d493 cJ0_coder_7d493 1 (some .byte) 0 := ⟨z_in 288 (by decide +kernel) (by decide +kernel), z_in 289 (by decide +kernel) (by decide +kernel), z_in 64 (by decide +kernel) (by decide +kernel), z_in 290 (by decide +kernel) (by decide +kernel), by decide +kernel, by decide +kernel, by decide +kernel⟩
theorem zv_J0_isLatin1_aae02 : z_yv yJ0_isLatin1_aae02 cJ0_isLatin1_aae02 1 (some .boolean) 0 := ⟨z_in 298 (by decide +kernel) (by decide +kernel), z_in 299 (by decide +kernel) (by decide +kernel), z_in 64 (by decide +kernel) (by decide +kernel), z_in 300 (by decide +kernel) (by decide +kernel), by decide +kernel, by decide +kernel, by decide +kernel⟩
theorem zs_J0_checkIndex_df160 : z_ys yJ0_checkIndex_df160 cJ0_checkIndex_df160 2 none 2 := ⟨z_in 305 (by decide +kernel) (by decide +kernel), z_in 64 (by decide +kernel) (by decide +kernel), z_in 306 (by decide +kernel) (by decide +kernel), by decide +kernel, by decide +kernel, by decide +kernel⟩
theorem zs_J1_charAt_3b067 : z_ys yJ1_charAt_3b067 cJ1_charAt_3b067 2 (some .char) 2 := ⟨z_in 302 (by decide +kernel) (by decide +kernel), z_in 65 (by decide +kernel) (by decide +kernel), z_in 303 (by decide +kernel) (by decide +kernel), by decide +kernel, by decide +kernel, by decide +kernel⟩
theorem zs_J2_getChar_3b067 : z_ys yJ2_getChar_3b067 cJ2_getChar_3b067 2 (some .char) 2 := ⟨z_in 323 (by decide +kernel) (by decide +kernel), z_in 67 (by decide +kernel) (by decide +kernel), z_in 324 (by decide +kernel) (by decide +kernel), by decide +kernel, by decide +kernel, by decide +kernel⟩
theorem zs_J2_length_9d52b : z_ys yJ2_length_9d52b cJ2_length_9d52b 1 (some .int) 1 := ⟨z_in 319 (by decide +kernel) (by decide +kernel), z_in 67 (by decide +kernel) (by decide +kernel), z_in 320 (by decide +kernel) (by decide +kernel), by decide +kernel, by decide +kernel, by decide +kernel⟩
theorem zs_J2_charAt_3b067 : z_ys yJ2_charAt_3b067 cJ2_charAt_3b067 2 (some .char) 2 := ⟨z_in 313 (by decide +kernel) (by decide +kernel), z_in 67 (by decide +kernel) (by decide +kernel), z_in 314 (by decide +kernel) (by decide +kernel), by decide +kernel, by decide +kernel, by decide +kernel⟩
theorem zs_J2_checkIndex_2214a : z_ys yJ2_checkIndex_2214a cJ2_checkIndex_2214a 2 none 2 := ⟨z_in 316 (by decide +kernel) (by decide +kernel), z_in 67 (by decide +kernel) (by decide +kernel), z_in 317 (by decide +kernel) (by decide +kernel), by decide +kernel, by decide +kernel, by decide +kernel⟩
theorem zs_J3_checkIndex_8e157 : z_ys yJ3_checkIndex_8e157 cJ3_checkIndex_8e157 3 (some .int) 3 := ⟨z_in 310 (by decide +kernel) (by decide +kernel), z_in 66 (by decide +kernel) (by decide +kernel), z_in 311 (by decide +kernel) (by decide +kernel), by decide +kernel, by decide +kernel, by decide +kernel⟩
theorem zm_L_9 : Cond.methodLink RL 9 yX8_init ∈ z_tb := z_in 73 (by decide +kernel) (by decide +kernel)
theorem zm_X8_9 : Cond.methodLink RX8 9 yX4_init ∈ z_tb := z_in 81 (by decide +kernel) (by decide +kernel)
theorem zf_X4_9 : z_fw RX4 9 3 0 := ⟨RX4, TX4, 2, rfl, by decide, z_in 85 (by decide +kernel) (by decide +kernel), z_X4⟩
theorem zf_X4_15 : z_fw RX4 15 3 1 := ⟨RX4, TX4, 2, rfl, by decide, z_in 86 (by decide +kernel) (by decide +kernel), z_X4⟩
theorem zp_X4_15 : z_fp RX4 15 3 1 .int := ⟨RX4, TX4, 2, tyX4, rfl, by decide, z_in 86 (by decide +kernel) (by decide +kernel), z_X4, tyX4_ok, nmX4, rfl, by decide +kernel⟩
theorem zf_X8_67 : z_fw RX8 67 3 1 := ⟨RX4, TX4, 2, rfl, by decide, z_in 87 (by decide +kernel) (by decide +kernel), z_X4⟩
theorem zp_X8_67 : z_fp RX8 67 3 1 .int := ⟨RX4, TX4, 2, tyX4, rfl, by decide, z_in 87 (by decide +kernel) (by decide +kernel), z_X4, tyX4_ok, nmX4, rfl, by decide +kernel⟩
theorem zm_X8_18 : Cond.methodLink RX8 18 yX6_init ∈ z_tb := z_in 96 (by decide +kernel) (by decide +kernel)
theorem zf_X6_9 : z_fw RX6 9 5 0 := ⟨RX6, TX6, 7, rfl, by decide, z_in 100 (by decide +kernel) (by decide +kernel), z_X6⟩
theorem zf_X2_41 : z_fw RX2 41 5 0 := ⟨RX6, TX6, 7, rfl, by decide, z_in 101 (by decide +kernel) (by decide +kernel), z_X6⟩
theorem zf_X8_118 : z_fw RX8 118 5 0 := ⟨RX6, TX6, 7, rfl, by decide, z_in 102 (by decide +kernel) (by decide +kernel), z_X6⟩
theorem zf_X6_15 : z_fw RX6 15 5 1 := ⟨RX6, TX6, 7, rfl, by decide, z_in 103 (by decide +kernel) (by decide +kernel), z_X6⟩
theorem zf_X2_49 : z_fw RX2 49 5 1 := ⟨RX6, TX6, 7, rfl, by decide, z_in 104 (by decide +kernel) (by decide +kernel), z_X6⟩
theorem zf_X8_156 : z_fw RX8 156 5 1 := ⟨RX6, TX6, 7, rfl, by decide, z_in 105 (by decide +kernel) (by decide +kernel), z_X6⟩
theorem zf_X6_18 : z_fw RX6 18 5 2 := ⟨RX6, TX6, 7, rfl, by decide, z_in 106 (by decide +kernel) (by decide +kernel), z_X6⟩
theorem zf_X8_235 : z_fw RX8 235 5 2 := ⟨RX6, TX6, 7, rfl, by decide, z_in 107 (by decide +kernel) (by decide +kernel), z_X6⟩
theorem zf_X6_27 : z_fw RX6 27 5 3 := ⟨RX6, TX6, 7, rfl, by decide, z_in 108 (by decide +kernel) (by decide +kernel), z_X6⟩
theorem zp_X6_27 : z_fp RX6 27 5 3 .int := ⟨RX6, TX6, 7, tyX6, rfl, by decide, z_in 108 (by decide +kernel) (by decide +kernel), z_X6, tyX6_ok, nmX6, rfl, by decide +kernel⟩
theorem zf_X8_98 : z_fw RX8 98 5 3 := ⟨RX6, TX6, 7, rfl, by decide, z_in 109 (by decide +kernel) (by decide +kernel), z_X6⟩
theorem zp_X8_98 : z_fp RX8 98 5 3 .int := ⟨RX6, TX6, 7, tyX6, rfl, by decide, z_in 109 (by decide +kernel) (by decide +kernel), z_X6, tyX6_ok, nmX6, rfl, by decide +kernel⟩
theorem zf_X5_15 : z_fw RX5 15 5 4 := ⟨RX6, TX6, 7, rfl, by decide, z_in 110 (by decide +kernel) (by decide +kernel), z_X6⟩
theorem zp_X5_15 : z_fp RX5 15 5 4 .int := ⟨RX6, TX6, 7, tyX6, rfl, by decide, z_in 110 (by decide +kernel) (by decide +kernel), z_X6, tyX6_ok, nmX6, rfl, by decide +kernel⟩
theorem zf_X6_33 : z_fw RX6 33 5 4 := ⟨RX6, TX6, 7, rfl, by decide, z_in 111 (by decide +kernel) (by decide +kernel), z_X6⟩
theorem zp_X6_33 : z_fp RX6 33 5 4 .int := ⟨RX6, TX6, 7, tyX6, rfl, by decide, z_in 111 (by decide +kernel) (by decide +kernel), z_X6, tyX6_ok, nmX6, rfl, by decide +kernel⟩
theorem zf_X2_15 : z_fw RX2 15 5 4 := ⟨RX6, TX6, 7, rfl, by decide, z_in 112 (by decide +kernel) (by decide +kernel), z_X6⟩
theorem zp_X2_15 : z_fp RX2 15 5 4 .int := ⟨RX6, TX6, 7, tyX6, rfl, by decide, z_in 112 (by decide +kernel) (by decide +kernel), z_X6, tyX6_ok, nmX6, rfl, by decide +kernel⟩
theorem zf_X8_129 : z_fw RX8 129 5 4 := ⟨RX6, TX6, 7, rfl, by decide, z_in 113 (by decide +kernel) (by decide +kernel), z_X6⟩
theorem zp_X8_129 : z_fp RX8 129 5 4 .int := ⟨RX6, TX6, 7, tyX6, rfl, by decide, z_in 113 (by decide +kernel) (by decide +kernel), z_X6, tyX6_ok, nmX6, rfl, by decide +kernel⟩
theorem zf_X6_40 : z_fw RX6 40 5 5 := ⟨RX6, TX6, 7, rfl, by decide, z_in 114 (by decide +kernel) (by decide +kernel), z_X6⟩
theorem zp_X6_40 : z_fp RX6 40 5 5 .int := ⟨RX6, TX6, 7, tyX6, rfl, by decide, z_in 114 (by decide +kernel) (by decide +kernel), z_X6, tyX6_ok, nmX6, rfl, by decide +kernel⟩
theorem zf_X8_159 : z_fw RX8 159 5 5 := ⟨RX6, TX6, 7, rfl, by decide, z_in 115 (by decide +kernel) (by decide +kernel), z_X6⟩
theorem zp_X8_159 : z_fp RX8 159 5 5 .int := ⟨RX6, TX6, 7, tyX6, rfl, by decide, z_in 115 (by decide +kernel) (by decide +kernel), z_X6, tyX6_ok, nmX6, rfl, by decide +kernel⟩
theorem zf_X6_43 : z_fw RX6 43 5 6 := ⟨RX6, TX6, 7, rfl, by decide, z_in 116 (by decide +kernel) (by decide +kernel), z_X6⟩
theorem zp_X6_43 : z_fp RX6 43 5 6 .int := ⟨RX6, TX6, 7, tyX6, rfl, by decide, z_in 116 (by decide +kernel) (by decide +kernel), z_X6, tyX6_ok, nmX6, rfl, by decide +kernel⟩
theorem zf_X8_143 : z_fw RX8 143 5 6 := ⟨RX6, TX6, 7, rfl, by decide, z_in 117 (by decide +kernel) (by decide +kernel), z_X6⟩
theorem zp_X8_143 : z_fp RX8 143 5 6 .int := ⟨RX6, TX6, 7, tyX6, rfl, by decide, z_in 117 (by decide +kernel) (by decide +kernel), z_X6, tyX6_ok, nmX6, rfl, by decide +kernel⟩
theorem zm_X8_25 : Cond.methodLink RX8 25 yX7_init ∈ z_tb := z_in 135 (by decide +kernel) (by decide +kernel)
theorem zf_X7_9 : z_fw RX7 9 6 0 := ⟨RX7, TX7, 4, rfl, by decide, z_in 139 (by decide +kernel) (by decide +kernel), z_X7⟩
theorem zf_X7_15 : z_fw RX7 15 6 1 := ⟨RX7, TX7, 4, rfl, by decide, z_in 140 (by decide +kernel) (by decide +kernel), z_X7⟩
theorem zf_X7_18 : z_fw RX7 18 6 2 := ⟨RX7, TX7, 4, rfl, by decide, z_in 141 (by decide +kernel) (by decide +kernel), z_X7⟩
theorem zf_X7_22 : z_fw RX7 22 6 3 := ⟨RX7, TX7, 4, rfl, by decide, z_in 142 (by decide +kernel) (by decide +kernel), z_X7⟩
theorem zp_X7_22 : z_fp RX7 22 6 3 .int := ⟨RX7, TX7, 4, tyX7, rfl, by decide, z_in 142 (by decide +kernel) (by decide +kernel), z_X7, tyX7_ok, nmX7, rfl, by decide +kernel⟩
theorem zf_X8_184 : z_fw RX8 184 6 3 := ⟨RX7, TX7, 4, rfl, by decide, z_in 143 (by decide +kernel) (by decide +kernel), z_X7⟩
theorem zp_X8_184 : z_fp RX8 184 6 3 .int := ⟨RX7, TX7, 4, tyX7, rfl, by decide, z_in 143 (by decide +kernel) (by decide +kernel), z_X7, tyX7_ok, nmX7, rfl, by decide +kernel⟩
theorem zm_X8_41 : Cond.methodLink RX8 41 yX5_init ∈ z_tb := z_in 156 (by decide +kernel) (by decide +kernel)
theorem zf_X5_9 : z_fw RX5 9 4 0 := ⟨RX5, TX5, 2, rfl, by decide, z_in 160 (by decide +kernel) (by decide +kernel), z_X5⟩
theorem zf_X0_34 : z_fw RX0 34 4 0 := ⟨RX5, TX5, 2, rfl, by decide, z_in 161 (by decide +kernel) (by decide +kernel), z_X5⟩
theorem zf_X0_15 : z_fw RX0 15 4 1 := ⟨RX5, TX5, 2, rfl, by decide, z_in 162 (by decide +kernel) (by decide +kernel), z_X5⟩
theorem zp_X0_15 : z_fp RX0 15 4 1 .int := ⟨RX5, TX5, 2, tyX5, rfl, by decide, z_in 162 (by decide +kernel) (by decide +kernel), z_X5, tyX5_ok, nmX5, rfl, by decide +kernel⟩
theorem zf_X5_21 : z_fw RX5 21 4 1 := ⟨RX5, TX5, 2, rfl, by decide, z_in 163 (by decide +kernel) (by decide +kernel), z_X5⟩
theorem zp_X5_21 : z_fp RX5 21 4 1 .int := ⟨RX5, TX5, 2, tyX5, rfl, by decide, z_in 163 (by decide +kernel) (by decide +kernel), z_X5, tyX5_ok, nmX5, rfl, by decide +kernel⟩
theorem zm_X8_48 : Cond.methodLink RX8 48 yX0_init ∈ z_tb := z_in 171 (by decide +kernel) (by decide +kernel)
theorem zf_X0_9 : z_fw RX0 9 0 0 := ⟨RX0, TX0, 3, rfl, by decide, z_in 175 (by decide +kernel) (by decide +kernel), z_X0⟩
theorem zf_X0_31 : z_fw RX0 31 0 1 := ⟨RX0, TX0, 3, rfl, by decide, z_in 176 (by decide +kernel) (by decide +kernel), z_X0⟩
theorem zp_X0_31 : z_fp RX0 31 0 1 .int := ⟨RX0, TX0, 3, tyX0, rfl, by decide, z_in 176 (by decide +kernel) (by decide +kernel), z_X0, tyX0_ok, nmX0, rfl, by decide +kernel⟩
theorem zf_X8_178 : z_fw RX8 178 0 1 := ⟨RX0, TX0, 3, rfl, by decide, z_in 177 (by decide +kernel) (by decide +kernel), z_X0⟩
theorem zp_X8_178 : z_fp RX8 178 0 1 .int := ⟨RX0, TX0, 3, tyX0, rfl, by decide, z_in 177 (by decide +kernel) (by decide +kernel), z_X0, tyX0_ok, nmX0, rfl, by decide +kernel⟩
theorem zf_X0_52 : z_fw RX0 52 0 2 := ⟨RX0, TX0, 3, rfl, by decide, z_in 178 (by decide +kernel) (by decide +kernel), z_X0⟩
theorem zp_X0_52 : z_fp RX0 52 0 2 .int := ⟨RX0, TX0, 3, tyX0, rfl, by decide, z_in 178 (by decide +kernel) (by decide +kernel), z_X0, tyX0_ok, nmX0, rfl, by decide +kernel⟩
theorem zf_X8_181 : z_fw RX8 181 0 2 := ⟨RX0, TX0, 3, rfl, by decide, z_in 179 (by decide +kernel) (by decide +kernel), z_X0⟩
theorem zp_X8_181 : z_fp RX8 181 0 2 .int := ⟨RX0, TX0, 3, tyX0, rfl, by decide, z_in 179 (by decide +kernel) (by decide +kernel), z_X0, tyX0_ok, nmX0, rfl, by decide +kernel⟩
theorem zm_X8_55 : Cond.methodLink RX8 55 yX2_init ∈ z_tb := z_in 189 (by decide +kernel) (by decide +kernel)
theorem zf_X2_9 : z_fw RX2 9 2 0 := ⟨RX2, TX2, 1, rfl, by decide, z_in 193 (by decide +kernel) (by decide +kernel), z_X2⟩
theorem zf_X8_250 : z_fw RX8 250 2 0 := ⟨RX2, TX2, 1, rfl, by decide, z_in 194 (by decide +kernel) (by decide +kernel), z_X2⟩
theorem zm_X8_62 : Cond.methodLink RX8 62 yX1_init ∈ z_tb := z_in 200 (by decide +kernel) (by decide +kernel)
theorem zf_X1_9 : z_fw RX1 9 1 0 := ⟨RX1, TX1, 1, rfl, by decide, z_in 204 (by decide +kernel) (by decide +kernel), z_X1⟩
theorem zp_X1_9 : z_fp RX1 9 1 0 .int := ⟨RX1, TX1, 1, tyX1, rfl, by decide, z_in 204 (by decide +kernel) (by decide +kernel), z_X1, tyX1_ok, nmX1, rfl, by decide +kernel⟩
theorem zf_X8_198 : z_fw RX8 198 1 0 := ⟨RX1, TX1, 1, rfl, by decide, z_in 205 (by decide +kernel) (by decide +kernel), z_X1⟩
theorem zp_X8_198 : z_fp RX8 198 1 0 .int := ⟨RX1, TX1, 1, tyX1, rfl, by decide, z_in 205 (by decide +kernel) (by decide +kernel), z_X1, tyX1_ok, nmX1, rfl, by decide +kernel⟩
theorem zf_X8_10 : z_fw RX8 10 7 0 := ⟨RX8, TX8, 12, rfl, by decide, z_in 209 (by decide +kernel) (by decide +kernel), z_X8⟩
theorem zf_X8_19 : z_fw RX8 19 7 1 := ⟨RX8, TX8, 12, rfl, by decide, z_in 210 (by decide +kernel) (by decide +kernel), z_X8⟩
theorem zf_X8_26 : z_fw RX8 26 7 2 := ⟨RX8, TX8, 12, rfl, by decide, z_in 211 (by decide +kernel) (by decide +kernel), z_X8⟩
theorem zf_X8_30 : z_fw RX8 30 7 3 := ⟨RX8, TX8, 12, rfl, by decide, z_in 212 (by decide +kernel) (by decide +kernel), z_X8⟩
theorem zf_X8_33 : z_fw RX8 33 7 4 := ⟨RX8, TX8, 12, rfl, by decide, z_in 213 (by decide +kernel) (by decide +kernel), z_X8⟩
theorem zf_X8_36 : z_fw RX8 36 7 5 := ⟨RX8, TX8, 12, rfl, by decide, z_in 214 (by decide +kernel) (by decide +kernel), z_X8⟩
theorem zf_X8_42 : z_fw RX8 42 7 6 := ⟨RX8, TX8, 12, rfl, by decide, z_in 215 (by decide +kernel) (by decide +kernel), z_X8⟩
theorem zf_X8_49 : z_fw RX8 49 7 7 := ⟨RX8, TX8, 12, rfl, by decide, z_in 216 (by decide +kernel) (by decide +kernel), z_X8⟩
theorem zf_X8_56 : z_fw RX8 56 7 8 := ⟨RX8, TX8, 12, rfl, by decide, z_in 217 (by decide +kernel) (by decide +kernel), z_X8⟩
theorem zf_X8_63 : z_fw RX8 63 7 9 := ⟨RX8, TX8, 12, rfl, by decide, z_in 218 (by decide +kernel) (by decide +kernel), z_X8⟩
theorem zf_X8_91 : z_fw RX8 91 7 10 := ⟨RX8, TX8, 12, rfl, by decide, z_in 219 (by decide +kernel) (by decide +kernel), z_X8⟩
theorem zp_X8_91 : z_fp RX8 91 7 10 .boolean := ⟨RX8, TX8, 12, tyX8, rfl, by decide, z_in 219 (by decide +kernel) (by decide +kernel), z_X8, tyX8_ok, nmX8, rfl, by decide +kernel⟩
theorem zf_X8_95 : z_fw RX8 95 7 11 := ⟨RX8, TX8, 12, rfl, by decide, z_in 220 (by decide +kernel) (by decide +kernel), z_X8⟩
theorem zp_X8_95 : z_fp RX8 95 7 11 .int := ⟨RX8, TX8, 12, tyX8, rfl, by decide, z_in 220 (by decide +kernel) (by decide +kernel), z_X8, tyX8_ok, nmX8, rfl, by decide +kernel⟩
theorem zm_L_13 : Cond.methodLink RL 13 yX8_letter ∈ z_tb := z_in 246 (by decide +kernel) (by decide +kernel)
theorem zm_X8_71 : Cond.methodLink RX8 71 yX4_append ∈ z_tb := z_in 250 (by decide +kernel) (by decide +kernel)
theorem zm_L_18 : Cond.methodLink RL 18 yX8_blank ∈ z_tb := z_in 254 (by decide +kernel) (by decide +kernel)
theorem zm_X8_75 : Cond.methodLink RX8 75 yX4_clear ∈ z_tb := z_in 258 (by decide +kernel) (by decide +kernel)
theorem zm_L_23 : Cond.methodLink RL 23 yX8_fault ∈ z_tb := z_in 262 (by decide +kernel) (by decide +kernel)
theorem zm_X8_79 : Cond.methodLink RX8 79 yX4_firstFault ∈ z_tb := z_in 266 (by decide +kernel) (by decide +kernel)
theorem zm_X4_23 : Cond.methodLink RX4 23 yX4_fits ∈ z_tb := z_in 270 (by decide +kernel) (by decide +kernel)
theorem zm_X4_34 : Cond.methodLink RX4 34 yX4_isDigitBelow ∈ z_tb := z_in 273 (by decide +kernel) (by decide +kernel)
theorem zm_X4_37 : Cond.methodLink RX4 37 yX4_fitsGuest ∈ z_tb := z_in 276 (by decide +kernel) (by decide +kernel)
theorem zm_X4_41 : Cond.methodLink RX4 41 yX3_ofLetter ∈ z_tb := z_in 279 (by decide +kernel) (by decide +kernel)
theorem zm_X3_13 : Cond.methodLink RX3 13 yJ0_length_8abf5 ∈ z_tb := z_in 283 (by decide +kernel) (by decide +kernel)
theorem zm_J0_335 : Cond.methodLink RJ0 335 yJ0_coder_7d493 ∈ z_tb := z_in 287 (by decide +kernel) (by decide +kernel)
theorem zg_J0_38 : Cond.fieldLink RJ0 38 "java/lang/String" "COMPACT_STRINGS" "Z" ∈ z_tb := z_in 291 (by decide +kernel) (by decide +kernel)
theorem zm_X3_19 : Cond.methodLink RX3 19 yJ0_charAt_5068e ∈ z_tb := z_in 293 (by decide +kernel) (by decide +kernel)
theorem zm_J0_492 : Cond.methodLink RJ0 492 yJ0_isLatin1_aae02 ∈ z_tb := z_in 297 (by decide +kernel) (by decide +kernel)
theorem zm_J0_495 : Cond.methodLink RJ0 495 yJ1_charAt_3b067 ∈ z_tb := z_in 301 (by decide +kernel) (by decide +kernel)
theorem zm_J1_9 : Cond.methodLink RJ1 9 yJ0_checkIndex_df160 ∈ z_tb := z_in 304 (by decide +kernel) (by decide +kernel)
theorem zg_J0_1053 : Cond.fieldLink RJ0 1053 "jdk/internal/util/Preconditions" "SIOOBE_FORMATTER" "Ljava/util/function/BiFunction;" ∈ z_tb := z_in 307 (by decide +kernel) (by decide +kernel)
theorem zm_J0_1059 : Cond.methodLink RJ0 1059 yJ3_checkIndex_8e157 ∈ z_tb := z_in 309 (by decide +kernel) (by decide +kernel)
theorem zm_J0_498 : Cond.methodLink RJ0 498 yJ2_charAt_3b067 ∈ z_tb := z_in 312 (by decide +kernel) (by decide +kernel)
theorem zm_J2_67 : Cond.methodLink RJ2 67 yJ2_checkIndex_2214a ∈ z_tb := z_in 315 (by decide +kernel) (by decide +kernel)
theorem zm_J2_48 : Cond.methodLink RJ2 48 yJ2_length_9d52b ∈ z_tb := z_in 318 (by decide +kernel) (by decide +kernel)
theorem zm_J2_414 : Cond.methodLink RJ2 414 yJ0_checkIndex_df160 ∈ z_tb := z_in 321 (by decide +kernel) (by decide +kernel)
theorem zm_J2_71 : Cond.methodLink RJ2 71 yJ2_getChar_3b067 ∈ z_tb := z_in 322 (by decide +kernel) (by decide +kernel)
theorem zg_J2_44 : Cond.fieldLink RJ2 44 "java/lang/StringUTF16" "$assertionsDisabled" "Z" ∈ z_tb := z_in 325 (by decide +kernel) (by decide +kernel)
theorem zg_J2_59 : Cond.fieldLink RJ2 59 "java/lang/StringUTF16" "HI_BYTE_SHIFT" "I" ∈ z_tb := z_in 327 (by decide +kernel) (by decide +kernel)
theorem zg_J2_63 : Cond.fieldLink RJ2 63 "java/lang/StringUTF16" "LO_BYTE_SHIFT" "I" ∈ z_tb := z_in 329 (by decide +kernel) (by decide +kernel)
theorem zm_L_27 : Cond.methodLink RL 27 yX8_party ∈ z_tb := z_in 332 (by decide +kernel) (by decide +kernel)
theorem zm_X8_82 : Cond.methodLink RX8 82 yX4_isParty ∈ z_tb := z_in 336 (by decide +kernel) (by decide +kernel)
theorem zm_X4_27 : Cond.methodLink RX4 27 yX4_guests ∈ z_tb := z_in 340 (by decide +kernel) (by decide +kernel)
theorem zm_X4_31 : Cond.methodLink RX4 31 yX4_firstFault ∈ z_tb := z_in 344 (by decide +kernel) (by decide +kernel)
theorem zm_X8_86 : Cond.methodLink RX8 86 yX6_readFrom ∈ z_tb := z_in 345 (by decide +kernel) (by decide +kernel)
theorem zm_X6_21 : Cond.methodLink RX6 21 yX4_guests ∈ z_tb := z_in 349 (by decide +kernel) (by decide +kernel)
theorem zm_X6_30 : Cond.methodLink RX6 30 yX6_everyone ∈ z_tb := z_in 350 (by decide +kernel) (by decide +kernel)
theorem zm_X6_36 : Cond.methodLink RX6 36 yX4_digitAt ∈ z_tb := z_in 354 (by decide +kernel) (by decide +kernel)
theorem zm_X4_19 : Cond.methodLink RX4 19 yX4_at ∈ z_tb := z_in 358 (by decide +kernel) (by decide +kernel)
theorem zm_X6_46 : Cond.methodLink RX6 46 yX4_placeOf ∈ z_tb := z_in 362 (by decide +kernel) (by decide +kernel)
theorem zm_X6_49 : Cond.methodLink RX6 49 yX4_at ∈ z_tb := z_in 365 (by decide +kernel) (by decide +kernel)
theorem zm_X6_52 : Cond.methodLink RX6 52 yX3_ofLetter ∈ z_tb := z_in 366 (by decide +kernel) (by decide +kernel)
theorem zm_X8_90 : Cond.methodLink RX8 90 yX7_clear ∈ z_tb := z_in 367 (by decide +kernel) (by decide +kernel)
theorem zm_L_31 : Cond.methodLink RL 31 yX8_guest ∈ z_tb := z_in 371 (by decide +kernel) (by decide +kernel)
theorem zm_X8_101 : Cond.methodLink RX8 101 yX6_hasGuest ∈ z_tb := z_in 375 (by decide +kernel) (by decide +kernel)
theorem zm_X8_105 : Cond.methodLink RX8 105 yX2_find ∈ z_tb := z_in 379 (by decide +kernel) (by decide +kernel)
theorem zm_X2_21 : Cond.methodLink RX2 21 yX2_hintsToRise ∈ z_tb := z_in 383 (by decide +kernel) (by decide +kernel)
theorem zm_X2_33 : Cond.methodLink RX2 33 yX6_gone ∈ z_tb := z_in 386 (by decide +kernel) (by decide +kernel)
theorem zm_X2_37 : Cond.methodLink RX2 37 yX6_countTogether ∈ z_tb := z_in 390 (by decide +kernel) (by decide +kernel)
theorem zm_X6_71 : Cond.methodLink RX6 71 yX3_countsAs ∈ z_tb := z_in 397 (by decide +kernel) (by decide +kernel)
theorem zm_X2_44 : Cond.methodLink RX2 44 yX3_countsAs ∈ z_tb := z_in 401 (by decide +kernel) (by decide +kernel)
theorem zm_X2_52 : Cond.methodLink RX2 52 yX3_hintsTill ∈ z_tb := z_in 402 (by decide +kernel) (by decide +kernel)
theorem zm_X3_23 : Cond.methodLink RX3 23 yX3_needs ∈ z_tb := z_in 405 (by decide +kernel) (by decide +kernel)
theorem zm_X2_56 : Cond.methodLink RX2 56 yX6_hasFriendAmong ∈ z_tb := z_in 408 (by decide +kernel) (by decide +kernel)
theorem zm_X2_25 : Cond.methodLink RX2 25 yX2_noteFor ∈ z_tb := z_in 412 (by decide +kernel) (by decide +kernel)
theorem zm_X8_109 : Cond.methodLink RX8 109 yX8_tellOfGuest ∈ z_tb := z_in 416 (by decide +kernel) (by decide +kernel)
theorem zm_X8_149 : Cond.methodLink RX8 149 yX6_isHere ∈ z_tb := z_in 420 (by decide +kernel) (by decide +kernel)
theorem zm_X8_238 : Cond.methodLink RX8 238 yX6_needsOf ∈ z_tb := z_in 424 (by decide +kernel) (by decide +kernel)
theorem zm_X6_67 : Cond.methodLink RX6 67 yX3_needs ∈ z_tb := z_in 428 (by decide +kernel) (by decide +kernel)
theorem zm_X8_241 : Cond.methodLink RX8 241 yX3_countsAs ∈ z_tb := z_in 429 (by decide +kernel) (by decide +kernel)
theorem zm_X8_244 : Cond.methodLink RX8 244 yX7_shynessOf ∈ z_tb := z_in 430 (by decide +kernel) (by decide +kernel)
theorem zm_X7_26 : Cond.methodLink RX7 26 yX7_shynessThatGoes ∈ z_tb := z_in 434 (by decide +kernel) (by decide +kernel)
theorem zm_X7_41 : Cond.methodLink RX7 41 yX3_needs ∈ z_tb := z_in 437 (by decide +kernel) (by decide +kernel)
theorem zm_X8_247 : Cond.methodLink RX8 247 yX7_whatToAsk ∈ z_tb := z_in 438 (by decide +kernel) (by decide +kernel)
theorem zm_X7_30 : Cond.methodLink RX7 30 yJ6_bitCount_0f7a4 ∈ z_tb := z_in 441 (by decide +kernel) (by decide +kernel)
theorem zk_J6_265 : Cond.constant RJ6 265 (1431655765) ∈ z_tb := z_in 444 (by decide +kernel) (by decide +kernel)
theorem zk_J6_266 : Cond.constant RJ6 266 (858993459) ∈ z_tb := z_in 445 (by decide +kernel) (by decide +kernel)
theorem zk_J6_267 : Cond.constant RJ6 267 (252645135) ∈ z_tb := z_in 446 (by decide +kernel) (by decide +kernel)
theorem zm_X7_36 : Cond.methodLink RX7 36 yJ9_max_7cf53 ∈ z_tb := z_in 447 (by decide +kernel) (by decide +kernel)
theorem zm_L_36 : Cond.methodLink RL 36 yX8_as ∈ z_tb := z_in 450 (by decide +kernel) (by decide +kernel)
theorem zm_X8_113 : Cond.methodLink RX8 113 yX3_isKind ∈ z_tb := z_in 454 (by decide +kernel) (by decide +kernel)
theorem zm_X8_122 : Cond.methodLink RX8 122 yX3_isSuch ∈ z_tb := z_in 457 (by decide +kernel) (by decide +kernel)
theorem zm_L_40 : Cond.methodLink RL 40 yX8_rise ∈ z_tb := z_in 460 (by decide +kernel) (by decide +kernel)
theorem zm_X8_126 : Cond.methodLink RX8 126 yX6_everyone ∈ z_tb := z_in 464 (by decide +kernel) (by decide +kernel)
theorem zm_X8_132 : Cond.methodLink RX8 132 yX6_whoCanGo ∈ z_tb := z_in 465 (by decide +kernel) (by decide +kernel)
theorem zm_X6_74 : Cond.methodLink RX6 74 yX6_gone ∈ z_tb := z_in 469 (by decide +kernel) (by decide +kernel)
theorem zm_X6_77 : Cond.methodLink RX6 77 yX6_countTogether ∈ z_tb := z_in 470 (by decide +kernel) (by decide +kernel)
theorem zm_X6_80 : Cond.methodLink RX6 80 yX6_hasFriendAmong ∈ z_tb := z_in 471 (by decide +kernel) (by decide +kernel)
theorem zm_X6_83 : Cond.methodLink RX6 83 yX6_needsOf ∈ z_tb := z_in 472 (by decide +kernel) (by decide +kernel)
theorem zm_X8_135 : Cond.methodLink RX8 135 yJ6_bitCount_0f7a4 ∈ z_tb := z_in 473 (by decide +kernel) (by decide +kernel)
theorem zm_L_44 : Cond.methodLink RL 44 yX8_hour ∈ z_tb := z_in 474 (by decide +kernel) (by decide +kernel)
theorem zm_X8_140 : Cond.methodLink RX8 140 yX8_hasParty ∈ z_tb := z_in 478 (by decide +kernel) (by decide +kernel)
theorem zm_X8_146 : Cond.methodLink RX8 146 yX6_letHourPass ∈ z_tb := z_in 482 (by decide +kernel) (by decide +kernel)
theorem zm_X6_93 : Cond.methodLink RX6 93 yJ6_bitCount_0f7a4 ∈ z_tb := z_in 486 (by decide +kernel) (by decide +kernel)
theorem zm_X6_98 : Cond.methodLink RX6 98 yJ9_max_7cf53 ∈ z_tb := z_in 487 (by decide +kernel) (by decide +kernel)
theorem zm_X6_103 : Cond.methodLink RX6 103 yX6_makeAllLessShy ∈ z_tb := z_in 488 (by decide +kernel) (by decide +kernel)
theorem zm_X6_89 : Cond.methodLink RX6 89 yX6_isHere ∈ z_tb := z_in 492 (by decide +kernel) (by decide +kernel)
theorem zm_X6_109 : Cond.methodLink RX6 109 yX6_makeLessShy ∈ z_tb := z_in 493 (by decide +kernel) (by decide +kernel)
theorem zm_X6_106 : Cond.methodLink RX6 106 yX6_goOneByOne ∈ z_tb := z_in 497 (by decide +kernel) (by decide +kernel)
theorem zm_X6_113 : Cond.methodLink RX6 113 yX6_whoCanGoAlone ∈ z_tb := z_in 501 (by decide +kernel) (by decide +kernel)
theorem zm_L_48 : Cond.methodLink RL 48 yX8_hint ∈ z_tb := z_in 505 (by decide +kernel) (by decide +kernel)
theorem zm_X8_152 : Cond.methodLink RX8 152 yX6_makeLessShy ∈ z_tb := z_in 509 (by decide +kernel) (by decide +kernel)
theorem zm_L_52 : Cond.methodLink RL 52 yX8_back ∈ z_tb := z_in 510 (by decide +kernel) (by decide +kernel)
theorem zm_L_56 : Cond.methodLink RL 56 yX8_feed ∈ z_tb := z_in 514 (by decide +kernel) (by decide +kernel)
theorem zm_L_60 : Cond.methodLink RL 60 yX8_turn ∈ z_tb := z_in 518 (by decide +kernel) (by decide +kernel)
theorem zm_L_65 : Cond.methodLink RL 65 yX8_most ∈ z_tb := z_in 522 (by decide +kernel) (by decide +kernel)
theorem zm_X8_162 : Cond.methodLink RX8 162 yX6_mostWhoRise ∈ z_tb := z_in 526 (by decide +kernel) (by decide +kernel)
theorem zm_X6_86 : Cond.methodLink RX6 86 yX6_whoCanGo ∈ z_tb := z_in 530 (by decide +kernel) (by decide +kernel)
theorem zm_L_69 : Cond.methodLink RL 69 yX8_least ∈ z_tb := z_in 531 (by decide +kernel) (by decide +kernel)
theorem zm_X8_165 : Cond.methodLink RX8 165 yX5_find ∈ z_tb := z_in 535 (by decide +kernel) (by decide +kernel)
theorem zm_X5_22 : Cond.methodLink RX5 22 yX5_isChoice ∈ z_tb := z_in 539 (by decide +kernel) (by decide +kernel)
theorem zm_X5_26 : Cond.methodLink RX5 26 yX6_whoCanGo ∈ z_tb := z_in 543 (by decide +kernel) (by decide +kernel)
theorem zm_X8_166 : Cond.methodLink RX8 166 yX5_fewest ∈ z_tb := z_in 544 (by decide +kernel) (by decide +kernel)
theorem zm_X5_30 : Cond.methodLink RX5 30 yJ6_bitCount_0f7a4 ∈ z_tb := z_in 548 (by decide +kernel) (by decide +kernel)
theorem zm_L_73 : Cond.methodLink RL 73 yX8_hire ∈ z_tb := z_in 549 (by decide +kernel) (by decide +kernel)
theorem zm_X8_169 : Cond.methodLink RX8 169 yX8_whoShouldBePale ∈ z_tb := z_in 553 (by decide +kernel) (by decide +kernel)
theorem zm_L_77 : Cond.methodLink RL 77 yX8_ends ∈ z_tb := z_in 557 (by decide +kernel) (by decide +kernel)
theorem zm_X8_172 : Cond.methodLink RX8 172 yX6_copyFrom ∈ z_tb := z_in 561 (by decide +kernel) (by decide +kernel)
theorem zm_L_81 : Cond.methodLink RL 81 yX8_odds ∈ z_tb := z_in 568 (by decide +kernel) (by decide +kernel)
theorem zm_X8_175 : Cond.methodLink RX8 175 yX0_find ∈ z_tb := z_in 572 (by decide +kernel) (by decide +kernel)
theorem zm_X0_21 : Cond.methodLink RX0 21 yJ6_bitCount_0f7a4 ∈ z_tb := z_in 576 (by decide +kernel) (by decide +kernel)
theorem zm_X0_27 : Cond.methodLink RX0 27 yX0_weigh ∈ z_tb := z_in 577 (by decide +kernel) (by decide +kernel)
theorem zm_X0_48 : Cond.methodLink RX0 48 yX0_power ∈ z_tb := z_in 581 (by decide +kernel) (by decide +kernel)
theorem zm_X0_37 : Cond.methodLink RX0 37 yX5_isChoice ∈ z_tb := z_in 584 (by decide +kernel) (by decide +kernel)
theorem zm_X0_45 : Cond.methodLink RX0 45 yX0_weightOf ∈ z_tb := z_in 586 (by decide +kernel) (by decide +kernel)
theorem zm_X0_55 : Cond.methodLink RX0 55 yX0_reduce ∈ z_tb := z_in 590 (by decide +kernel) (by decide +kernel)
theorem zm_X0_58 : Cond.methodLink RX0 58 yX0_commonDivisor ∈ z_tb := z_in 594 (by decide +kernel) (by decide +kernel)
theorem zm_L_85 : Cond.methodLink RL 85 yX8_see ∈ z_tb := z_in 597 (by decide +kernel) (by decide +kernel)
theorem zm_X8_187 : Cond.methodLink RX8 187 yX7_add ∈ z_tb := z_in 601 (by decide +kernel) (by decide +kernel)
theorem zm_L_90 : Cond.methodLink RL 90 yX8_forget ∈ z_tb := z_in 605 (by decide +kernel) (by decide +kernel)
theorem zm_L_94 : Cond.methodLink RL 94 yX8_nights ∈ z_tb := z_in 609 (by decide +kernel) (by decide +kernel)
theorem zm_X8_191 : Cond.methodLink RX8 191 yX8_tryNights ∈ z_tb := z_in 613 (by decide +kernel) (by decide +kernel)
theorem zm_X8_253 : Cond.methodLink RX8 253 yX1_next ∈ z_tb := z_in 617 (by decide +kernel) (by decide +kernel)
theorem zk_X1_7 : Cond.constantLong RX1 7 (1103515245) ∈ z_tb := z_in 621 (by decide +kernel) (by decide +kernel)
theorem zk_X1_15 : Cond.constantLong RX1 15 (12345) ∈ z_tb := z_in 622 (by decide +kernel) (by decide +kernel)
theorem zk_X1_17 : Cond.constantLong RX1 17 (2147483648) ∈ z_tb := z_in 623 (by decide +kernel) (by decide +kernel)
theorem zk_X1_19 : Cond.constant RX1 19 (65536) ∈ z_tb := z_in 624 (by decide +kernel) (by decide +kernel)
theorem zm_X8_195 : Cond.methodLink RX8 195 yX6_gone ∈ z_tb := z_in 625 (by decide +kernel) (by decide +kernel)
theorem zm_L_98 : Cond.methodLink RL 98 yX8_image ∈ z_tb := z_in 626 (by decide +kernel) (by decide +kernel)
theorem zm_X8_201 : Cond.methodLink RX8 201 yX7_copyFrom ∈ z_tb := z_in 630 (by decide +kernel) (by decide +kernel)
theorem zm_L_102 : Cond.methodLink RL 102 yX8_restore ∈ z_tb := z_in 634 (by decide +kernel) (by decide +kernel)
theorem zm_L_106 : Cond.methodLink RL 106 yX8_count ∈ z_tb := z_in 638 (by decide +kernel) (by decide +kernel)
theorem zm_X8_204 : Cond.methodLink RX8 204 yX6_shyTogether ∈ z_tb := z_in 642 (by decide +kernel) (by decide +kernel)
theorem zm_X8_207 : Cond.methodLink RX8 207 yX6_countTogether ∈ z_tb := z_in 646 (by decide +kernel) (by decide +kernel)
theorem zm_X8_210 : Cond.methodLink RX8 210 yX6_whoCanGoAlone ∈ z_tb := z_in 647 (by decide +kernel) (by decide +kernel)
theorem zm_L_110 : Cond.methodLink RL 110 yX8_digest ∈ z_tb := z_in 648 (by decide +kernel) (by decide +kernel)
theorem zk_X8_213 : Cond.constantLong RX8 213 (1277) ∈ z_tb := z_in 652 (by decide +kernel) (by decide +kernel)
theorem zm_X8_215 : Cond.methodLink RX8 215 yX8_mixGuests ∈ z_tb := z_in 653 (by decide +kernel) (by decide +kernel)
theorem zm_X8_228 : Cond.methodLink RX8 228 yX8_mix ∈ z_tb := z_in 657 (by decide +kernel) (by decide +kernel)
theorem zk_X8_265 : Cond.constantLong RX8 265 (31) ∈ z_tb := z_in 660 (by decide +kernel) (by decide +kernel)
theorem zm_X8_219 : Cond.methodLink RX8 219 yX8_mixWouldBe ∈ z_tb := z_in 661 (by decide +kernel) (by decide +kernel)
theorem zm_X8_256 : Cond.methodLink RX8 256 yX8_most ∈ z_tb := z_in 665 (by decide +kernel) (by decide +kernel)
theorem zm_X8_259 : Cond.methodLink RX8 259 yX8_hire ∈ z_tb := z_in 666 (by decide +kernel) (by decide +kernel)
theorem zm_X8_262 : Cond.methodLink RX8 262 yX8_ends ∈ z_tb := z_in 667 (by decide +kernel) (by decide +kernel)
theorem zm_X8_222 : Cond.methodLink RX8 222 yX8_mixOdds ∈ z_tb := z_in 668 (by decide +kernel) (by decide +kernel)
theorem zm_X8_225 : Cond.methodLink RX8 225 yX4_at ∈ z_tb := z_in 672 (by decide +kernel) (by decide +kernel)
theorem zm_X8_232 : Cond.methodLink RX8 232 yX8_count ∈ z_tb := z_in 673 (by decide +kernel) (by decide +kernel)
theorem zm_L_12 : Cond.methodLink RL 12 yX9_init ∈ z_tb := z_in 676 (by decide +kernel) (by decide +kernel)
theorem zf_X9_95 : z_fw RX9 95 8 0 := ⟨RX9, TX9, 32, rfl, by decide, z_in 680 (by decide +kernel) (by decide +kernel), z_X9⟩
theorem zp_X9_95 : z_fp RX9 95 8 0 .int := ⟨RX9, TX9, 32, tyX9, rfl, by decide, z_in 680 (by decide +kernel) (by decide +kernel), z_X9, tyX9_ok, nmX9, rfl, by decide +kernel⟩
theorem zf_X9_83 : z_fw RX9 83 8 1 := ⟨RX9, TX9, 32, rfl, by decide, z_in 681 (by decide +kernel) (by decide +kernel), z_X9⟩
theorem zp_X9_83 : z_fp RX9 83 8 1 .int := ⟨RX9, TX9, 32, tyX9, rfl, by decide, z_in 681 (by decide +kernel) (by decide +kernel), z_X9, tyX9_ok, nmX9, rfl, by decide +kernel⟩
theorem zf_X9_86 : z_fw RX9 86 8 2 := ⟨RX9, TX9, 32, rfl, by decide, z_in 682 (by decide +kernel) (by decide +kernel), z_X9⟩
theorem zp_X9_86 : z_fp RX9 86 8 2 .int := ⟨RX9, TX9, 32, tyX9, rfl, by decide, z_in 682 (by decide +kernel) (by decide +kernel), z_X9, tyX9_ok, nmX9, rfl, by decide +kernel⟩
theorem zf_X9_92 : z_fw RX9 92 8 3 := ⟨RX9, TX9, 32, rfl, by decide, z_in 683 (by decide +kernel) (by decide +kernel), z_X9⟩
theorem zp_X9_92 : z_fp RX9 92 8 3 .int := ⟨RX9, TX9, 32, tyX9, rfl, by decide, z_in 683 (by decide +kernel) (by decide +kernel), z_X9, tyX9_ok, nmX9, rfl, by decide +kernel⟩
theorem zf_X9_89 : z_fw RX9 89 8 4 := ⟨RX9, TX9, 32, rfl, by decide, z_in 684 (by decide +kernel) (by decide +kernel), z_X9⟩
theorem zp_X9_89 : z_fp RX9 89 8 4 .int := ⟨RX9, TX9, 32, tyX9, rfl, by decide, z_in 684 (by decide +kernel) (by decide +kernel), z_X9, tyX9_ok, nmX9, rfl, by decide +kernel⟩
theorem zf_X9_7 : z_fw RX9 7 8 5 := ⟨RX9, TX9, 32, rfl, by decide, z_in 685 (by decide +kernel) (by decide +kernel), z_X9⟩
theorem zf_X9_13 : z_fw RX9 13 8 6 := ⟨RX9, TX9, 32, rfl, by decide, z_in 686 (by decide +kernel) (by decide +kernel), z_X9⟩
theorem zf_X9_16 : z_fw RX9 16 8 7 := ⟨RX9, TX9, 32, rfl, by decide, z_in 687 (by decide +kernel) (by decide +kernel), z_X9⟩
theorem zf_X9_98 : z_fw RX9 98 8 8 := ⟨RX9, TX9, 32, rfl, by decide, z_in 688 (by decide +kernel) (by decide +kernel), z_X9⟩
theorem zp_X9_98 : z_fp RX9 98 8 8 .int := ⟨RX9, TX9, 32, tyX9, rfl, by decide, z_in 688 (by decide +kernel) (by decide +kernel), z_X9, tyX9_ok, nmX9, rfl, by decide +kernel⟩
theorem zf_X9_19 : z_fw RX9 19 8 9 := ⟨RX9, TX9, 32, rfl, by decide, z_in 689 (by decide +kernel) (by decide +kernel), z_X9⟩
theorem zf_X9_22 : z_fw RX9 22 8 10 := ⟨RX9, TX9, 32, rfl, by decide, z_in 690 (by decide +kernel) (by decide +kernel), z_X9⟩
theorem zf_X9_25 : z_fw RX9 25 8 11 := ⟨RX9, TX9, 32, rfl, by decide, z_in 691 (by decide +kernel) (by decide +kernel), z_X9⟩
theorem zf_X9_54 : z_fw RX9 54 8 12 := ⟨RX9, TX9, 32, rfl, by decide, z_in 692 (by decide +kernel) (by decide +kernel), z_X9⟩
theorem zp_X9_54 : z_fp RX9 54 8 12 .int := ⟨RX9, TX9, 32, tyX9, rfl, by decide, z_in 692 (by decide +kernel) (by decide +kernel), z_X9, tyX9_ok, nmX9, rfl, by decide +kernel⟩
theorem zf_X9_28 : z_fw RX9 28 8 13 := ⟨RX9, TX9, 32, rfl, by decide, z_in 693 (by decide +kernel) (by decide +kernel), z_X9⟩
theorem zf_X9_72 : z_fw RX9 72 8 14 := ⟨RX9, TX9, 32, rfl, by decide, z_in 694 (by decide +kernel) (by decide +kernel), z_X9⟩
theorem zp_X9_72 : z_fp RX9 72 8 14 .boolean := ⟨RX9, TX9, 32, tyX9, rfl, by decide, z_in 694 (by decide +kernel) (by decide +kernel), z_X9, tyX9_ok, nmX9, rfl, by decide +kernel⟩
theorem zf_X9_69 : z_fw RX9 69 8 15 := ⟨RX9, TX9, 32, rfl, by decide, z_in 695 (by decide +kernel) (by decide +kernel), z_X9⟩
theorem zp_X9_69 : z_fp RX9 69 8 15 .int := ⟨RX9, TX9, 32, tyX9, rfl, by decide, z_in 695 (by decide +kernel) (by decide +kernel), z_X9, tyX9_ok, nmX9, rfl, by decide +kernel⟩
theorem zf_X9_32 : z_fw RX9 32 8 16 := ⟨RX9, TX9, 32, rfl, by decide, z_in 696 (by decide +kernel) (by decide +kernel), z_X9⟩
theorem zf_X9_183 : z_fw RX9 183 8 17 := ⟨RX9, TX9, 32, rfl, by decide, z_in 697 (by decide +kernel) (by decide +kernel), z_X9⟩
theorem zp_X9_183 : z_fp RX9 183 8 17 .int := ⟨RX9, TX9, 32, tyX9, rfl, by decide, z_in 697 (by decide +kernel) (by decide +kernel), z_X9, tyX9_ok, nmX9, rfl, by decide +kernel⟩
theorem zf_X9_186 : z_fw RX9 186 8 18 := ⟨RX9, TX9, 32, rfl, by decide, z_in 698 (by decide +kernel) (by decide +kernel), z_X9⟩
theorem zp_X9_186 : z_fp RX9 186 8 18 .int := ⟨RX9, TX9, 32, tyX9, rfl, by decide, z_in 698 (by decide +kernel) (by decide +kernel), z_X9, tyX9_ok, nmX9, rfl, by decide +kernel⟩
theorem zf_X9_210 : z_fw RX9 210 8 19 := ⟨RX9, TX9, 32, rfl, by decide, z_in 699 (by decide +kernel) (by decide +kernel), z_X9⟩
theorem zp_X9_210 : z_fp RX9 210 8 19 .long := ⟨RX9, TX9, 32, tyX9, rfl, by decide, z_in 699 (by decide +kernel) (by decide +kernel), z_X9, tyX9_ok, nmX9, rfl, by decide +kernel⟩
theorem zf_X9_229 : z_fw RX9 229 8 20 := ⟨RX9, TX9, 32, rfl, by decide, z_in 700 (by decide +kernel) (by decide +kernel), z_X9⟩
theorem zp_X9_229 : z_fp RX9 229 8 20 .boolean := ⟨RX9, TX9, 32, tyX9, rfl, by decide, z_in 700 (by decide +kernel) (by decide +kernel), z_X9, tyX9_ok, nmX9, rfl, by decide +kernel⟩
theorem zf_X9_232 : z_fw RX9 232 8 21 := ⟨RX9, TX9, 32, rfl, by decide, z_in 701 (by decide +kernel) (by decide +kernel), z_X9⟩
theorem zp_X9_232 : z_fp RX9 232 8 21 .int := ⟨RX9, TX9, 32, tyX9, rfl, by decide, z_in 701 (by decide +kernel) (by decide +kernel), z_X9, tyX9_ok, nmX9, rfl, by decide +kernel⟩
theorem zf_X9_235 : z_fw RX9 235 8 22 := ⟨RX9, TX9, 32, rfl, by decide, z_in 702 (by decide +kernel) (by decide +kernel), z_X9⟩
theorem zp_X9_235 : z_fp RX9 235 8 22 .int := ⟨RX9, TX9, 32, tyX9, rfl, by decide, z_in 702 (by decide +kernel) (by decide +kernel), z_X9, tyX9_ok, nmX9, rfl, by decide +kernel⟩
theorem zf_X9_238 : z_fw RX9 238 8 23 := ⟨RX9, TX9, 32, rfl, by decide, z_in 703 (by decide +kernel) (by decide +kernel), z_X9⟩
theorem zp_X9_238 : z_fp RX9 238 8 23 .int := ⟨RX9, TX9, 32, tyX9, rfl, by decide, z_in 703 (by decide +kernel) (by decide +kernel), z_X9, tyX9_ok, nmX9, rfl, by decide +kernel⟩
theorem zf_X9_241 : z_fw RX9 241 8 24 := ⟨RX9, TX9, 32, rfl, by decide, z_in 704 (by decide +kernel) (by decide +kernel), z_X9⟩
theorem zp_X9_241 : z_fp RX9 241 8 24 .int := ⟨RX9, TX9, 32, tyX9, rfl, by decide, z_in 704 (by decide +kernel) (by decide +kernel), z_X9, tyX9_ok, nmX9, rfl, by decide +kernel⟩
theorem zf_X9_244 : z_fw RX9 244 8 25 := ⟨RX9, TX9, 32, rfl, by decide, z_in 705 (by decide +kernel) (by decide +kernel), z_X9⟩
theorem zp_X9_244 : z_fp RX9 244 8 25 .int := ⟨RX9, TX9, 32, tyX9, rfl, by decide, z_in 705 (by decide +kernel) (by decide +kernel), z_X9, tyX9_ok, nmX9, rfl, by decide +kernel⟩
theorem zf_X9_35 : z_fw RX9 35 8 26 := ⟨RX9, TX9, 32, rfl, by decide, z_in 706 (by decide +kernel) (by decide +kernel), z_X9⟩
theorem zf_X9_38 : z_fw RX9 38 8 27 := ⟨RX9, TX9, 32, rfl, by decide, z_in 707 (by decide +kernel) (by decide +kernel), z_X9⟩
theorem zf_X9_41 : z_fw RX9 41 8 28 := ⟨RX9, TX9, 32, rfl, by decide, z_in 708 (by decide +kernel) (by decide +kernel), z_X9⟩
theorem zf_X9_44 : z_fw RX9 44 8 29 := ⟨RX9, TX9, 32, rfl, by decide, z_in 709 (by decide +kernel) (by decide +kernel), z_X9⟩
theorem zf_X9_47 : z_fw RX9 47 8 30 := ⟨RX9, TX9, 32, rfl, by decide, z_in 710 (by decide +kernel) (by decide +kernel), z_X9⟩
theorem zf_X9_258 : z_fw RX9 258 8 31 := ⟨RX9, TX9, 32, rfl, by decide, z_in 711 (by decide +kernel) (by decide +kernel), z_X9⟩
theorem zp_X9_258 : z_fp RX9 258 8 31 .long := ⟨RX9, TX9, 32, tyX9, rfl, by decide, z_in 711 (by decide +kernel) (by decide +kernel), z_X9, tyX9_ok, nmX9, rfl, by decide +kernel⟩
theorem zm_L_17 : Cond.methodLink RL 17 yX9_letter ∈ z_tb := z_in 777 (by decide +kernel) (by decide +kernel)
theorem zm_X9_50 : Cond.methodLink RX9 50 yX9_within ∈ z_tb := z_in 781 (by decide +kernel) (by decide +kernel)
theorem zm_L_22 : Cond.methodLink RL 22 yX9_blank ∈ z_tb := z_in 784 (by decide +kernel) (by decide +kernel)
theorem zm_L_26 : Cond.methodLink RL 26 yX9_fault ∈ z_tb := z_in 788 (by decide +kernel) (by decide +kernel)
theorem zm_X9_79 : Cond.methodLink RX9 79 yX9_read ∈ z_tb := z_in 792 (by decide +kernel) (by decide +kernel)
theorem zm_X9_65 : Cond.methodLink RX9 65 yX9_isFigure ∈ z_tb := z_in 796 (by decide +kernel) (by decide +kernel)
theorem zm_X9_58 : Cond.methodLink RX9 58 yX9_at ∈ z_tb := z_in 800 (by decide +kernel) (by decide +kernel)
theorem zm_X9_76 : Cond.methodLink RX9 76 yX9_readGuest ∈ z_tb := z_in 804 (by decide +kernel) (by decide +kernel)
theorem zm_X9_62 : Cond.methodLink RX9 62 yX9_kindBy ∈ z_tb := z_in 808 (by decide +kernel) (by decide +kernel)
theorem zm_L_30 : Cond.methodLink RL 30 yX9_party ∈ z_tb := z_in 811 (by decide +kernel) (by decide +kernel)
theorem zm_L_35 : Cond.methodLink RL 35 yX9_guest ∈ z_tb := z_in 815 (by decide +kernel) (by decide +kernel)
theorem zm_X9_144 : Cond.methodLink RX9 144 yX9_isGuest ∈ z_tb := z_in 819 (by decide +kernel) (by decide +kernel)
theorem zm_X9_148 : Cond.methodLink RX9 148 yX9_guestNow ∈ z_tb := z_in 823 (by decide +kernel) (by decide +kernel)
theorem zm_X9_105 : Cond.methodLink RX9 105 yX9_isIn ∈ z_tb := z_in 827 (by decide +kernel) (by decide +kernel)
theorem zm_X9_126 : Cond.methodLink RX9 126 yX9_needs ∈ z_tb := z_in 830 (by decide +kernel) (by decide +kernel)
theorem zm_X9_101 : Cond.methodLink RX9 101 yX9_needsBy ∈ z_tb := z_in 834 (by decide +kernel) (by decide +kernel)
theorem zm_X9_108 : Cond.methodLink RX9 108 yX9_counts ∈ z_tb := z_in 837 (by decide +kernel) (by decide +kernel)
theorem zm_X9_135 : Cond.methodLink RX9 135 yX9_shynessOf ∈ z_tb := z_in 841 (by decide +kernel) (by decide +kernel)
theorem zm_X9_205 : Cond.methodLink RX9 205 yX9_wouldGo ∈ z_tb := z_in 845 (by decide +kernel) (by decide +kernel)
theorem zm_X9_138 : Cond.methodLink RX9 138 yX9_askOf ∈ z_tb := z_in 849 (by decide +kernel) (by decide +kernel)
theorem zk_X9_173 : Cond.constant RX9 173 (268435456) ∈ z_tb := z_in 853 (by decide +kernel) (by decide +kernel)
theorem zm_X9_154 : Cond.methodLink RX9 154 yX9_size ∈ z_tb := z_in 854 (by decide +kernel) (by decide +kernel)
theorem zm_X9_141 : Cond.methodLink RX9 141 yX9_homeFor ∈ z_tb := z_in 857 (by decide +kernel) (by decide +kernel)
theorem zm_X9_177 : Cond.methodLink RX9 177 yX9_hintsIn ∈ z_tb := z_in 861 (by decide +kernel) (by decide +kernel)
theorem zm_X9_120 : Cond.methodLink RX9 120 yX9_hasFriend ∈ z_tb := z_in 865 (by decide +kernel) (by decide +kernel)
theorem zm_X9_114 : Cond.methodLink RX9 114 yX9_gone ∈ z_tb := z_in 869 (by decide +kernel) (by decide +kernel)
theorem zm_X9_111 : Cond.methodLink RX9 111 yX9_all ∈ z_tb := z_in 873 (by decide +kernel) (by decide +kernel)
theorem zm_X9_123 : Cond.methodLink RX9 123 yX9_othersFor ∈ z_tb := z_in 877 (by decide +kernel) (by decide +kernel)
theorem zm_X9_117 : Cond.methodLink RX9 117 yX9_countsOf ∈ z_tb := z_in 881 (by decide +kernel) (by decide +kernel)
theorem zm_X9_174 : Cond.methodLink RX9 174 yX9_hintsFor ∈ z_tb := z_in 885 (by decide +kernel) (by decide +kernel)
theorem zm_L_39 : Cond.methodLink RL 39 yX9_as ∈ z_tb := z_in 889 (by decide +kernel) (by decide +kernel)
theorem zm_L_43 : Cond.methodLink RL 43 yX9_rise ∈ z_tb := z_in 893 (by decide +kernel) (by decide +kernel)
theorem zm_X9_151 : Cond.methodLink RX9 151 yX9_canRise ∈ z_tb := z_in 897 (by decide +kernel) (by decide +kernel)
theorem zm_X9_129 : Cond.methodLink RX9 129 yX9_canGo ∈ z_tb := z_in 901 (by decide +kernel) (by decide +kernel)
theorem zm_L_47 : Cond.methodLink RL 47 yX9_hour ∈ z_tb := z_in 905 (by decide +kernel) (by decide +kernel)
theorem zm_X9_164 : Cond.methodLink RX9 164 yX9_goHour ∈ z_tb := z_in 909 (by decide +kernel) (by decide +kernel)
theorem zm_X9_157 : Cond.methodLink RX9 157 yX9_shyLess ∈ z_tb := z_in 913 (by decide +kernel) (by decide +kernel)
theorem zm_X9_161 : Cond.methodLink RX9 161 yX9_firstAlone ∈ z_tb := z_in 917 (by decide +kernel) (by decide +kernel)
theorem zm_L_51 : Cond.methodLink RL 51 yX9_hint ∈ z_tb := z_in 921 (by decide +kernel) (by decide +kernel)
theorem zm_L_55 : Cond.methodLink RL 55 yX9_back ∈ z_tb := z_in 925 (by decide +kernel) (by decide +kernel)
theorem zm_L_59 : Cond.methodLink RL 59 yX9_feed ∈ z_tb := z_in 929 (by decide +kernel) (by decide +kernel)
theorem zm_L_64 : Cond.methodLink RL 64 yX9_turn ∈ z_tb := z_in 933 (by decide +kernel) (by decide +kernel)
theorem zm_L_68 : Cond.methodLink RL 68 yX9_most ∈ z_tb := z_in 937 (by decide +kernel) (by decide +kernel)
theorem zm_X9_167 : Cond.methodLink RX9 167 yX9_mostOf ∈ z_tb := z_in 941 (by decide +kernel) (by decide +kernel)
theorem zm_X9_132 : Cond.methodLink RX9 132 yX9_withoutStuck ∈ z_tb := z_in 945 (by decide +kernel) (by decide +kernel)
theorem zm_L_72 : Cond.methodLink RL 72 yX9_least ∈ z_tb := z_in 949 (by decide +kernel) (by decide +kernel)
theorem zm_X9_170 : Cond.methodLink RX9 170 yX9_leastNow ∈ z_tb := z_in 953 (by decide +kernel) (by decide +kernel)
theorem zm_L_76 : Cond.methodLink RL 76 yX9_hire ∈ z_tb := z_in 957 (by decide +kernel) (by decide +kernel)
theorem zm_X9_180 : Cond.methodLink RX9 180 yX9_hired ∈ z_tb := z_in 961 (by decide +kernel) (by decide +kernel)
theorem zm_L_80 : Cond.methodLink RL 80 yX9_ends ∈ z_tb := z_in 965 (by decide +kernel) (by decide +kernel)
theorem zm_X9_195 : Cond.methodLink RX9 195 yX9_endsNow ∈ z_tb := z_in 969 (by decide +kernel) (by decide +kernel)
theorem zm_X9_189 : Cond.methodLink RX9 189 yX9_save ∈ z_tb := z_in 973 (by decide +kernel) (by decide +kernel)
theorem zm_X9_192 : Cond.methodLink RX9 192 yX9_load ∈ z_tb := z_in 977 (by decide +kernel) (by decide +kernel)
theorem zm_L_84 : Cond.methodLink RL 84 yX9_odds ∈ z_tb := z_in 981 (by decide +kernel) (by decide +kernel)
theorem zm_X9_201 : Cond.methodLink RX9 201 yX9_oddsNow ∈ z_tb := z_in 985 (by decide +kernel) (by decide +kernel)
theorem zm_X9_198 : Cond.methodLink RX9 198 yX9_divisor ∈ z_tb := z_in 989 (by decide +kernel) (by decide +kernel)
theorem zm_L_89 : Cond.methodLink RL 89 yX9_see ∈ z_tb := z_in 992 (by decide +kernel) (by decide +kernel)
theorem zm_L_93 : Cond.methodLink RL 93 yX9_forget ∈ z_tb := z_in 996 (by decide +kernel) (by decide +kernel)
theorem zm_L_97 : Cond.methodLink RL 97 yX9_nights ∈ z_tb := z_in 1000 (by decide +kernel) (by decide +kernel)
theorem zm_X9_226 : Cond.methodLink RX9 226 yX9_nightsNow ∈ z_tb := z_in 1004 (by decide +kernel) (by decide +kernel)
theorem zm_X9_223 : Cond.methodLink RX9 223 yX9_goNight ∈ z_tb := z_in 1008 (by decide +kernel) (by decide +kernel)
theorem zm_X9_220 : Cond.methodLink RX9 220 yX9_draw ∈ z_tb := z_in 1012 (by decide +kernel) (by decide +kernel)
theorem zk_X9_208 : Cond.constantLong RX9 208 (1103515245) ∈ z_tb := z_in 1016 (by decide +kernel) (by decide +kernel)
theorem zk_X9_214 : Cond.constantLong RX9 214 (12345) ∈ z_tb := z_in 1017 (by decide +kernel) (by decide +kernel)
theorem zk_X9_216 : Cond.constantLong RX9 216 (2147483647) ∈ z_tb := z_in 1018 (by decide +kernel) (by decide +kernel)
theorem zk_X9_218 : Cond.constantLong RX9 218 (65536) ∈ z_tb := z_in 1019 (by decide +kernel) (by decide +kernel)
theorem zm_L_101 : Cond.methodLink RL 101 yX9_image ∈ z_tb := z_in 1020 (by decide +kernel) (by decide +kernel)
theorem zm_L_105 : Cond.methodLink RL 105 yX9_restore ∈ z_tb := z_in 1024 (by decide +kernel) (by decide +kernel)
theorem zm_L_109 : Cond.methodLink RL 109 yX9_count ∈ z_tb := z_in 1028 (by decide +kernel) (by decide +kernel)
theorem zm_X9_253 : Cond.methodLink RX9 253 yX9_howMany ∈ z_tb := z_in 1032 (by decide +kernel) (by decide +kernel)
theorem zm_X9_247 : Cond.methodLink RX9 247 yX9_shyAll ∈ z_tb := z_in 1036 (by decide +kernel) (by decide +kernel)
theorem zm_X9_250 : Cond.methodLink RX9 250 yX9_alone ∈ z_tb := z_in 1040 (by decide +kernel) (by decide +kernel)
theorem zm_L_114 : Cond.methodLink RL 114 yX9_digest ∈ z_tb := z_in 1044 (by decide +kernel) (by decide +kernel)
theorem zk_X9_265 : Cond.constantLong RX9 265 (1277) ∈ z_tb := z_in 1048 (by decide +kernel) (by decide +kernel)
theorem zm_X9_261 : Cond.methodLink RX9 261 yX9_mix ∈ z_tb := z_in 1049 (by decide +kernel) (by decide +kernel)
theorem zk_X9_256 : Cond.constantLong RX9 256 (31) ∈ z_tb := z_in 1053 (by decide +kernel) (by decide +kernel)
theorem zm_X9_267 : Cond.methodLink RX9 267 yX9_mixParty ∈ z_tb := z_in 1054 (by decide +kernel) (by decide +kernel)
theorem zg_J0_9 : Cond.fieldLink RJ0 9 "java/lang/String" "value" "[B" ∈ z_tb := z_in 1058 (by decide +kernel) (by decide +kernel)
theorem zg_J0_15 : Cond.fieldLink RJ0 15 "java/lang/String" "coder" "B" ∈ z_tb := z_in 1059 (by decide +kernel) (by decide +kernel)
theorem z_ac : Cond.methodLink RX6 57 arraycopyName ∈ z_tb ∧ Cond.native arraycopyName ∈ z_tb ∧ Cond.static arraycopyName ∈ z_tb ∧ Cond.initialized "java/lang/System" ∈ z_tb := ⟨z_in 565 (by decide +kernel) (by decide +kernel), z_in 567 (by decide +kernel) (by decide +kernel), z_in 566 (by decide +kernel) (by decide +kernel), z_in 70 (by decide +kernel) (by decide +kernel)⟩
end
section
/-! THE PURE LAYER. The 44 cells of both objects have one fixed shape: cell i is an array (.inl (kind of element, length)) or an object (.inr (its class, its fields' codes: 0 int, 1 long, k + 2 the cell k)).
Cells 0..29: GrangeParty and all that hangs on it; 30..43: the reference. A heap is what the ints and longs in them are. Z: the machine, at pc, with these locals, this stack, this heap, comes to an end that K likes. -/
abbrev hp : Type := (Nat → Nat → Int32) × (Nat → Nat → Int64)
abbrev z_C : Type := (Nat × Nat) ⊕ (Nat × List Nat)
def z_sh : List z_C := [
  .inr (7, [3, 5, 9, 13, 17, 21, 25, 27, 29, 31, 0, 0]), .inr (3, [4, 0]), .inl (0, 36),
  .inr (5, [6, 7, 8, 0, 0, 0, 0]), .inl (0, 8), .inl (0, 8), .inl (0, 8),
  .inr (6, [10, 11, 12, 0]), .inl (0, 6), .inl (0, 6), .inl (2, 6),
  .inr (5, [14, 15, 16, 0, 0, 0, 0]), .inl (0, 8), .inl (0, 8), .inl (0, 8),
  .inr (6, [18, 19, 20, 0]), .inl (0, 6), .inl (0, 6), .inl (2, 6),
  .inr (5, [22, 23, 24, 0, 0, 0, 0]), .inl (0, 8), .inl (0, 8), .inl (0, 8),
  .inr (4, [26, 0]), .inl (0, 256),
  .inr (0, [28, 0, 0]), .inl (0, 8),
  .inr (2, [30]), .inl (0, 8),
  .inr (1, [0]),
  .inr (8, [0, 0, 0, 0, 0, 33, 34, 35, 0, 36, 37, 38, 0, 39, 0, 0, 40, 0, 0, 1, 0, 0, 0, 0, 0, 0, 41, 42, 43, 44, 45, 1]),
  .inl (0, 8), .inl (0, 8), .inl (0, 8), .inl (0, 6), .inl (0, 6), .inl (0, 6), .inl (1, 36), .inl (0, 8),
  .inl (0, 8), .inl (0, 8), .inl (0, 6), .inl (0, 6), .inl (0, 6)]
def z_v (ad : Nat → Nat) (v : Value) : Value := match v with
  | .ref i => .ref (ad i)
  | w => w
theorem z_v_cat (ad : Nat → Nat) (v : Value) : (z_v ad v).category = v.category := by cases v <;> rfl
def z_f (ad : Nat → Nat) (h : hp) (i j : Nat) (t : Nat) : Value := match t with
  | 0 => .int (h.1 i j)
  | 1 => .long (h.2 i j)
  | k + 2 => .ref (ad k)
def z_e (ad : Nat → Nat) (cA : Nat → ClassId) (h : hp) (i : Nat) (c : z_C) : va_E := match c with
  | .inl q => .inl (cA q.1, q.2, .inl (h.1 i))
  | .inr q => .inr (q.1, q.2.mapIdx (fun j t => z_f ad h i j t))
def z_w (ad : Nat → Nat) (cA : Nat → ClassId) (h : hp) : va_W := z_sh.mapIdx (fun i c => (ad i, z_e ad cA h i c))
def z_t (cA : Nat → ClassId) : List (ClassId × FieldType) := [(cA 0, .int), (cA 1, .byte), (cA 2, .boolean)]
def z_up (h : hp) (i j : Nat) (v : Int32) : hp := (va_up h.1 i (upd (h.1 i) j v), h.2)
def z_upL (h : hp) (i j : Nat) (v : Int64) : hp := (h.1, va_up h.2 i (vp_updL (h.2 i) j v))
def z_row (h : hp) (i : Nat) (f : Nat → Int32) : hp := (va_up h.1 i f, h.2)
theorem z_w_at {ad : Nat → Nat} {cA : Nat → ClassId} {h : hp} {i : Nat} {c : z_C} (hs : z_sh[i]? = some c) : (z_w ad cA h)[i]? = some (ad i, z_e ad cA h i c) := by
  unfold z_w
  rw [List.getElem?_mapIdx, hs]
  rfl
theorem z_w_set {ad : Nat → Nat} {cA : Nat → ClassId} {h h' : hp} {i : Nat} {c : z_C} {x : va_E} (hs : z_sh[i]? = some c) (hx : x = z_e ad cA h' i c) (ho : ∀ (j : Nat) (c' : z_C), j ≠ i → z_e ad cA h' j c' = z_e ad cA h j c') : (z_w ad cA h).set i (ad i, x) = z_w ad cA h' := by
  subst hx
  apply List.ext_getElem?
  intro j
  have hl : i < (z_w ad cA h).length := by
    have := (List.getElem?_eq_some_iff.mp hs).1
    simpa [z_w] using this
  by_cases hj : j = i
  · subst hj
    rw [List.getElem?_set_self hl, z_w_at hs]
  · rw [List.getElem?_set_ne (Ne.symm hj)]
    unfold z_w
    rw [List.getElem?_mapIdx, List.getElem?_mapIdx]
    cases hz : z_sh[j]? with
    | none => rfl
    | some c' => simp only [Option.map_some]; rw [ho j c' hj]
theorem z_e_row {ad : Nat → Nat} {cA : Nat → ClassId} {h : hp} {i j : Nat} {f : Nat → Int32} {c' : z_C} (hj : j ≠ i) : z_e ad cA (z_row h i f) j c' = z_e ad cA h j c' := by
  have e : va_up h.1 i f j = h.1 j := by simp [va_up, hj]
  cases c' with
  | inl q => simp only [z_e, z_row, e]
  | inr q =>
    simp only [z_e]
    congr 2
    apply List.ext_getElem?
    intro n
    rw [List.getElem?_mapIdx, List.getElem?_mapIdx]
    congr 1
    funext t
    match t with
    | 0 => simp only [z_f, z_row, e]
    | 1 => rfl
    | k + 2 => rfl
theorem z_e_upL {ad : Nat → Nat} {cA : Nat → ClassId} {h : hp} {i j k : Nat} {v : Int64} {c' : z_C} (hj : j ≠ i) : z_e ad cA (z_upL h i k v) j c' = z_e ad cA h j c' := by
  have e : va_up h.2 i (vp_updL (h.2 i) k v) j = h.2 j := by simp [va_up, hj]
  cases c' with
  | inl q => rfl
  | inr q =>
    simp only [z_e]
    congr 2
    apply List.ext_getElem?
    intro n
    rw [List.getElem?_mapIdx, List.getElem?_mapIdx]
    congr 1
    funext t
    match t with
    | 0 => rfl
    | 1 => simp only [z_f, z_upL, e]
    | k + 2 => rfl
def z_l (ad : Nat → Nat) (lv : List (Nat × Value)) : List (Nat × Value) := lv.map (fun q => (q.1, z_v ad q.2))
theorem z_args (ad : Nat → Nat) : ∀ (as : List Value) (i : Nat), lv_args i (as.map (z_v ad)) = z_l ad (lv_args i as)
  | [], _ => rfl
  | a :: as, i => by
    simp only [List.map_cons, lv_args, z_v_cat, z_l]
    rw [z_args ad as]
    rfl
theorem z_slen (ad : Nat → Nat) : ∀ as : List Value, (lg_sl (as.map (z_v ad))).length = (lg_sl as).length
  | [] => rfl
  | a :: as => by
    have ih := z_slen ad as
    unfold lg_sl at ih ⊢
    simp only [List.map_cons, List.flatMap_cons, List.length_append, z_v_cat, ih]
    split <;> rfl
def z_get : List (Nat × Value) → Nat → Option Value
  | [], _ => none
  | q :: t, i => cond (Nat.beq q.1 i) (some q.2) (z_get t i)
def z_set : List (Nat × Value) → Nat → Value → List (Nat × Value)
  | [], i, v => [(i, v)]
  | q :: t, i, v => cond (Nat.beq q.1 i) ((i, v) :: t.filter (fun r => !(Nat.beq r.1 i))) (q :: z_set t i v)
/-- storing at i spoils no long that begins at i - 1 (and, of a long, nothing at i + 1) -/
def z_ok (lv : List (Nat × Value)) (i : Nat) (v : Value) : Bool := lv.all (fun q => !(Nat.beq (q.1 + 1) i && Nat.beq q.2.category 2) && !(Nat.beq q.1 (i + 1) && Nat.beq v.category 2))
theorem z_get_mem : ∀ {lv : List (Nat × Value)} {i : Nat} {v : Value}, z_get lv i = some v → (i, v) ∈ lv
  | [], _, _, h => by cases h
  | q :: t, i, v, h => by
    unfold z_get at h
    by_cases e : q.1 = i
    · have e2 : Nat.beq q.1 i = true := Nat.beq_eq.mpr e
      rw [e2] at h
      simp only [cond_true, Option.some.injEq] at h
      rw [← e, ← h]
      exact List.mem_cons_self
    · have e2 : Nat.beq q.1 i = false := by
        cases hb : Nat.beq q.1 i with
        | true => exact absurd (Nat.beq_eq.mp hb) e
        | false => rfl
      rw [e2] at h
      exact List.mem_cons_of_mem _ (z_get_mem h)
theorem z_set_mem : ∀ {lv : List (Nat × Value)} {i : Nat} {v : Value} {q : Nat × Value}, q ∈ z_set lv i v → q = (i, v) ∨ (q ∈ lv ∧ q.1 ≠ i)
  | [], i, v, q, h => by
    simp only [z_set, List.mem_singleton] at h
    exact Or.inl h
  | r :: t, i, v, q, h => by
    unfold z_set at h
    by_cases e : r.1 = i
    · rw [Nat.beq_eq.mpr e] at h
      simp only [cond_true, List.mem_cons, List.mem_filter] at h
      rcases h with h | ⟨h1, h2⟩
      · exact Or.inl h
      · refine Or.inr ⟨List.mem_cons_of_mem _ h1, fun z => ?_⟩
        rw [Nat.beq_eq.mpr z] at h2
        cases h2
    · have e2 : Nat.beq r.1 i = false := by
        cases hb : Nat.beq r.1 i with
        | true => exact absurd (Nat.beq_eq.mp hb) e
        | false => rfl
      rw [e2] at h
      simp only [cond_false, List.mem_cons] at h
      rcases h with h | h
      · subst h
        exact Or.inr ⟨List.mem_cons_self, e⟩
      · rcases z_set_mem h with h | ⟨h1, h2⟩
        · exact Or.inl h
        · exact Or.inr ⟨List.mem_cons_of_mem _ h1, h2⟩
theorem z_at {ad : Nat → Nat} {ls : Array Slot} {nL i : Nat} {lv : List (Nat × Value)} {v : Value} (hl : lv_has ls nL (z_l ad lv)) (h : z_get lv i = some v) : ls[i]? = some (.val (z_v ad v)) :=
  hl.2.2 (i, z_v ad v) (List.mem_map.mpr ⟨(i, v), z_get_mem h, rfl⟩)
theorem z_ok_mem {lv : List (Nat × Value)} {i : Nat} {v : Value} (ho : z_ok lv i v = true) {q : Nat × Value} (hq : q ∈ lv) : ¬ (q.1 + 1 = i ∧ q.2.category = 2) ∧ ¬ (q.1 = i + 1 ∧ v.category = 2) := by
  have h := List.all_eq_true.mp ho q hq
  simp only [Bool.and_eq_true, Bool.not_eq_true', Bool.and_eq_false_iff] at h
  refine ⟨fun z => ?_, fun z => ?_⟩
  · rcases h.1 with h1 | h1
    · rw [Nat.beq_eq.mpr z.1] at h1; cases h1
    · rw [Nat.beq_eq.mpr z.2] at h1; cases h1
  · rcases h.2 with h1 | h1
    · rw [Nat.beq_eq.mpr z.1] at h1; cases h1
    · rw [Nat.beq_eq.mpr z.2] at h1; cases h1
theorem z_st1 {ad : Nat → Nat} {ls : Array Slot} {nL i : Nat} {lv : List (Nat × Value)} {v : Value} (ho : z_ok lv i v = true) (h : lv_has ls nL ((i, z_v ad v) :: (z_l ad lv).filter (fun q => !(q.1 == i) && !(q.1 + 1 == i && q.2.category == 2)))) : lv_has ls nL (z_l ad (z_set lv i v)) := by
  refine ⟨h.1, h.2.1, fun q hq => h.2.2 q ?_⟩
  obtain ⟨r, hr, rfl⟩ := List.mem_map.mp hq
  rcases z_set_mem hr with h1 | ⟨h1, h2⟩
  · subst h1
    exact List.mem_cons_self
  · refine List.mem_cons_of_mem _ (List.mem_filter.mpr ⟨List.mem_map.mpr ⟨r, h1, rfl⟩, ?_⟩)
    have h3 := (z_ok_mem ho h1).1
    simp only [z_v_cat]
    simp only [Bool.and_eq_true, Bool.not_eq_true', beq_eq_false_iff_ne, Bool.and_eq_false_iff, ne_eq]
    refine ⟨h2, ?_⟩
    by_cases z : r.1 + 1 = i
    · exact Or.inr (fun w => h3 ⟨z, w⟩)
    · exact Or.inl z
theorem z_st2 {ad : Nat → Nat} {ls : Array Slot} {nL i : Nat} {lv : List (Nat × Value)} {x : Int64} (ho : z_ok lv i (.long x) = true) (h : lv_has ls nL ((i, .long x) :: (z_l ad lv).filter (fun q => !(q.1 == i) && (!(q.1 == i + 1) && !(q.1 + 1 == i && q.2.category == 2))))) : lv_has ls nL (z_l ad (z_set lv i (.long x))) := by
  refine ⟨h.1, h.2.1, fun q hq => h.2.2 q ?_⟩
  obtain ⟨r, hr, rfl⟩ := List.mem_map.mp hq
  rcases z_set_mem hr with h1 | ⟨h1, h2⟩
  · subst h1
    exact List.mem_cons_self
  · refine List.mem_cons_of_mem _ (List.mem_filter.mpr ⟨List.mem_map.mpr ⟨r, h1, rfl⟩, ?_⟩)
    have h3 := z_ok_mem ho h1
    simp only [z_v_cat]
    simp only [Bool.and_eq_true, Bool.not_eq_true', beq_eq_false_iff_ne, Bool.and_eq_false_iff, ne_eq]
    refine ⟨h2, fun z => h3.2 ⟨z, rfl⟩, ?_⟩
    by_cases z : r.1 + 1 = i
    · exact Or.inr (fun w => h3.1 ⟨z, w⟩)
    · exact Or.inl z
/-- what no walk changes, outside the cells: nest links, the text "gchpk" (cells 100, 101), two statics of the JDK -/
def z_X (ad : Nat → Nat) (A : Nat → Prop) (s : State) (H : Heap) : Prop :=
  va_Nw (.methodLinkNest RX6 63 yX8_isAmong RX8) s ∧ va_Nw (.methodLinkNest RX2 29 yX8_isAmong RX8) s ∧ va_Nw (.methodLinkNest RX0 41 yX8_isAmong RX8) s ∧ vk_R RX3 11 "gchpk" (ad 100) s ∧
  vk_S 1 [5] [[103, 99, 104, 112, 107]] (fun _ => ad 100) (fun _ => ad 101) A s H ∧ va_Z "java/lang/String" "COMPACT_STRINGS" "Z" (.int 1) A s H ∧
  ∃ vs : Value, (vs = .null ∨ vs = .ref 102) ∧ va_Z "jdk/internal/util/Preconditions" "SIOOBE_FORMATTER" "Ljava/util/function/BiFunction;" (z_v ad vs) A s H
theorem z_X.go {ad : Nat → Nat} {A B : Nat → Prop} {s U : State} {H H1 : Heap} (h : z_X ad A s H) (hW : s.WarmedH U.vm) (hq : ∀ q : Nat, q < H.size → ¬ A q → H1[q]? = H[q]?) (hAB : ∀ q, B q → A q) : z_X ad B U H1 := by
  obtain ⟨h1, h2, h3, h4, h5, h6, vs, h7, h8⟩ := h
  exact ⟨h1.warmM hW, h2.warmM hW, h3.warmM hW, h4.warm hW, ((h5.kept hq).narrow hAB).moved hW.alike, ((h6.kept hq).narrow hAB).moved hW.alike, vs, h7, ((h8.kept hq).narrow hAB).moved hW.alike⟩
theorem z_X.same {ad : Nat → Nat} {A : Nat → Prop} {u U : State} {H : Heap} (h : z_X ad A u H) (hv : u.vm = U.vm) : z_X ad A U H := by
  obtain ⟨h1, h2, h3, h4, h5, h6, vs, h7, h8⟩ := h
  have ha : u.vm.Alike U.vm := hv ▸ Vm.Alike.refl u.vm
  exact ⟨h1.same rfl hv, h2.same rfl hv, h3.same rfl hv, h4.same hv.symm, h5.moved ha, h6.moved ha, vs, h7, h8.moved ha⟩
def z_rm (d : Nat) : Room := { frames := d, cells := 0, slots := 0, locals := 38 * d }
def z_Q (D : va_G) (ad : Nat → Nat) (cA : Nat → ClassId) (A : Nat → Prop) (K : Option Value → hp → Prop) : Array Value → State → Outcome → State → Prop := fun _ st oc t =>
  (∃ (r : Option Value) (h : hp), oc = .returned (r.map (z_v ad)) ∧ K r h ∧ va_P D vwCl (z_w ad cA h) t.heap ∧ va_D A (z_w ad cA h)) ∧ va_F A st t
def z_cx (y : MethodName) (cc : ByteArray) (nL : Nat) (ret : Option FieldType) (p : Program) (s : State) (m : MethodId) (args : Array Value) (meth : Method) (c : Code) (D : va_G) (ad : Nat → Nat) (cA : Nat → ClassId) (A : Nat → Prop) : Prop :=
  p.tables.exec = Jvm.exec ∧ c.code = cc ∧ c.maxLocals = nL ∧ meth.sig.returnType = ret ∧ meth.locks = false ∧ s.vm.findClass y.cls = some m.cls ∧ (∀ w ∈ z_tb, w.before args s = true) ∧ (∀ q, s.heap.size ≤ q → A q) ∧ va_K D vwCl (z_t cA) s ∧ z_X ad A s s.heap
def Z (y : MethodName) (cc : ByteArray) (nL : Nat) (ret : Option FieldType) (d : Nat) (K : Option Value → hp → Prop) (pc : Nat) (lv : List (Nat × Value)) (st : List Value) (h : hp) : Prop :=
  ∀ (p : Program) (l : Launch) (e : Env) (s : State) (m : MethodId) (args : Array Value) (below : List Frame) (meth : Method) (c : Code) (D : va_G) (ad : Nat → Nat) (cA : Nat → ClassId) (A : Nat → Prop) (H : Heap) (locs : List Loc) (ls : Array Slot),
    z_cx y cc nL ret p s m args meth c D ad cA A → va_P D vwCl (z_w ad cA h) H → va_D A (z_w ad cA h) → va_S A s.heap H locs → lv_has ls nL (z_l ad lv) →
    W p l e (z_rm d) s m args below meth c H locs 0 0 (MQ below (z_Q D ad cA A K) args s 0 0 A) (F0 m pc ls (st.map (z_v ad)))
/-- a contract: called with these arguments in this heap, y comes back with what K likes -/
def Cn (y : MethodName) (cc : ByteArray) (nL : Nat) (ret : Option FieldType) (d : Nat) (as : List Value) (h : hp) (K : Option Value → hp → Prop) : Prop :=
  ∀ (l : Launch) (D : va_G) (ad : Nat → Nat) (cA : Nat → ClassId) (sz : Nat),
    Met l y (.code y cc nL ret :: z_tb) (z_rm d) (va_Pc (as.map (z_v ad)) (fun U => U.heap.size = sz ∧ va_P D vwCl (z_w ad cA h) U.heap ∧ va_K D vwCl (z_t cA) U ∧ va_D (fun _ => True) (z_w ad cA h) ∧ z_X ad (va_A (z_w ad cA h) sz) U U.heap))
      (z_Q D ad cA (va_A (z_w ad cA h) sz) K) 0 0 (va_A (z_w ad cA h) sz)
theorem Cn.of {y : MethodName} {cc : ByteArray} {nL : Nat} {ret : Option FieldType} {d : Nat} {as : List Value} {h : hp} {K : Option Value → hp → Prop} (hy : plainName y.cls = true) (hn : (lg_sl as).length ≤ nL) (hz : Z y cc nL ret d K 0 (lv_args 0 as) [] h) : Cn y cc nL ret d as h K := by
  intro l D ad cA sz
  refine Met.ofW (cc := cc) (maxL := nL) (ret := ret) hy rfl ?_
  intro p e s m args below meth c s₁ B hml hv
  obtain ⟨rfl, hsz, hP, hK, hD0, hX⟩ := hv
  have hts0 := atoms_spec (ws := .code y cc nL ret :: z_tb) B.pre
  have hts : ∀ w ∈ z_tb, w.before _ s = true := fun w hw => hts0 w (List.mem_cons_of_mem _ hw)
  have hown : s.vm.findClass y.cls = some m.cls := findClass_of_methodNamed B.named
  subst hsz
  have hD := hD0.self (sz := s.heap.size)
  have hl := lv_entry (as.map (z_v ad)) (n := nL) (by rw [z_slen]; exact hn)
  rw [z_args] at hl
  rw [lg_entry_eq]
  exact hz p l e s m _ below meth c D ad cA _ s.heap [] _ ⟨B.exec, B.bytes, hml, B.returns, B.notSynchronized, hown, hts, fun q hq => Or.inr hq, hK, hX⟩ hP hD va_S.rf hl
theorem Cn.mono {y : MethodName} {cc : ByteArray} {nL : Nat} {ret : Option FieldType} {d : Nat} {as : List Value} {h : hp} {K K' : Option Value → hp → Prop} (hc : Cn y cc nL ret d as h K) (hk : ∀ r h', K r h' → K' r h') : Cn y cc nL ret d as h K' := by
  intro l D ad cA sz
  have hm := hc l D ad cA sz
  intro p e ha hcc hk' s m args below hf happ hP hT
  obtain ⟨k, o, h1, h2, h3, hQ, hL⟩ := hm p e ha hcc hk' s m args below hf happ hP hT
  obtain ⟨⟨r, h', g1, g2, g3, g4⟩, g5⟩ := hQ
  exact ⟨k, o, h1, h2, h3, ⟨⟨r, h', g1, hk r h' g2, g3, g4⟩, g5⟩, hL⟩
section ZR
variable {y : MethodName} {cc : ByteArray} {nL : Nat} {ret : Option FieldType} {d : Nat} {K : Option Value → hp → Prop} {pc : Nat} {lv : List (Nat × Value)} {st : List Value} {h : hp}
theorem Z.eqS {st' : List Value} (e : st = st') (k : Z y cc nL ret d K pc lv st' h) : Z y cc nL ret d K pc lv st h := e ▸ k
theorem Z.eqH {h' : hp} (e : h = h') (k : Z y cc nL ret d K pc lv st h') : Z y cc nL ret d K pc lv st h := e ▸ k
theorem Z.eqL {lv' : List (Nat × Value)} (e : lv = lv') (k : Z y cc nL ret d K pc lv' st h) : Z y cc nL ret d K pc lv st h := e ▸ k
theorem Z.top {x x' : Int32} (e : x = x') (k : Z y cc nL ret d K pc lv (.int x' :: st) h) : Z y cc nL ret d K pc lv (.int x :: st) h := e ▸ k
theorem Z.topl {x x' : Int64} (e : x = x') (k : Z y cc nL ret d K pc lv (.long x' :: st) h) : Z y cc nL ret d K pc lv (.long x :: st) h := e ▸ k
theorem Z.less {lv' : List (Nat × Value)} (e : ∀ q ∈ lv', z_get lv q.1 = some q.2) (k : Z y cc nL ret d K pc lv' st h) : Z y cc nL ret d K pc lv st h := by
  intro p l e' s m args below meth c D ad cA A H locs ls cx hP hD hS hl
  refine k p l e' s m args below meth c D ad cA A H locs ls cx hP hD hS ⟨hl.1, hl.2.1, fun q hq => ?_⟩
  obtain ⟨r, hr, rfl⟩ := List.mem_map.mp hq
  exact z_at hl (e r hr)

def z_del : List (Nat × Value) → Nat → List (Nat × Value)
  | [], _ => []
  | q :: t, i => cond (Nat.beq q.1 i) (z_del t i) (q :: z_del t i)
theorem z_del_mem : ∀ {lv : List (Nat × Value)} {i : Nat} {q : Nat × Value}, q ∈ z_del lv i → q ∈ lv
  | [], _, _, h => h
  | r :: t, i, q, h => by
    unfold z_del at h
    cases hb : Nat.beq r.1 i with
    | true => rw [hb] at h; exact List.mem_cons_of_mem _ (z_del_mem h)
    | false =>
      rw [hb] at h
      rcases List.mem_cons.mp h with h | h
      · exact h ▸ List.mem_cons_self
      · exact List.mem_cons_of_mem _ (z_del_mem h)
theorem Z.drop (i : Nat) (k : Z y cc nL ret d K pc (z_del lv i) st h) : Z y cc nL ret d K pc lv st h := by
  intro p l e s m args below meth c D ad cA A H locs ls cx hP hD hS hl
  refine k p l e s m args below meth c D ad cA A H locs ls cx hP hD hS ⟨hl.1, hl.2.1, fun q hq => hl.2.2 q ?_⟩
  obtain ⟨r, hr, rfl⟩ := List.mem_map.mp hq
  exact List.mem_map.mpr ⟨r, z_del_mem hr, rfl⟩
theorem Z.iconst {n : Int} {v : Int32} (hd : decode cc pc = .ok (.iconst n, 1)) (hv : Int32.ofInt n = v) (k : Z y cc nL ret d K (pc + 1) lv (.int v :: st) h) : Z y cc nL ret d K pc lv st h := by
  intro p l e s m args below meth c D ad cA A H locs ls cx hP hD hS hl
  exact lv_iconst cx.1 cx.2.1 hd hv (k p l e s m args below meth c D ad cA A H locs ls cx hP hD hS hl)
theorem Z.bipush {n : Int} {v : Int32} (hd : decode cc pc = .ok (.bipush n, 2)) (hv : (Int8.ofInt n).toInt32 = v) (k : Z y cc nL ret d K (pc + 2) lv (.int v :: st) h) : Z y cc nL ret d K pc lv st h := by
  intro p l e s m args below meth c D ad cA A H locs ls cx hP hD hS hl
  exact lv_bipush cx.1 cx.2.1 hd hv (k p l e s m args below meth c D ad cA A H locs ls cx hP hD hS hl)
theorem Z.sipush {n : Int} {v : Int32} (hd : decode cc pc = .ok (.sipush n, 3)) (hv : (Int16.ofInt n).toInt32 = v) (k : Z y cc nL ret d K (pc + 3) lv (.int v :: st) h) : Z y cc nL ret d K pc lv st h := by
  intro p l e s m args below meth c D ad cA A H locs ls cx hP hD hS hl
  exact lv_sipush cx.1 cx.2.1 hd hv (k p l e s m args below meth c D ad cA A H locs ls cx hP hD hS hl)
theorem Z.lconst {n : Fin 2} {v : Int64} (hd : decode cc pc = .ok (.lconst n, 1)) (hv : Int64.ofNat (n : Nat) = v) (k : Z y cc nL ret d K (pc + 1) lv (.long v :: st) h) : Z y cc nL ret d K pc lv st h := by
  intro p l e s m args below meth c D ad cA A H locs ls cx hP hD hS hl
  exact lv_lconst cx.1 cx.2.1 hd hv (k p l e s m args below meth c D ad cA A H locs ls cx hP hD hS hl)
theorem Z.ldc {i : Nat} {v : Int32} (hd : decode cc pc = .ok (.ldc i, 2)) (hw : Cond.constant y.cls i v ∈ z_tb) (k : Z y cc nL ret d K (pc + 2) lv (.int v :: st) h) : Z y cc nL ret d K pc lv st h := by
  intro p l e s m args below meth c D ad cA A H locs ls cx hP hD hS hl
  exact lv_ldc cx.1 cx.2.1 cx.2.2.2.2.2.1 (cx.2.2.2.2.2.2.1 _ hw) hd (k p l e s m args below meth c D ad cA A H locs ls cx hP hD hS hl)
theorem Z.ldcw {i : Nat} {v : Int32} (hd : decode cc pc = .ok (.ldc_w i, 3)) (hw : Cond.constant y.cls i v ∈ z_tb) (k : Z y cc nL ret d K (pc + 3) lv (.int v :: st) h) : Z y cc nL ret d K pc lv st h := by
  intro p l e s m args below meth c D ad cA A H locs ls cx hP hD hS hl
  exact lv_ldcw cx.1 cx.2.1 cx.2.2.2.2.2.1 (cx.2.2.2.2.2.2.1 _ hw) hd (k p l e s m args below meth c D ad cA A H locs ls cx hP hD hS hl)
theorem Z.ldc2 {i : Nat} {v : Int64} (hd : decode cc pc = .ok (.ldc2_w i, 3)) (hw : Cond.constantLong y.cls i v ∈ z_tb) (k : Z y cc nL ret d K (pc + 3) lv (.long v :: st) h) : Z y cc nL ret d K pc lv st h := by
  intro p l e s m args below meth c D ad cA A H locs ls cx hP hD hS hl
  exact lv_ldc2 cx.1 cx.2.1 cx.2.2.2.2.2.1 (cx.2.2.2.2.2.2.1 _ hw) hd (k p l e s m args below meth c D ad cA A H locs ls cx hP hD hS hl)
theorem Z.iload_n {n : Fin 4} {i : Nat} {x : Int32} (hd : decode cc pc = .ok (.iload_n n, 1)) (hi : (n : Nat) = i) (hg : z_get lv i = some (.int x)) (k : Z y cc nL ret d K (pc + 1) lv (.int x :: st) h) : Z y cc nL ret d K pc lv st h := by
  intro p l e s m args below meth c D ad cA A H locs ls cx hP hD hS hl
  exact lv_iload_n cx.1 cx.2.1 hd hi (z_at hl hg) (k p l e s m args below meth c D ad cA A H locs ls cx hP hD hS hl)
theorem Z.iload {i : Nat} {x : Int32} (hd : decode cc pc = .ok (.iload i, 2)) (hg : z_get lv i = some (.int x)) (k : Z y cc nL ret d K (pc + 2) lv (.int x :: st) h) : Z y cc nL ret d K pc lv st h := by
  intro p l e s m args below meth c D ad cA A H locs ls cx hP hD hS hl
  exact lv_iload cx.1 cx.2.1 hd (z_at hl hg) (k p l e s m args below meth c D ad cA A H locs ls cx hP hD hS hl)
theorem Z.lload_n {n : Fin 4} {i : Nat} {x : Int64} (hd : decode cc pc = .ok (.lload_n n, 1)) (hi : (n : Nat) = i) (hg : z_get lv i = some (.long x)) (k : Z y cc nL ret d K (pc + 1) lv (.long x :: st) h) : Z y cc nL ret d K pc lv st h := by
  intro p l e s m args below meth c D ad cA A H locs ls cx hP hD hS hl
  exact lv_lload_n cx.1 cx.2.1 hd hi (z_at hl hg) (k p l e s m args below meth c D ad cA A H locs ls cx hP hD hS hl)
theorem Z.lload {i : Nat} {x : Int64} (hd : decode cc pc = .ok (.lload i, 2)) (hg : z_get lv i = some (.long x)) (k : Z y cc nL ret d K (pc + 2) lv (.long x :: st) h) : Z y cc nL ret d K pc lv st h := by
  intro p l e s m args below meth c D ad cA A H locs ls cx hP hD hS hl
  exact lv_lload cx.1 cx.2.1 hd (z_at hl hg) (k p l e s m args below meth c D ad cA A H locs ls cx hP hD hS hl)
theorem Z.aload_n {n : Fin 4} {i : Nat} {x : Nat} (hd : decode cc pc = .ok (.aload_n n, 1)) (hi : (n : Nat) = i) (hg : z_get lv i = some (.ref x)) (k : Z y cc nL ret d K (pc + 1) lv (.ref x :: st) h) : Z y cc nL ret d K pc lv st h := by
  intro p l e s m args below meth c D ad cA A H locs ls cx hP hD hS hl
  exact lv_aload_n cx.1 cx.2.1 hd hi (z_at hl hg) (k p l e s m args below meth c D ad cA A H locs ls cx hP hD hS hl)
theorem Z.aload {i : Nat} {x : Nat} (hd : decode cc pc = .ok (.aload i, 2)) (hg : z_get lv i = some (.ref x)) (k : Z y cc nL ret d K (pc + 2) lv (.ref x :: st) h) : Z y cc nL ret d K pc lv st h := by
  intro p l e s m args below meth c D ad cA A H locs ls cx hP hD hS hl
  exact lv_aload cx.1 cx.2.1 hd (z_at hl hg) (k p l e s m args below meth c D ad cA A H locs ls cx hP hD hS hl)
theorem Z.istore_n {n : Fin 4} {i : Nat} {x : Int32} (hd : decode cc pc = .ok (.istore_n n, 1)) (hi : (n : Nat) = i) (hn : i < nL) (ho : z_ok lv i (.int x) = true) (k : Z y cc nL ret d K (pc + 1) (z_set lv i (.int x)) st h) : Z y cc nL ret d K pc lv (.int x :: st) h := by
  intro p l e s m args below meth c D ad cA A H locs ls cx hP hD hS hl
  exact lv_istore_n cx.1 cx.2.1 hd hi hl hn rfl (fun ls hl => k p l e s m args below meth c D ad cA A H locs ls cx hP hD hS (z_st1 ho hl))
theorem Z.istore {i : Nat} {x : Int32} (hd : decode cc pc = .ok (.istore i, 2)) (hn : i < nL) (ho : z_ok lv i (.int x) = true) (k : Z y cc nL ret d K (pc + 2) (z_set lv i (.int x)) st h) : Z y cc nL ret d K pc lv (.int x :: st) h := by
  intro p l e s m args below meth c D ad cA A H locs ls cx hP hD hS hl
  exact lv_istore cx.1 cx.2.1 hd hl hn rfl (fun ls hl => k p l e s m args below meth c D ad cA A H locs ls cx hP hD hS (z_st1 ho hl))
theorem Z.lstore_n {n : Fin 4} {i : Nat} {x : Int64} (hd : decode cc pc = .ok (.lstore_n n, 1)) (hi : (n : Nat) = i) (hn : i + 1 < nL) (ho : z_ok lv i (.long x) = true) (k : Z y cc nL ret d K (pc + 1) (z_set lv i (.long x)) st h) : Z y cc nL ret d K pc lv (.long x :: st) h := by
  intro p l e s m args below meth c D ad cA A H locs ls cx hP hD hS hl
  exact lv_lstore_n cx.1 cx.2.1 hd hi hl hn rfl (fun ls hl => k p l e s m args below meth c D ad cA A H locs ls cx hP hD hS (z_st2 ho hl))
theorem Z.lstore {i : Nat} {x : Int64} (hd : decode cc pc = .ok (.lstore i, 2)) (hn : i + 1 < nL) (ho : z_ok lv i (.long x) = true) (k : Z y cc nL ret d K (pc + 2) (z_set lv i (.long x)) st h) : Z y cc nL ret d K pc lv (.long x :: st) h := by
  intro p l e s m args below meth c D ad cA A H locs ls cx hP hD hS hl
  exact lv_lstore cx.1 cx.2.1 hd hl hn rfl (fun ls hl => k p l e s m args below meth c D ad cA A H locs ls cx hP hD hS (z_st2 ho hl))
theorem Z.iinc {i : Nat} {n : Int} {x v : Int32} (hd : decode cc pc = .ok (.iinc i n, 3)) (hg : z_get lv i = some (.int x)) (hv : x + Int32.ofInt n = v) (hn : i < nL) (ho : z_ok lv i (.int v) = true) (k : Z y cc nL ret d K (pc + 3) (z_set lv i (.int v)) st h) : Z y cc nL ret d K pc lv st h := by
  intro p l e s m args below meth c D ad cA A H locs ls cx hP hD hS hl
  obtain ⟨j, hj⟩ := List.getElem?_of_mem (List.mem_map.mpr ⟨(i, .int x), z_get_mem hg, rfl⟩ : (i, z_v ad (.int x)) ∈ z_l ad lv)
  exact lv_iinc cx.1 cx.2.1 hd hl hj hv hn rfl (fun ls hl => k p l e s m args below meth c D ad cA A H locs ls cx hP hD hS (z_st1 ho hl))
theorem Z.iadd {a b : Int32} (hd : decode cc pc = .ok (.iadd, 1)) (k : Z y cc nL ret d K (pc + 1) lv (.int (a + b) :: st) h) : Z y cc nL ret d K pc lv (.int b :: .int a :: st) h := by
  intro p l e s m args below meth c D ad cA A H locs ls cx hP hD hS hl
  exact lv_iadd cx.1 cx.2.1 hd (k p l e s m args below meth c D ad cA A H locs ls cx hP hD hS hl)
theorem Z.isub {a b : Int32} (hd : decode cc pc = .ok (.isub, 1)) (k : Z y cc nL ret d K (pc + 1) lv (.int (a - b) :: st) h) : Z y cc nL ret d K pc lv (.int b :: .int a :: st) h := by
  intro p l e s m args below meth c D ad cA A H locs ls cx hP hD hS hl
  exact lv_isub cx.1 cx.2.1 hd (k p l e s m args below meth c D ad cA A H locs ls cx hP hD hS hl)
theorem Z.imul {a b : Int32} (hd : decode cc pc = .ok (.imul, 1)) (k : Z y cc nL ret d K (pc + 1) lv (.int (a * b) :: st) h) : Z y cc nL ret d K pc lv (.int b :: .int a :: st) h := by
  intro p l e s m args below meth c D ad cA A H locs ls cx hP hD hS hl
  exact lv_imul cx.1 cx.2.1 hd (k p l e s m args below meth c D ad cA A H locs ls cx hP hD hS hl)
theorem Z.iand {a b : Int32} (hd : decode cc pc = .ok (.iand, 1)) (k : Z y cc nL ret d K (pc + 1) lv (.int (a &&& b) :: st) h) : Z y cc nL ret d K pc lv (.int b :: .int a :: st) h := by
  intro p l e s m args below meth c D ad cA A H locs ls cx hP hD hS hl
  exact lv_iand cx.1 cx.2.1 hd (k p l e s m args below meth c D ad cA A H locs ls cx hP hD hS hl)
theorem Z.ior {a b : Int32} (hd : decode cc pc = .ok (.ior, 1)) (k : Z y cc nL ret d K (pc + 1) lv (.int (a ||| b) :: st) h) : Z y cc nL ret d K pc lv (.int b :: .int a :: st) h := by
  intro p l e s m args below meth c D ad cA A H locs ls cx hP hD hS hl
  exact lv_ior cx.1 cx.2.1 hd (k p l e s m args below meth c D ad cA A H locs ls cx hP hD hS hl)
theorem Z.ixor {a b : Int32} (hd : decode cc pc = .ok (.ixor, 1)) (k : Z y cc nL ret d K (pc + 1) lv (.int (a ^^^ b) :: st) h) : Z y cc nL ret d K pc lv (.int b :: .int a :: st) h := by
  intro p l e s m args below meth c D ad cA A H locs ls cx hP hD hS hl
  exact lv_ixor cx.1 cx.2.1 hd (k p l e s m args below meth c D ad cA A H locs ls cx hP hD hS hl)
theorem Z.ishl {a b : Int32} (hd : decode cc pc = .ok (.ishl, 1)) (k : Z y cc nL ret d K (pc + 1) lv (.int (a <<< (b &&& 31)) :: st) h) : Z y cc nL ret d K pc lv (.int b :: .int a :: st) h := by
  intro p l e s m args below meth c D ad cA A H locs ls cx hP hD hS hl
  exact lv_ishl cx.1 cx.2.1 hd (k p l e s m args below meth c D ad cA A H locs ls cx hP hD hS hl)
theorem Z.ishr {a b : Int32} (hd : decode cc pc = .ok (.ishr, 1)) (k : Z y cc nL ret d K (pc + 1) lv (.int (a >>> (b &&& 31)) :: st) h) : Z y cc nL ret d K pc lv (.int b :: .int a :: st) h := by
  intro p l e s m args below meth c D ad cA A H locs ls cx hP hD hS hl
  exact lv_ishr cx.1 cx.2.1 hd (k p l e s m args below meth c D ad cA A H locs ls cx hP hD hS hl)
theorem Z.iushr {a b : Int32} (hd : decode cc pc = .ok (.iushr, 1)) (k : Z y cc nL ret d K (pc + 1) lv (.int ((a.toUInt32 >>> (b.toUInt32 &&& Int32.toUInt32 31)).toInt32) :: st) h) : Z y cc nL ret d K pc lv (.int b :: .int a :: st) h := by
  intro p l e s m args below meth c D ad cA A H locs ls cx hP hD hS hl
  exact lv_iushr cx.1 cx.2.1 hd rfl (k p l e s m args below meth c D ad cA A H locs ls cx hP hD hS hl)
theorem Z.ineg {a : Int32} (hd : decode cc pc = .ok (.ineg, 1)) (k : Z y cc nL ret d K (pc + 1) lv (.int (-a) :: st) h) : Z y cc nL ret d K pc lv (.int a :: st) h := by
  intro p l e s m args below meth c D ad cA A H locs ls cx hP hD hS hl
  exact lv_ineg cx.1 cx.2.1 hd (k p l e s m args below meth c D ad cA A H locs ls cx hP hD hS hl)
theorem Z.idiv {a b : Int32} (hd : decode cc pc = .ok (.idiv, 1)) (hz : ¬ b = 0) (k : Z y cc nL ret d K (pc + 1) lv (.int (a / b) :: st) h) : Z y cc nL ret d K pc lv (.int b :: .int a :: st) h := by
  intro p l e s m args below meth c D ad cA A H locs ls cx hP hD hS hl
  exact lv_idiv cx.1 cx.2.1 hd hz (k p l e s m args below meth c D ad cA A H locs ls cx hP hD hS hl)
theorem Z.irem {a b : Int32} (hd : decode cc pc = .ok (.irem, 1)) (hz : ¬ b = 0) (k : Z y cc nL ret d K (pc + 1) lv (.int (a - a / b * b) :: st) h) : Z y cc nL ret d K pc lv (.int b :: .int a :: st) h := by
  intro p l e s m args below meth c D ad cA A H locs ls cx hP hD hS hl
  exact lv_irem cx.1 cx.2.1 hd hz (k p l e s m args below meth c D ad cA A H locs ls cx hP hD hS hl)
theorem Z.ladd {a b : Int64} (hd : decode cc pc = .ok (.ladd, 1)) (k : Z y cc nL ret d K (pc + 1) lv (.long (a + b) :: st) h) : Z y cc nL ret d K pc lv (.long b :: .long a :: st) h := by
  intro p l e s m args below meth c D ad cA A H locs ls cx hP hD hS hl
  exact lv_ladd cx.1 cx.2.1 hd (k p l e s m args below meth c D ad cA A H locs ls cx hP hD hS hl)
theorem Z.lmul {a b : Int64} (hd : decode cc pc = .ok (.lmul, 1)) (k : Z y cc nL ret d K (pc + 1) lv (.long (a * b) :: st) h) : Z y cc nL ret d K pc lv (.long b :: .long a :: st) h := by
  intro p l e s m args below meth c D ad cA A H locs ls cx hP hD hS hl
  exact lv_lmul cx.1 cx.2.1 hd (k p l e s m args below meth c D ad cA A H locs ls cx hP hD hS hl)
theorem Z.land {a b : Int64} (hd : decode cc pc = .ok (.land, 1)) (k : Z y cc nL ret d K (pc + 1) lv (.long (a &&& b) :: st) h) : Z y cc nL ret d K pc lv (.long b :: .long a :: st) h := by
  intro p l e s m args below meth c D ad cA A H locs ls cx hP hD hS hl
  exact lv_land cx.1 cx.2.1 hd (k p l e s m args below meth c D ad cA A H locs ls cx hP hD hS hl)
theorem Z.ldiv {a b : Int64} (hd : decode cc pc = .ok (.ldiv, 1)) (hz : ¬ b = 0) (k : Z y cc nL ret d K (pc + 1) lv (.long (a / b) :: st) h) : Z y cc nL ret d K pc lv (.long b :: .long a :: st) h := by
  intro p l e s m args below meth c D ad cA A H locs ls cx hP hD hS hl
  exact lv_ldiv cx.1 cx.2.1 hd hz (k p l e s m args below meth c D ad cA A H locs ls cx hP hD hS hl)
theorem Z.lrem {a b : Int64} (hd : decode cc pc = .ok (.lrem, 1)) (hz : ¬ b = 0) (k : Z y cc nL ret d K (pc + 1) lv (.long (a - a / b * b) :: st) h) : Z y cc nL ret d K pc lv (.long b :: .long a :: st) h := by
  intro p l e s m args below meth c D ad cA A H locs ls cx hP hD hS hl
  exact lv_lrem cx.1 cx.2.1 hd hz (k p l e s m args below meth c D ad cA A H locs ls cx hP hD hS hl)
theorem Z.i2l {a : Int32} (hd : decode cc pc = .ok (.i2l, 1)) (k : Z y cc nL ret d K (pc + 1) lv (.long a.toInt64 :: st) h) : Z y cc nL ret d K pc lv (.int a :: st) h := by
  intro p l e s m args below meth c D ad cA A H locs ls cx hP hD hS hl
  exact lv_i2l cx.1 cx.2.1 hd rfl (k p l e s m args below meth c D ad cA A H locs ls cx hP hD hS hl)
theorem Z.l2i {a : Int64} (hd : decode cc pc = .ok (.l2i, 1)) (k : Z y cc nL ret d K (pc + 1) lv (.int a.toInt32 :: st) h) : Z y cc nL ret d K pc lv (.long a :: st) h := by
  intro p l e s m args below meth c D ad cA A H locs ls cx hP hD hS hl
  exact lv_l2i cx.1 cx.2.1 hd rfl (k p l e s m args below meth c D ad cA A H locs ls cx hP hD hS hl)
theorem Z.i2b {a : Int32} (hd : decode cc pc = .ok (.i2b, 1)) (k : Z y cc nL ret d K (pc + 1) lv (.int a.toInt8.toInt32 :: st) h) : Z y cc nL ret d K pc lv (.int a :: st) h := by
  intro p l e s m args below meth c D ad cA A H locs ls cx hP hD hS hl
  exact lv_i2b cx.1 cx.2.1 hd rfl (k p l e s m args below meth c D ad cA A H locs ls cx hP hD hS hl)
theorem Z.i2c {a : Int32} (hd : decode cc pc = .ok (.i2c, 1)) (k : Z y cc nL ret d K (pc + 1) lv (.int (a.toUInt32 % 65536).toInt32 :: st) h) : Z y cc nL ret d K pc lv (.int a :: st) h := by
  intro p l e s m args below meth c D ad cA A H locs ls cx hP hD hS hl
  exact lv_i2c cx.1 cx.2.1 hd rfl (k p l e s m args below meth c D ad cA A H locs ls cx hP hD hS hl)
theorem Z.dup {v : Value} (hd : decode cc pc = .ok (.dup, 1)) (hc : v.category = 1) (k : Z y cc nL ret d K (pc + 1) lv (v :: v :: st) h) : Z y cc nL ret d K pc lv (v :: st) h := by
  intro p l e s m args below meth c D ad cA A H locs ls cx hP hD hS hl
  exact lv_dup cx.1 cx.2.1 hd ((z_v_cat ad v).trans hc) (k p l e s m args below meth c D ad cA A H locs ls cx hP hD hS hl)
theorem Z.pop {v : Value} (hd : decode cc pc = .ok (.pop, 1)) (hc : v.category = 1) (k : Z y cc nL ret d K (pc + 1) lv st h) : Z y cc nL ret d K pc lv (v :: st) h := by
  intro p l e s m args below meth c D ad cA A H locs ls cx hP hD hS hl
  exact lv_pop cx.1 cx.2.1 hd ((z_v_cat ad v).trans hc) (k p l e s m args below meth c D ad cA A H locs ls cx hP hD hS hl)
theorem Z.goto {off : Int} {tgt : Nat} (hd : decode cc pc = .ok (.goto off, 3)) (ht : (pc : Int) + off = (tgt : Int)) (k : Z y cc nL ret d K (tgt) lv st h) : Z y cc nL ret d K pc lv st h := by
  intro p l e s m args below meth c D ad cA A H locs ls cx hP hD hS hl
  exact lv_goto cx.1 cx.2.1 hd ht (k p l e s m args below meth c D ad cA A H locs ls cx hP hD hS hl)
theorem Z.icmp_eq {a b : Int32} {off : Int} {tgt : Nat} (hd : decode cc pc = .ok (.if_icmp .eq off, 3)) (ht : (pc : Int) + off = (tgt : Int)) (kt : a = b → Z y cc nL ret d K tgt lv st h) (kf : ¬ a = b → Z y cc nL ret d K (pc + 3) lv st h) : Z y cc nL ret d K pc lv (.int b :: .int a :: st) h := by
  intro p l e s m args below meth c D ad cA A H locs ls cx hP hD hS hl
  exact lv_icmp_eq cx.1 cx.2.1 hd ht (fun q => kt q p l e s m args below meth c D ad cA A H locs ls cx hP hD hS hl) (fun q => kf q p l e s m args below meth c D ad cA A H locs ls cx hP hD hS hl)
theorem Z.icmp_eq_t {a b : Int32} {off : Int} {tgt : Nat} (hd : decode cc pc = .ok (.if_icmp .eq off, 3)) (ht : (pc : Int) + off = (tgt : Int)) (hc : a = b) (k : Z y cc nL ret d K tgt lv st h) : Z y cc nL ret d K pc lv (.int b :: .int a :: st) h := Z.icmp_eq hd ht (fun _ => k) (fun q => absurd hc q)
theorem Z.icmp_eq_f {a b : Int32} {off : Int} {tgt : Nat} (hd : decode cc pc = .ok (.if_icmp .eq off, 3)) (ht : (pc : Int) + off = (tgt : Int)) (hc : ¬ a = b) (k : Z y cc nL ret d K (pc + 3) lv st h) : Z y cc nL ret d K pc lv (.int b :: .int a :: st) h := Z.icmp_eq hd ht (fun q => absurd q hc) (fun _ => k)
theorem Z.icmp_ne {a b : Int32} {off : Int} {tgt : Nat} (hd : decode cc pc = .ok (.if_icmp .ne off, 3)) (ht : (pc : Int) + off = (tgt : Int)) (kt : ¬ a = b → Z y cc nL ret d K tgt lv st h) (kf : a = b → Z y cc nL ret d K (pc + 3) lv st h) : Z y cc nL ret d K pc lv (.int b :: .int a :: st) h := by
  intro p l e s m args below meth c D ad cA A H locs ls cx hP hD hS hl
  exact lv_icmp_ne cx.1 cx.2.1 hd ht (fun q => kt q p l e s m args below meth c D ad cA A H locs ls cx hP hD hS hl) (fun q => kf q p l e s m args below meth c D ad cA A H locs ls cx hP hD hS hl)
theorem Z.icmp_ne_t {a b : Int32} {off : Int} {tgt : Nat} (hd : decode cc pc = .ok (.if_icmp .ne off, 3)) (ht : (pc : Int) + off = (tgt : Int)) (hc : ¬ a = b) (k : Z y cc nL ret d K tgt lv st h) : Z y cc nL ret d K pc lv (.int b :: .int a :: st) h := Z.icmp_ne hd ht (fun _ => k) (fun q => absurd q hc)
theorem Z.icmp_ne_f {a b : Int32} {off : Int} {tgt : Nat} (hd : decode cc pc = .ok (.if_icmp .ne off, 3)) (ht : (pc : Int) + off = (tgt : Int)) (hc : a = b) (k : Z y cc nL ret d K (pc + 3) lv st h) : Z y cc nL ret d K pc lv (.int b :: .int a :: st) h := Z.icmp_ne hd ht (fun q => absurd hc q) (fun _ => k)
theorem Z.icmp_lt {a b : Int32} {off : Int} {tgt : Nat} (hd : decode cc pc = .ok (.if_icmp .lt off, 3)) (ht : (pc : Int) + off = (tgt : Int)) (kt : a < b → Z y cc nL ret d K tgt lv st h) (kf : ¬ a < b → Z y cc nL ret d K (pc + 3) lv st h) : Z y cc nL ret d K pc lv (.int b :: .int a :: st) h := by
  intro p l e s m args below meth c D ad cA A H locs ls cx hP hD hS hl
  exact lv_icmp_lt cx.1 cx.2.1 hd ht (fun q => kt q p l e s m args below meth c D ad cA A H locs ls cx hP hD hS hl) (fun q => kf q p l e s m args below meth c D ad cA A H locs ls cx hP hD hS hl)
theorem Z.icmp_lt_t {a b : Int32} {off : Int} {tgt : Nat} (hd : decode cc pc = .ok (.if_icmp .lt off, 3)) (ht : (pc : Int) + off = (tgt : Int)) (hc : a < b) (k : Z y cc nL ret d K tgt lv st h) : Z y cc nL ret d K pc lv (.int b :: .int a :: st) h := Z.icmp_lt hd ht (fun _ => k) (fun q => absurd hc q)
theorem Z.icmp_lt_f {a b : Int32} {off : Int} {tgt : Nat} (hd : decode cc pc = .ok (.if_icmp .lt off, 3)) (ht : (pc : Int) + off = (tgt : Int)) (hc : ¬ a < b) (k : Z y cc nL ret d K (pc + 3) lv st h) : Z y cc nL ret d K pc lv (.int b :: .int a :: st) h := Z.icmp_lt hd ht (fun q => absurd q hc) (fun _ => k)
theorem Z.icmp_ge {a b : Int32} {off : Int} {tgt : Nat} (hd : decode cc pc = .ok (.if_icmp .ge off, 3)) (ht : (pc : Int) + off = (tgt : Int)) (kt : b ≤ a → Z y cc nL ret d K tgt lv st h) (kf : ¬ b ≤ a → Z y cc nL ret d K (pc + 3) lv st h) : Z y cc nL ret d K pc lv (.int b :: .int a :: st) h := by
  intro p l e s m args below meth c D ad cA A H locs ls cx hP hD hS hl
  exact lv_icmp_ge cx.1 cx.2.1 hd ht (fun q => kt q p l e s m args below meth c D ad cA A H locs ls cx hP hD hS hl) (fun q => kf q p l e s m args below meth c D ad cA A H locs ls cx hP hD hS hl)
theorem Z.icmp_ge_t {a b : Int32} {off : Int} {tgt : Nat} (hd : decode cc pc = .ok (.if_icmp .ge off, 3)) (ht : (pc : Int) + off = (tgt : Int)) (hc : b ≤ a) (k : Z y cc nL ret d K tgt lv st h) : Z y cc nL ret d K pc lv (.int b :: .int a :: st) h := Z.icmp_ge hd ht (fun _ => k) (fun q => absurd hc q)
theorem Z.icmp_ge_f {a b : Int32} {off : Int} {tgt : Nat} (hd : decode cc pc = .ok (.if_icmp .ge off, 3)) (ht : (pc : Int) + off = (tgt : Int)) (hc : ¬ b ≤ a) (k : Z y cc nL ret d K (pc + 3) lv st h) : Z y cc nL ret d K pc lv (.int b :: .int a :: st) h := Z.icmp_ge hd ht (fun q => absurd q hc) (fun _ => k)
theorem Z.icmp_gt {a b : Int32} {off : Int} {tgt : Nat} (hd : decode cc pc = .ok (.if_icmp .gt off, 3)) (ht : (pc : Int) + off = (tgt : Int)) (kt : b < a → Z y cc nL ret d K tgt lv st h) (kf : ¬ b < a → Z y cc nL ret d K (pc + 3) lv st h) : Z y cc nL ret d K pc lv (.int b :: .int a :: st) h := by
  intro p l e s m args below meth c D ad cA A H locs ls cx hP hD hS hl
  exact lv_icmp_gt cx.1 cx.2.1 hd ht (fun q => kt q p l e s m args below meth c D ad cA A H locs ls cx hP hD hS hl) (fun q => kf q p l e s m args below meth c D ad cA A H locs ls cx hP hD hS hl)
theorem Z.icmp_gt_t {a b : Int32} {off : Int} {tgt : Nat} (hd : decode cc pc = .ok (.if_icmp .gt off, 3)) (ht : (pc : Int) + off = (tgt : Int)) (hc : b < a) (k : Z y cc nL ret d K tgt lv st h) : Z y cc nL ret d K pc lv (.int b :: .int a :: st) h := Z.icmp_gt hd ht (fun _ => k) (fun q => absurd hc q)
theorem Z.icmp_gt_f {a b : Int32} {off : Int} {tgt : Nat} (hd : decode cc pc = .ok (.if_icmp .gt off, 3)) (ht : (pc : Int) + off = (tgt : Int)) (hc : ¬ b < a) (k : Z y cc nL ret d K (pc + 3) lv st h) : Z y cc nL ret d K pc lv (.int b :: .int a :: st) h := Z.icmp_gt hd ht (fun q => absurd q hc) (fun _ => k)
theorem Z.icmp_le {a b : Int32} {off : Int} {tgt : Nat} (hd : decode cc pc = .ok (.if_icmp .le off, 3)) (ht : (pc : Int) + off = (tgt : Int)) (kt : a ≤ b → Z y cc nL ret d K tgt lv st h) (kf : ¬ a ≤ b → Z y cc nL ret d K (pc + 3) lv st h) : Z y cc nL ret d K pc lv (.int b :: .int a :: st) h := by
  intro p l e s m args below meth c D ad cA A H locs ls cx hP hD hS hl
  exact lv_icmp_le cx.1 cx.2.1 hd ht (fun q => kt q p l e s m args below meth c D ad cA A H locs ls cx hP hD hS hl) (fun q => kf q p l e s m args below meth c D ad cA A H locs ls cx hP hD hS hl)
theorem Z.icmp_le_t {a b : Int32} {off : Int} {tgt : Nat} (hd : decode cc pc = .ok (.if_icmp .le off, 3)) (ht : (pc : Int) + off = (tgt : Int)) (hc : a ≤ b) (k : Z y cc nL ret d K tgt lv st h) : Z y cc nL ret d K pc lv (.int b :: .int a :: st) h := Z.icmp_le hd ht (fun _ => k) (fun q => absurd hc q)
theorem Z.icmp_le_f {a b : Int32} {off : Int} {tgt : Nat} (hd : decode cc pc = .ok (.if_icmp .le off, 3)) (ht : (pc : Int) + off = (tgt : Int)) (hc : ¬ a ≤ b) (k : Z y cc nL ret d K (pc + 3) lv st h) : Z y cc nL ret d K pc lv (.int b :: .int a :: st) h := Z.icmp_le hd ht (fun q => absurd q hc) (fun _ => k)
theorem Z.if_eq {a : Int32} {off : Int} {tgt : Nat} (hd : decode cc pc = .ok (.ifCond .eq off, 3)) (ht : (pc : Int) + off = (tgt : Int)) (kt : a = 0 → Z y cc nL ret d K tgt lv st h) (kf : ¬ a = 0 → Z y cc nL ret d K (pc + 3) lv st h) : Z y cc nL ret d K pc lv (.int a :: st) h := by
  intro p l e s m args below meth c D ad cA A H locs ls cx hP hD hS hl
  exact lv_if_eq cx.1 cx.2.1 hd ht (fun q => kt q p l e s m args below meth c D ad cA A H locs ls cx hP hD hS hl) (fun q => kf q p l e s m args below meth c D ad cA A H locs ls cx hP hD hS hl)
theorem Z.if_eq_t {a : Int32} {off : Int} {tgt : Nat} (hd : decode cc pc = .ok (.ifCond .eq off, 3)) (ht : (pc : Int) + off = (tgt : Int)) (hc : a = 0) (k : Z y cc nL ret d K tgt lv st h) : Z y cc nL ret d K pc lv (.int a :: st) h := Z.if_eq hd ht (fun _ => k) (fun q => absurd hc q)
theorem Z.if_eq_f {a : Int32} {off : Int} {tgt : Nat} (hd : decode cc pc = .ok (.ifCond .eq off, 3)) (ht : (pc : Int) + off = (tgt : Int)) (hc : ¬ a = 0) (k : Z y cc nL ret d K (pc + 3) lv st h) : Z y cc nL ret d K pc lv (.int a :: st) h := Z.if_eq hd ht (fun q => absurd q hc) (fun _ => k)
theorem Z.if_ne {a : Int32} {off : Int} {tgt : Nat} (hd : decode cc pc = .ok (.ifCond .ne off, 3)) (ht : (pc : Int) + off = (tgt : Int)) (kt : ¬ a = 0 → Z y cc nL ret d K tgt lv st h) (kf : a = 0 → Z y cc nL ret d K (pc + 3) lv st h) : Z y cc nL ret d K pc lv (.int a :: st) h := by
  intro p l e s m args below meth c D ad cA A H locs ls cx hP hD hS hl
  exact lv_if_ne cx.1 cx.2.1 hd ht (fun q => kt q p l e s m args below meth c D ad cA A H locs ls cx hP hD hS hl) (fun q => kf q p l e s m args below meth c D ad cA A H locs ls cx hP hD hS hl)
theorem Z.if_ne_t {a : Int32} {off : Int} {tgt : Nat} (hd : decode cc pc = .ok (.ifCond .ne off, 3)) (ht : (pc : Int) + off = (tgt : Int)) (hc : ¬ a = 0) (k : Z y cc nL ret d K tgt lv st h) : Z y cc nL ret d K pc lv (.int a :: st) h := Z.if_ne hd ht (fun _ => k) (fun q => absurd q hc)
theorem Z.if_ne_f {a : Int32} {off : Int} {tgt : Nat} (hd : decode cc pc = .ok (.ifCond .ne off, 3)) (ht : (pc : Int) + off = (tgt : Int)) (hc : a = 0) (k : Z y cc nL ret d K (pc + 3) lv st h) : Z y cc nL ret d K pc lv (.int a :: st) h := Z.if_ne hd ht (fun q => absurd hc q) (fun _ => k)
theorem Z.if_lt {a : Int32} {off : Int} {tgt : Nat} (hd : decode cc pc = .ok (.ifCond .lt off, 3)) (ht : (pc : Int) + off = (tgt : Int)) (kt : a < 0 → Z y cc nL ret d K tgt lv st h) (kf : ¬ a < 0 → Z y cc nL ret d K (pc + 3) lv st h) : Z y cc nL ret d K pc lv (.int a :: st) h := by
  intro p l e s m args below meth c D ad cA A H locs ls cx hP hD hS hl
  exact lv_if_lt cx.1 cx.2.1 hd ht (fun q => kt q p l e s m args below meth c D ad cA A H locs ls cx hP hD hS hl) (fun q => kf q p l e s m args below meth c D ad cA A H locs ls cx hP hD hS hl)
theorem Z.if_lt_t {a : Int32} {off : Int} {tgt : Nat} (hd : decode cc pc = .ok (.ifCond .lt off, 3)) (ht : (pc : Int) + off = (tgt : Int)) (hc : a < 0) (k : Z y cc nL ret d K tgt lv st h) : Z y cc nL ret d K pc lv (.int a :: st) h := Z.if_lt hd ht (fun _ => k) (fun q => absurd hc q)
theorem Z.if_lt_f {a : Int32} {off : Int} {tgt : Nat} (hd : decode cc pc = .ok (.ifCond .lt off, 3)) (ht : (pc : Int) + off = (tgt : Int)) (hc : ¬ a < 0) (k : Z y cc nL ret d K (pc + 3) lv st h) : Z y cc nL ret d K pc lv (.int a :: st) h := Z.if_lt hd ht (fun q => absurd q hc) (fun _ => k)
theorem Z.if_ge {a : Int32} {off : Int} {tgt : Nat} (hd : decode cc pc = .ok (.ifCond .ge off, 3)) (ht : (pc : Int) + off = (tgt : Int)) (kt : 0 ≤ a → Z y cc nL ret d K tgt lv st h) (kf : ¬ 0 ≤ a → Z y cc nL ret d K (pc + 3) lv st h) : Z y cc nL ret d K pc lv (.int a :: st) h := by
  intro p l e s m args below meth c D ad cA A H locs ls cx hP hD hS hl
  exact lv_if_ge cx.1 cx.2.1 hd ht (fun q => kt q p l e s m args below meth c D ad cA A H locs ls cx hP hD hS hl) (fun q => kf q p l e s m args below meth c D ad cA A H locs ls cx hP hD hS hl)
theorem Z.if_ge_t {a : Int32} {off : Int} {tgt : Nat} (hd : decode cc pc = .ok (.ifCond .ge off, 3)) (ht : (pc : Int) + off = (tgt : Int)) (hc : 0 ≤ a) (k : Z y cc nL ret d K tgt lv st h) : Z y cc nL ret d K pc lv (.int a :: st) h := Z.if_ge hd ht (fun _ => k) (fun q => absurd hc q)
theorem Z.if_ge_f {a : Int32} {off : Int} {tgt : Nat} (hd : decode cc pc = .ok (.ifCond .ge off, 3)) (ht : (pc : Int) + off = (tgt : Int)) (hc : ¬ 0 ≤ a) (k : Z y cc nL ret d K (pc + 3) lv st h) : Z y cc nL ret d K pc lv (.int a :: st) h := Z.if_ge hd ht (fun q => absurd q hc) (fun _ => k)
theorem Z.if_gt {a : Int32} {off : Int} {tgt : Nat} (hd : decode cc pc = .ok (.ifCond .gt off, 3)) (ht : (pc : Int) + off = (tgt : Int)) (kt : 0 < a → Z y cc nL ret d K tgt lv st h) (kf : ¬ 0 < a → Z y cc nL ret d K (pc + 3) lv st h) : Z y cc nL ret d K pc lv (.int a :: st) h := by
  intro p l e s m args below meth c D ad cA A H locs ls cx hP hD hS hl
  exact lv_if_gt cx.1 cx.2.1 hd ht (fun q => kt q p l e s m args below meth c D ad cA A H locs ls cx hP hD hS hl) (fun q => kf q p l e s m args below meth c D ad cA A H locs ls cx hP hD hS hl)
theorem Z.if_gt_t {a : Int32} {off : Int} {tgt : Nat} (hd : decode cc pc = .ok (.ifCond .gt off, 3)) (ht : (pc : Int) + off = (tgt : Int)) (hc : 0 < a) (k : Z y cc nL ret d K tgt lv st h) : Z y cc nL ret d K pc lv (.int a :: st) h := Z.if_gt hd ht (fun _ => k) (fun q => absurd hc q)
theorem Z.if_gt_f {a : Int32} {off : Int} {tgt : Nat} (hd : decode cc pc = .ok (.ifCond .gt off, 3)) (ht : (pc : Int) + off = (tgt : Int)) (hc : ¬ 0 < a) (k : Z y cc nL ret d K (pc + 3) lv st h) : Z y cc nL ret d K pc lv (.int a :: st) h := Z.if_gt hd ht (fun q => absurd q hc) (fun _ => k)
theorem Z.if_le {a : Int32} {off : Int} {tgt : Nat} (hd : decode cc pc = .ok (.ifCond .le off, 3)) (ht : (pc : Int) + off = (tgt : Int)) (kt : a ≤ 0 → Z y cc nL ret d K tgt lv st h) (kf : ¬ a ≤ 0 → Z y cc nL ret d K (pc + 3) lv st h) : Z y cc nL ret d K pc lv (.int a :: st) h := by
  intro p l e s m args below meth c D ad cA A H locs ls cx hP hD hS hl
  exact lv_if_le cx.1 cx.2.1 hd ht (fun q => kt q p l e s m args below meth c D ad cA A H locs ls cx hP hD hS hl) (fun q => kf q p l e s m args below meth c D ad cA A H locs ls cx hP hD hS hl)
theorem Z.if_le_t {a : Int32} {off : Int} {tgt : Nat} (hd : decode cc pc = .ok (.ifCond .le off, 3)) (ht : (pc : Int) + off = (tgt : Int)) (hc : a ≤ 0) (k : Z y cc nL ret d K tgt lv st h) : Z y cc nL ret d K pc lv (.int a :: st) h := Z.if_le hd ht (fun _ => k) (fun q => absurd hc q)
theorem Z.if_le_f {a : Int32} {off : Int} {tgt : Nat} (hd : decode cc pc = .ok (.ifCond .le off, 3)) (ht : (pc : Int) + off = (tgt : Int)) (hc : ¬ a ≤ 0) (k : Z y cc nL ret d K (pc + 3) lv st h) : Z y cc nL ret d K pc lv (.int a :: st) h := Z.if_le hd ht (fun q => absurd q hc) (fun _ => k)
theorem Z.lookup {dflt : Int} {ps : Array (Int × Int)} {len : Nat} {a : Int32} {off : Int} {tgt : Nat} (hd : decode cc pc = .ok (.lookupswitch dflt ps, len)) (hp : (ps.toList.zip (ps.toList.drop 1)).all (fun (a, next) => a.1 < next.1) = true) (ho : Op.lookupswitch.offset ps.toList dflt a.toInt = off) (ht : (pc : Int) + off = (tgt : Int)) (k : Z y cc nL ret d K (tgt) lv st h) : Z y cc nL ret d K pc lv (.int a :: st) h := by
  intro p l e s m args below meth c D ad cA A H locs ls cx hP hD hS hl
  exact lv_lookup cx.1 cx.2.1 hd hp ho ht (k p l e s m args below meth c D ad cA A H locs ls cx hP hD hS hl)
theorem Z.tableIn {dflt lo hi : Int} {offs : Array Int} {len : Nat} {a : Int32} {off : Int} {tgt : Nat} (hd : decode cc pc = .ok (.tableswitch dflt lo hi offs, len)) (h1 : ¬ a.toInt < lo) (h2 : ¬ hi < a.toInt) (ho : offs[(a.toInt - lo).toNat]? = some off) (ht : (pc : Int) + off = (tgt : Int)) (k : Z y cc nL ret d K (tgt) lv st h) : Z y cc nL ret d K pc lv (.int a :: st) h := by
  intro p l e s m args below meth c D ad cA A H locs ls cx hP hD hS hl
  exact lv_tableIn cx.1 cx.2.1 hd h1 h2 ho ht (k p l e s m args below meth c D ad cA A H locs ls cx hP hD hS hl)
theorem Z.tableOut {dflt lo hi : Int} {offs : Array Int} {len : Nat} {a : Int32} {tgt : Nat} (hd : decode cc pc = .ok (.tableswitch dflt lo hi offs, len)) (h1 : a.toInt < lo ∨ hi < a.toInt) (ht : (pc : Int) + dflt = (tgt : Int)) (k : Z y cc nL ret d K (tgt) lv st h) : Z y cc nL ret d K pc lv (.int a :: st) h := by
  intro p l e s m args below meth c D ad cA A H locs ls cx hP hD hS hl
  exact lv_tableOut cx.1 cx.2.1 hd h1 ht (k p l e s m args below meth c D ad cA A H locs ls cx hP hD hS hl)
theorem z_field {ad : Nat → Nat} {h : hp} {i k t : Nat} {fs : List Nat} (hk : fs[k]? = some t) : (fs.mapIdx (fun j t => z_f ad h i j t))[k]? = some (z_f ad h i k t) := by
  rw [List.getElem?_mapIdx, hk]
  rfl
theorem z_getf {idx ci i k0 t : Nat} {fs : List Nat} {v : Value} (hd : decode cc pc = .ok (.getfield idx, 3)) (hw : z_fw y.cls idx ci k0) (hs : z_sh[i]? = some (.inr (ci, fs))) (hk : fs[k0]? = some t) (hv : ∀ ad, z_f ad h i k0 t = z_v ad v) (k : Z y cc nL ret d K (pc + 3) lv (v :: st) h) : Z y cc nL ret d K pc lv (.ref i :: st) h := by
  intro p l e s m args below meth c D ad cA A H locs ls cx hP hD hS hl
  obtain ⟨C, T, N, hc, hkN, hlink, hin⟩ := hw
  have hts := cx.2.2.2.2.2.2.1
  exact va_get (D := D) (C := C) (T := T) (N := N) (ci := ci) cx.1 cx.2.1 hts hin cx.2.2.2.2.2.1 cx.2.2.2.2.2.2.2.2.1 hP i (z_w_at hs) hc k0 hkN (hts _ hlink) (fun _ q => q) (v := z_v ad v) (by rw [← hv]; exact z_field hk) hd (k p l e s m args below meth c D ad cA A H locs ls cx hP hD hS hl)
theorem Z.getI {idx ci i k0 : Nat} {fs : List Nat} (hd : decode cc pc = .ok (.getfield idx, 3)) (hw : z_fw y.cls idx ci k0) (hs : z_sh[i]? = some (.inr (ci, fs))) (hk : fs[k0]? = some 0) (k : Z y cc nL ret d K (pc + 3) lv (.int (h.1 i k0) :: st) h) : Z y cc nL ret d K pc lv (.ref i :: st) h := z_getf hd hw hs hk (fun _ => rfl) k
theorem Z.getIv {idx ci i k0 : Nat} {fs : List Nat} {v : Int32} (hd : decode cc pc = .ok (.getfield idx, 3)) (hw : z_fw y.cls idx ci k0) (hs : z_sh[i]? = some (.inr (ci, fs))) (hk : fs[k0]? = some 0) (hv : h.1 i k0 = v) (k : Z y cc nL ret d K (pc + 3) lv (.int v :: st) h) : Z y cc nL ret d K pc lv (.ref i :: st) h := z_getf hd hw hs hk (fun _ => by rw [← hv]; rfl) k
theorem Z.getL {idx ci i k0 : Nat} {fs : List Nat} (hd : decode cc pc = .ok (.getfield idx, 3)) (hw : z_fw y.cls idx ci k0) (hs : z_sh[i]? = some (.inr (ci, fs))) (hk : fs[k0]? = some 1) (k : Z y cc nL ret d K (pc + 3) lv (.long (h.2 i k0) :: st) h) : Z y cc nL ret d K pc lv (.ref i :: st) h := z_getf hd hw hs hk (fun _ => rfl) k
theorem Z.getR {idx ci i k0 j : Nat} {fs : List Nat} (hd : decode cc pc = .ok (.getfield idx, 3)) (hw : z_fw y.cls idx ci k0) (hs : z_sh[i]? = some (.inr (ci, fs))) (hk : fs[k0]? = some (j + 2)) (k : Z y cc nL ret d K (pc + 3) lv (.ref j :: st) h) : Z y cc nL ret d K pc lv (.ref i :: st) h := z_getf hd hw hs hk (fun _ => rfl) k
theorem z_set_obj {ad : Nat → Nat} {cA : Nat → ClassId} {h h' : hp} {i k0 ci t : Nat} {fs : List Nat} (hs : z_sh[i]? = some (.inr (ci, fs))) (hk : fs[k0]? = some t) (ho : ∀ (j : Nat) (c' : z_C), j ≠ i → z_e ad cA h' j c' = z_e ad cA h j c') (hf : ∀ j t', j ≠ k0 → z_f ad h' i j t' = z_f ad h i j t') :
    (z_w ad cA h).set i (ad i, .inr (ci, (fs.mapIdx (fun j t => z_f ad h i j t)).set k0 (z_f ad h' i k0 t))) = z_w ad cA h' := by
  refine z_w_set hs ?_ ho
  show Sum.inr (ci, _) = Sum.inr (ci, _)
  congr 2
  apply List.ext_getElem?
  intro j
  have hl : k0 < fs.length := (List.getElem?_eq_some_iff.mp hk).1
  by_cases hj : j = k0
  · subst hj
    rw [List.getElem?_set_self (by simpa using hl), List.getElem?_mapIdx, hk]
    rfl
  · rw [List.getElem?_set_ne (Ne.symm hj), List.getElem?_mapIdx, List.getElem?_mapIdx]
    cases fs[j]? with
    | none => rfl
    | some t' => simp only [Option.map_some]; rw [hf j t' hj]
theorem z_putf {idx ci i k0 t : Nat} {fs : List Nat} {ty : FieldType} {v : Value} {h' : hp} (hd : decode cc pc = .ok (.putfield idx, 3)) (hw : z_fp y.cls idx ci k0 ty) (hs : z_sh[i]? = some (.inr (ci, fs))) (hk : fs[k0]? = some t) (hn : narrow ty v = v) (hft : fits ty v = true)
    (hv : ∀ ad, z_f ad h' i k0 t = v) (hvv : ∀ ad, z_v ad v = v) (ho : ∀ ad cA (j : Nat) (c' : z_C), j ≠ i → z_e ad cA h' j c' = z_e ad cA h j c') (hf : ∀ ad j t', j ≠ k0 → z_f ad h' i j t' = z_f ad h i j t') (k : Z y cc nL ret d K (pc + 3) lv st h') : Z y cc nL ret d K pc lv (v :: .ref i :: st) h := by
  intro p l e s m args below meth c D ad cA A H locs ls cx hP hD hS hl
  obtain ⟨C, T, N, ty0, hc, hkN, hlink, hin, hty, hnm, hfin, hpd⟩ := hw
  have hts := cx.2.2.2.2.2.2.1
  have e1 : z_v ad v = v := hvv ad
  have e2 : (z_w ad cA h).set i (ad i, .inr (ci, (fs.mapIdx (fun j t => z_f ad h i j t)).set k0 v)) = z_w ad cA h' := by
    rw [← hv ad]
    exact z_set_obj hs hk (ho ad cA) (hf ad)
  have hlen : k0 < (fs.mapIdx (fun j t => z_f ad h i j t)).length := by
    simpa using (List.getElem?_eq_some_iff.mp hk).1
  rw [List.map_cons, e1]
  refine va_put (D := D) (C := C) (T := T) (N := N) (ci := ci) cx.1 cx.2.1 hts hin ty0 hty hnm cx.2.2.2.2.2.1 cx.2.2.2.2.2.2.2.2.1 hP hD hS i (z_w_at hs) hc k0 hkN (hts _ hlink) (fun _ q => q) hfin hpd hn hft hlen hd (fun H locs hP hD hS => ?_)
  rw [e2] at hP hD
  exact k p l e s m args below meth c D ad cA A H locs ls cx hP hD hS hl
theorem z_f_up {ad : Nat → Nat} {h : hp} {i k0 : Nat} {v : Int32} (j t' : Nat) (hj : j ≠ k0) : z_f ad (z_up h i k0 v) i j t' = z_f ad h i j t' := by
  match t' with
  | 0 => simp [z_f, z_up, va_up, upd, hj]
  | 1 => rfl
  | k + 2 => rfl
theorem z_f_upL {ad : Nat → Nat} {h : hp} {i k0 : Nat} {v : Int64} (j t' : Nat) (hj : j ≠ k0) : z_f ad (z_upL h i k0 v) i j t' = z_f ad h i j t' := by
  match t' with
  | 0 => rfl
  | 1 => simp [z_f, z_upL, va_up, vp_updL, hj]
  | k + 2 => rfl
theorem Z.putI {idx ci i k0 : Nat} {fs : List Nat} {ty : FieldType} {v : Int32} (hd : decode cc pc = .ok (.putfield idx, 3)) (hw : z_fp y.cls idx ci k0 ty) (hs : z_sh[i]? = some (.inr (ci, fs))) (hk : fs[k0]? = some 0) (hn : narrow ty (.int v) = .int v) (hft : fits ty (.int v) = true) (k : Z y cc nL ret d K (pc + 3) lv st (z_up h i k0 v)) : Z y cc nL ret d K pc lv (.int v :: .ref i :: st) h :=
  z_putf (h' := z_up h i k0 v) hd hw hs hk hn hft (fun _ => by simp [z_f, z_up, va_up, upd]) (fun _ => rfl) (fun _ _ _ _ hj => z_e_row hj) (fun _ j t' hj => z_f_up j t' hj) k
theorem Z.putL {idx ci i k0 : Nat} {fs : List Nat} {v : Int64} (hd : decode cc pc = .ok (.putfield idx, 3)) (hw : z_fp y.cls idx ci k0 .long) (hs : z_sh[i]? = some (.inr (ci, fs))) (hk : fs[k0]? = some 1) (k : Z y cc nL ret d K (pc + 3) lv st (z_upL h i k0 v)) : Z y cc nL ret d K pc lv (.long v :: .ref i :: st) h :=
  z_putf (h' := z_upL h i k0 v) hd hw hs hk rfl rfl (fun _ => by simp [z_f, z_upL, va_up, vp_updL]) (fun _ => rfl) (fun _ _ _ _ hj => z_e_upL hj) (fun _ j t' hj => z_f_upL j t' hj) k
theorem Z.iald {i j n : Nat} (hd : decode cc pc = .ok (.iaload, 1)) (hs : z_sh[i]? = some (.inl (0, n))) (hj : j < n) (hn : n < 2 ^ 31) (k : Z y cc nL ret d K (pc + 1) lv (.int (h.1 i j) :: st) h) : Z y cc nL ret d K pc lv (.int (nI j) :: .ref i :: st) h := by
  intro p l e s m args below meth c D ad cA A H locs ls cx hP hD hS hl
  have k2 := k p l e s m args below meth c D ad cA A H locs ls cx hP hD hS hl
  have e : (nI j).toNatClampNeg = j := nI_clamp (by omega)
  refine va_iald (D := D) (tys := z_t cA) (cA := cA 0) (n := n) (f := h.1 i) cx.1 cx.2.1 cx.2.2.2.2.2.2.2.2.1 hP i 0 (z_w_at hs) rfl (vp_in_nI hj hn) hd ?_
  rw [e]
  exact k2
theorem Z.bald {i j n : Nat} (hd : decode cc pc = .ok (.baload, 1)) (hs : z_sh[i]? = some (.inl (1, n))) (hj : j < n) (hn : n < 2 ^ 31) (k : Z y cc nL ret d K (pc + 1) lv (.int (h.1 i j) :: st) h) : Z y cc nL ret d K pc lv (.int (nI j) :: .ref i :: st) h := by
  intro p l e s m args below meth c D ad cA A H locs ls cx hP hD hS hl
  have k2 := k p l e s m args below meth c D ad cA A H locs ls cx hP hD hS hl
  have e : (nI j).toNatClampNeg = j := nI_clamp (by omega)
  refine va_bald (D := D) (tys := z_t cA) (cA := cA 1) (n := n) (f := h.1 i) cx.1 cx.2.1 cx.2.2.2.2.2.2.2.2.1 hP i 1 (z_w_at hs) rfl (vp_in_nI hj hn) hd ?_
  rw [e]
  exact k2
theorem Z.zald {i j n : Nat} (hd : decode cc pc = .ok (.baload, 1)) (hs : z_sh[i]? = some (.inl (2, n))) (hj : j < n) (hn : n < 2 ^ 31) (k : Z y cc nL ret d K (pc + 1) lv (.int (h.1 i j) :: st) h) : Z y cc nL ret d K pc lv (.int (nI j) :: .ref i :: st) h := by
  intro p l e s m args below meth c D ad cA A H locs ls cx hP hD hS hl
  have k2 := k p l e s m args below meth c D ad cA A H locs ls cx hP hD hS hl
  have e : (nI j).toNatClampNeg = j := nI_clamp (by omega)
  refine va_zald (D := D) (tys := z_t cA) (cA := cA 2) (n := n) (f := h.1 i) cx.1 cx.2.1 cx.2.2.2.2.2.2.2.2.1 hP i 2 (z_w_at hs) rfl (vp_in_nI hj hn) hd ?_
  rw [e]
  exact k2
theorem Z.iast {i j n : Nat} {x : Int32} (hd : decode cc pc = .ok (.iastore, 1)) (hs : z_sh[i]? = some (.inl (0, n))) (hj : j < n) (hn : n < 2 ^ 31) (k : Z y cc nL ret d K (pc + 1) lv st (z_up h i j x)) : Z y cc nL ret d K pc lv (.int x :: .int (nI j) :: .ref i :: st) h := by
  intro p l e s m args below meth c D ad cA A H locs ls cx hP hD hS hl
  have e1 : (nI j).toNatClampNeg = j := nI_clamp (by omega)
  have e2 : (z_w ad cA h).set i (ad i, .inl (cA 0, n, .inl (upd (h.1 i) j x))) = z_w ad cA (z_up h i j x) := z_w_set hs (by simp [z_e, z_up, va_up]) (fun _ _ hj => z_e_row hj)
  refine va_iast (D := D) (tys := z_t cA) (cA := cA 0) (n := n) (f := h.1 i) cx.1 cx.2.1 cx.2.2.2.2.2.2.2.2.1 hP hD hS i 0 (z_w_at hs) rfl (vp_in_nI hj hn) hd (fun H locs hP hD hS => ?_)
  rw [e1, e2] at hP hD
  exact k p l e s m args below meth c D ad cA A H locs ls cx hP hD hS hl
theorem Z.bast {i j n : Nat} {x : Int32} (hd : decode cc pc = .ok (.bastore, 1)) (hs : z_sh[i]? = some (.inl (1, n))) (hj : j < n) (hn : n < 2 ^ 31) (k : Z y cc nL ret d K (pc + 1) lv st (z_up h i j (vp_nar .byte x))) : Z y cc nL ret d K pc lv (.int x :: .int (nI j) :: .ref i :: st) h := by
  intro p l e s m args below meth c D ad cA A H locs ls cx hP hD hS hl
  have e1 : (nI j).toNatClampNeg = j := nI_clamp (by omega)
  have e2 : (z_w ad cA h).set i (ad i, .inl (cA 1, n, .inl (upd (h.1 i) j (vp_nar .byte x)))) = z_w ad cA (z_up h i j (vp_nar .byte x)) := z_w_set hs (by simp [z_e, z_up, va_up]) (fun _ _ hj => z_e_row hj)
  refine va_bast (D := D) (tys := z_t cA) (cA := cA 1) (n := n) (f := h.1 i) cx.1 cx.2.1 cx.2.2.2.2.2.2.2.2.1 hP hD hS i 1 (z_w_at hs) rfl (vp_in_nI hj hn) hd (fun H locs hP hD hS => ?_)
  rw [e1, e2] at hP hD
  exact k p l e s m args below meth c D ad cA A H locs ls cx hP hD hS hl
theorem Z.zast {i j n : Nat} {x : Int32} (hd : decode cc pc = .ok (.bastore, 1)) (hs : z_sh[i]? = some (.inl (2, n))) (hj : j < n) (hn : n < 2 ^ 31) (k : Z y cc nL ret d K (pc + 1) lv st (z_up h i j (vp_nar .boolean x))) : Z y cc nL ret d K pc lv (.int x :: .int (nI j) :: .ref i :: st) h := by
  intro p l e s m args below meth c D ad cA A H locs ls cx hP hD hS hl
  have e1 : (nI j).toNatClampNeg = j := nI_clamp (by omega)
  have e2 : (z_w ad cA h).set i (ad i, .inl (cA 2, n, .inl (upd (h.1 i) j (vp_nar .boolean x)))) = z_w ad cA (z_up h i j (vp_nar .boolean x)) := z_w_set hs (by simp [z_e, z_up, va_up]) (fun _ _ hj => z_e_row hj)
  refine va_zast (D := D) (tys := z_t cA) (cA := cA 2) (n := n) (f := h.1 i) cx.1 cx.2.1 cx.2.2.2.2.2.2.2.2.1 hP hD hS i 2 (z_w_at hs) rfl (vp_in_nI hj hn) hd (fun H locs hP hD hS => ?_)
  rw [e1, e2] at hP hD
  exact k p l e s m args below meth c D ad cA A H locs ls cx hP hD hS hl
theorem Z.alen {i n t : Nat} (hd : decode cc pc = .ok (.arraylength, 1)) (hs : z_sh[i]? = some (.inl (t, n))) (ht : t < 3) (k : Z y cc nL ret d K (pc + 1) lv (.int (nI n) :: st) h) : Z y cc nL ret d K pc lv (.ref i :: st) h := by
  intro p l e s m args below meth c D ad cA A H locs ls cx hP hD hS hl
  have k2 := k p l e s m args below meth c D ad cA A H locs ls cx hP hD hS hl
  have hK := cx.2.2.2.2.2.2.2.2.1
  match t, ht with
  | 0, _ => exact va_alen (D := D) (tys := z_t cA) (cA := cA 0) (x := (n, .inl (h.1 i))) cx.1 cx.2.1 hK hP i 0 (z_w_at hs) rfl rfl hd k2
  | 1, _ => exact va_alen (D := D) (tys := z_t cA) (cA := cA 1) (x := (n, .inl (h.1 i))) cx.1 cx.2.1 hK hP i 1 (z_w_at hs) rfl rfl hd k2
  | 2, _ => exact va_alen (D := D) (tys := z_t cA) (cA := cA 2) (x := (n, .inl (h.1 i))) cx.1 cx.2.1 hK hP i 2 (z_w_at hs) rfl rfl hd k2
/-- returns -/
theorem Z.iret {v : Int32} {ty : FieldType} (hd : decode cc pc = .ok (.ireturn, 1)) (hr : ret = some ty) (hn : narrow ty (.int v) = .int v) (hk : K (some (.int v)) h) : Z y cc nL ret d K pc lv [.int v] h := by
  intro p l e s m args below meth c D ad cA A H locs ls cx hP hD hS hl
  have hlocks := cx.2.2.2.2.1
  exact W.zret (ty := ty) cx.1 cx.2.1 (cx.2.2.2.1.trans hr) hn (fun t ht hW => ⟨⟨some (.int v), h, rfl, hk, by rw [ht]; exact hP, hD⟩, hS.F ht⟩) hS.2.2 hd hlocks
theorem Z.lret {v : Int64} (hd : decode cc pc = .ok (.lreturn, 1)) (hr : ret = some .long) (hk : K (some (.long v)) h) : Z y cc nL ret d K pc lv [.long v] h := by
  intro p l e s m args below meth c D ad cA A H locs ls cx hP hD hS hl
  have hlocks := cx.2.2.2.2.1
  exact W.lret cx.1 cx.2.1 (cx.2.2.2.1.trans hr) (fun t ht hW => ⟨⟨some (.long v), h, rfl, hk, by rw [ht]; exact hP, hD⟩, hS.F ht⟩) hS.2.2 hd hlocks
theorem Z.vret (hd : decode cc pc = .ok (.return_, 1)) (hr : ret = none) (hk : K none h) : Z y cc nL ret d K pc lv [] h := by
  intro p l e s m args below meth c D ad cA A H locs ls cx hP hD hS hl
  have hlocks := cx.2.2.2.2.1
  exact W.vret cx.1 cx.2.1 (cx.2.2.2.1.trans hr) (fun t ht hW => ⟨⟨none, h, rfl, hk, by rw [ht]; exact hP, hD⟩, hS.F ht⟩) hS.2.2 hd hlocks
/-- behind a call -/
theorem z_call {p : Program} {l : Launch} {e : Env} {R : Room} {s : State} {m : MethodId} {args : Array Value} {below : List Frame} {meth : Method} {c : Code} {H : Heap} {locs : List Loc} {cells slots : Nat} {Q : State → Prop} {ls : Array Slot} {st0 rest : List Value} {D : va_G} {ad : Nat → Nat} {cA : Nat → ClassId} {A A0 : Nat → Prop} {K' : Option Value → hp → Prop} {a : Array Value} {H0 : Heap} {free : Addr → Prop}
    (hr : va_Run p l e R s m args below meth c H locs cells slots 0 0 (F0 m pc ls st0) rest (z_Q D ad cA A K' a) free) (hS : va_S A0 H0 H locs) (hA : ∀ q, A q → A0 q) (hf : ∀ q, free q → A0 q)
    (kk : ∀ (r : Option Value) (h' : hp) (H1 : Heap) (locs1 : List Loc), K' r h' → va_P D vwCl (z_w ad cA h') H1 → va_D A0 (z_w ad cA h') → va_S A0 H0 H1 locs1 → (∀ q : Nat, q < H.size → ¬ A q → H1[q]? = H[q]?) → W p l e R s m args below meth c H1 locs1 cells slots Q (F0 m (pc + 3) ls ((r.map (z_v ad)).toList ++ rest))) : W p l e R s m args below meth c H locs cells slots Q (F0 m pc ls st0) := by
  intro T hT X
  obtain ⟨v, st₀, t, T', L, h0, X', hL, e1, e2, ⟨⟨r, h', hv, hk, hP1, hD1⟩, hz, hq⟩, st⟩ := hr T hT X
  cases hv
  rw [h0] at hz hq
  obtain ⟨t2, a1, b1⟩ := kk r h' T'.heap (locs ++ L) hk (by rw [e1]; exact hP1) (hD1.weaken (fun _ q _ z => hA q.1 z))
    ⟨Nat.le_trans hS.1 (by rw [e1]; exact hz), fun q h1 h2 => by rw [e1, hq q (Nat.lt_of_lt_of_le h1 hS.1) (fun z => h2 (hA q z))]; exact hS.2.1 q h1 h2, fun q hq => by
      rcases List.mem_append.mp hq with h | h
      · exact hS.2.2 q h
      · exact hf _ (hL q h)⟩ (fun q h1 h2 => by rw [e1]; exact hq q h1 h2) T' rfl X'
  exact ⟨t2, st t2 a1, b1⟩
theorem z_blind {D : va_G} {ad : Nat → Nat} {cA : Nat → ClassId} {av : List Value} {sz : Nat} {B : Nat → Prop} : FrameBlind (va_Pc av (fun U => U.heap.size = sz ∧ va_P D vwCl (z_w ad cA h) U.heap ∧ va_K D vwCl (z_t cA) U ∧ va_D (fun _ => True) (z_w ad cA h) ∧ z_X ad B U U.heap)) := by
  intro a U g mk q
  obtain ⟨q0, q1, qP, qK, qD, qX⟩ := q
  exact ⟨q0, q1, qP, va_K.moved (u := U) (U := U.calling g mk a) (Vm.Alike.refl U.vm) qK, qD, qX.same (U := U.calling g mk a) rfl⟩
theorem z_stk (ad : Nat → Nat) (As rest : List Value) : (As.reverse ++ rest).map (z_v ad) = (As.map (z_v ad)).reverse ++ rest.map (z_v ad) := by
  rw [List.map_append, List.map_reverse]
theorem z_cats (ad : Nat → Nat) : ∀ rest : List Value, ((rest.map (z_v ad)).map fun v => v.category) = rest.map fun v => v.category
  | [] => rfl
  | a :: t => by
    have ih := z_cats ad t
    simp only [List.map_cons, z_v_cat, List.cons.injEq, true_and] at ih ⊢
    exact ih
theorem z_ret (ad : Nat → Nat) (r : Option Value) (rest : List Value) : (r.map (z_v ad)).toList ++ rest.map (z_v ad) = (r.toList ++ rest).map (z_v ad) := by
  cases r <;> rfl
theorem z_cons {x : Cond} (w4 : x ∈ z_tb) : ∀ w ∈ x :: z_tb, w ∈ z_tb := fun w hw => (List.mem_cons.mp hw).elim (fun e => e ▸ w4) id
theorem z_room {d d' nL' : Nat} (h1 : d' + 1 ≤ d) (h2 : nL' ≤ 19) : (z_rm d').frames + 1 ≤ (z_rm d).frames ∧ 8 + (nL' + 11) + (z_rm d').locals ≤ (z_rm d).locals := by
  refine ⟨h1, ?_⟩
  show 8 + (nL' + 11) + 38 * d' ≤ 38 * d
  omega
theorem z_free {D : va_G} {ad : Nat → Nat} {cA : Nat → ClassId} {A : Nat → Prop} {s : State} {H : Heap} {locs : List Loc} (hA : ∀ q, s.heap.size ≤ q → A q) (hD : va_D A (z_w ad cA h)) (hS : va_S A s.heap H locs) : ∀ q, va_A (z_w ad cA h) H.size q → A q := by
  intro q hq
  rcases hq with ⟨k, e, hk⟩ | hq
  · exact hD.2 k (q, e) hk
  · exact hA q (Nat.le_trans hS.1 hq)
theorem Z.callV {y' : MethodName} {cc' : ByteArray} {nL' : Nat} {ret' : Option FieldType} {d' : Nat} {K' : Option Value → hp → Prop} {b idx n ci N : Nat} {As rest : List Value} {fs : List Nat} {T : u_T} (hd : decode cc pc = .ok (.invokevirtual idx, 3)) (hc : Cn y' cc' nL' ret' d' (.ref b :: As) h K') (hlk : Cond.methodLink y.cls idx y' ∈ z_tb) (hy : z_yv y' cc' nL' ret' n) (hs : z_sh[b]? = some (.inr (ci, fs))) (hci : vwCl[ci]? = some (y'.cls, T, N)) (hn : As.length = n) (hst : st = As.reverse ++ .ref b :: rest) (hdp : d' + 1 ≤ d) (hnl : nL' ≤ 19) (hrest : (rest.map fun v => v.category).sum ≤ 8)
    (k : ∀ r h', K' r h' → Z y cc nL ret d K (pc + 3) lv (r.toList ++ rest) h') : Z y cc nL ret d K pc lv st h := by
  subst hst
  intro p l e s m args below meth c D ad cA A H locs ls cx hP hD hS hl
  obtain ⟨hx, hb, hml, hr, hlocks, hown, hts, hA, hK, hX⟩ := id cx
  obtain ⟨w1, w2, w3, w4, w5, w6, w7⟩ := hy
  have hFc : ∀ q, va_A (z_w ad cA h) H.size q → A q := z_free (D := D) hA hD hS
  have hM := hc l D ad cA H.size
  have hrun := va_runV (R := z_rm d) (cells := 0) (slots := 0) (locs := locs) (below := below) (meth := meth) (e := e) (H := H) (C := y'.cls) (b := ad b) (As := As.map (z_v ad)) (rest := rest.map (z_v ad)) (n := n) (index := idx) (g := F0 m pc ls ((As.reverse ++ .ref b :: rest).map (z_v ad))) ⟨hx, hb, hml, hown, hts⟩ hM
    ⟨callB_of n hts (z_goodIn (z_cons w4)) rfl rfl rfl (hts _ w3) (hts _ hlk) ⟨w5, w6, w7⟩ (z_room hdp hnl), hts _ w1, hts _ w2⟩
    ⟨z_blind, va_recv hK hP hci (z_w_at hs), fun U hU hW => ⟨rfl, by rw [hU], by rw [hU]; exact hP, hK.moved hW.alike, hD.weaken (fun _ _ _ _ => trivial), by rw [hU]; exact hX.go hW hS.2.1 hFc⟩⟩
    rfl (by rw [List.length_map]; exact hn) hl.1 (by rw [z_stk]; rfl) (lv_room (by rw [z_cats]; exact hrest)) hd ⟨Nat.zero_le _, Nat.zero_le _⟩
  refine z_call hrun hS hFc hFc (fun r h' H1 locs1 hk hP hD hS _ => ?_)
  rw [z_ret]
  exact k r h' hk p l e s m args below meth c D ad cA A H1 locs1 ls cx hP hD hS hl
theorem Z.callS {y' : MethodName} {cc' : ByteArray} {nL' : Nat} {ret' : Option FieldType} {d' : Nat} {K' : Option Value → hp → Prop} {idx n : Nat} {As rest : List Value} (hd : decode cc pc = .ok (.invokestatic idx, 3)) (hc : Cn y' cc' nL' ret' d' As h K') (hlk : Cond.methodLink y.cls idx y' ∈ z_tb) (hy : z_ys y' cc' nL' ret' n) (hn : As.length = n) (hst : st = As.reverse ++ rest) (hdp : d' + 1 ≤ d) (hnl : nL' ≤ 19) (hrest : (rest.map fun v => v.category).sum ≤ 8)
    (k : ∀ r h', K' r h' → Z y cc nL ret d K (pc + 3) lv (r.toList ++ rest) h') : Z y cc nL ret d K pc lv st h := by
  subst hst
  intro p l e s m args below meth c D ad cA A H locs ls cx hP hD hS hl
  obtain ⟨hx, hb, hml, hr, hlocks, hown, hts, hA, hK, hX⟩ := id cx
  obtain ⟨w1, w3, w4, w5, w6, w7⟩ := hy
  have hFc : ∀ q, va_A (z_w ad cA h) H.size q → A q := z_free (D := D) hA hD hS
  have hM := hc l D ad cA H.size
  have hrun := va_runS (R := z_rm d) (cells := 0) (slots := 0) (locs := locs) (below := below) (meth := meth) (e := e) (H := H) (As := As.map (z_v ad)) (rest := rest.map (z_v ad)) (n := n) (index := idx) (g := F0 m pc ls ((As.reverse ++ rest).map (z_v ad))) ⟨hx, hb, hml, hown, hts⟩ hM
    ⟨callB_of n hts (z_goodIn (z_cons w4)) rfl rfl rfl (hts _ w3) (hts _ hlk) ⟨w5, w6, w7⟩ (z_room hdp hnl), hts _ w1⟩
    ⟨z_blind, fun U hU hW => ⟨rfl, by rw [hU], by rw [hU]; exact hP, hK.moved hW.alike, hD.weaken (fun _ _ _ _ => trivial), by rw [hU]; exact hX.go hW hS.2.1 hFc⟩⟩
    rfl (by rw [List.length_map]; exact hn) hl.1 (z_stk ad As rest) (lv_room (by rw [z_cats]; exact hrest)) hd ⟨Nat.zero_le _, Nat.zero_le _⟩
  refine z_call hrun hS hFc hFc (fun r h' H1 locs1 hk hP hD hS _ => ?_)
  rw [z_ret]
  exact k r h' hk p l e s m args below meth c D ad cA A H1 locs1 ls cx hP hD hS hl
/-- isAmong, called from a nest mate -/
theorem Z.callN {cc' : ByteArray} {nL' : Nat} {ret' : Option FieldType} {d' : Nat} {K' : Option Value → hp → Prop} {idx n : Nat} {As rest : List Value} (hd : decode cc pc = .ok (.invokestatic idx, 3)) (hc : Cn yX8_isAmong cc' nL' ret' d' As h K') (hlk : (y.cls = RX6 ∧ idx = 63) ∨ (y.cls = RX2 ∧ idx = 29) ∨ (y.cls = RX0 ∧ idx = 41)) (hy : z_ys yX8_isAmong cc' nL' ret' n) (hn : As.length = n) (hst : st = As.reverse ++ rest) (hdp : d' + 1 ≤ d) (hnl : nL' ≤ 19) (hrest : (rest.map fun v => v.category).sum ≤ 8)
    (k : ∀ r h', K' r h' → Z y cc nL ret d K (pc + 3) lv (r.toList ++ rest) h') : Z y cc nL ret d K pc lv st h := by
  subst hst
  intro p l e s m args below meth c D ad cA A H locs ls cx hP hD hS hl
  obtain ⟨hx, hb, hml, hr, hlocks, hown, hts, hA, hK, hX⟩ := id cx
  obtain ⟨w1, w3, w4, w5, w6, w7⟩ := hy
  have hNw : va_Nw (.methodLinkNest y.cls idx yX8_isAmong RX8) s := by
    rcases hlk with ⟨e1, e2⟩ | ⟨e1, e2⟩ | ⟨e1, e2⟩
    · rw [e1, e2]; exact hX.1
    · rw [e1, e2]; exact hX.2.1
    · rw [e1, e2]; exact hX.2.2.1
  have hFc : ∀ q, va_A (z_w ad cA h) H.size q → A q := z_free (D := D) hA hD hS
  have hM := hc l D ad cA H.size
  have hrun := va_runSN (R := z_rm d) (cells := 0) (slots := 0) (locs := locs) (below := below) (meth := meth) (e := e) (H := H) (host := RX8) (As := As.map (z_v ad)) (rest := rest.map (z_v ad)) (n := n) (index := idx) (g := F0 m pc ls ((As.reverse ++ rest).map (z_v ad))) ⟨hx, hb, hml, hown, hts⟩ hM
    ⟨va_cnB n hts (z_goodIn (z_cons w4)) rfl rfl rfl hNw (hts _ w3) ⟨w5, w6, w7⟩ (z_room hdp hnl), hts _ w1, trivial⟩
    ⟨z_blind, fun U hU hW => ⟨rfl, by rw [hU], by rw [hU]; exact hP, hK.moved hW.alike, hD.weaken (fun _ _ _ _ => trivial), by rw [hU]; exact hX.go hW hS.2.1 hFc⟩⟩
    rfl (by rw [List.length_map]; exact hn) hl.1 (z_stk ad As rest) (lv_room (by rw [z_cats]; exact hrest)) hd ⟨Nat.zero_le _, Nat.zero_le _⟩
  refine z_call hrun hS hFc hFc (fun r h' H1 locs1 hk hP hD hS _ => ?_)
  rw [z_ret]
  exact k r h' hk p l e s m args below meth c D ad cA A H1 locs1 ls cx hP hD hS hl
end ZR
/-- a known answer and a known heap -/
def z_eq (r : Option Value) (h1 : hp) : Option Value → hp → Prop := fun r' h' => r' = r ∧ h' = h1
theorem z_eq.k {P : Option Value → hp → Prop} {r : Option Value} {h1 : hp} (k : P r h1) : ∀ r' h', z_eq r h1 r' h' → P r' h' := by
  rintro _ _ ⟨rfl, rfl⟩
  exact k
end
section
section ZQ
variable {y : MethodName} {cc : ByteArray} {nL : Nat} {ret : Option FieldType} {d : Nat} {K : Option Value → hp → Prop} {pc : Nat} {lv : List (Nat × Value)} {st : List Value} {h : hp}
theorem Z.callVi {y' : MethodName} {cc' : ByteArray} {nL' : Nat} {ret' : Option FieldType} {d' : Nat} {h1 : hp} {v : Value} {b idx n ci N : Nat} {As rest : List Value} {fs : List Nat} {T : u_T} (hd : decode cc pc = .ok (.invokevirtual idx, 3)) (hc : Cn y' cc' nL' ret' d' (.ref b :: As) h (z_eq (some v) h1)) (hlk : Cond.methodLink y.cls idx y' ∈ z_tb) (hy : z_yv y' cc' nL' ret' n) (hs : z_sh[b]? = some (.inr (ci, fs))) (hci : vwCl[ci]? = some (y'.cls, T, N)) (hn : As.length = n) (hst : st = As.reverse ++ .ref b :: rest) (hdp : d' + 1 ≤ d) (hnl : nL' ≤ 19) (hrest : (rest.map fun v => v.category).sum ≤ 8) (k : Z y cc nL ret d K (pc + 3) lv (v :: rest) h1) : Z y cc nL ret d K pc lv st h := Z.callV hd hc hlk hy hs hci hn hst hdp hnl hrest (fun r h' q => by obtain ⟨rfl, rfl⟩ := q; exact k)
theorem Z.callVv {y' : MethodName} {cc' : ByteArray} {nL' : Nat} {ret' : Option FieldType} {d' : Nat} {h1 : hp} {b idx n ci N : Nat} {As rest : List Value} {fs : List Nat} {T : u_T} (hd : decode cc pc = .ok (.invokevirtual idx, 3)) (hc : Cn y' cc' nL' ret' d' (.ref b :: As) h (z_eq none h1)) (hlk : Cond.methodLink y.cls idx y' ∈ z_tb) (hy : z_yv y' cc' nL' ret' n) (hs : z_sh[b]? = some (.inr (ci, fs))) (hci : vwCl[ci]? = some (y'.cls, T, N)) (hn : As.length = n) (hst : st = As.reverse ++ .ref b :: rest) (hdp : d' + 1 ≤ d) (hnl : nL' ≤ 19) (hrest : (rest.map fun v => v.category).sum ≤ 8) (k : Z y cc nL ret d K (pc + 3) lv rest h1) : Z y cc nL ret d K pc lv st h := Z.callV hd hc hlk hy hs hci hn hst hdp hnl hrest (fun r h' q => by obtain ⟨rfl, rfl⟩ := q; exact k)
theorem Z.callSi {y' : MethodName} {cc' : ByteArray} {nL' : Nat} {ret' : Option FieldType} {d' : Nat} {h1 : hp} {v : Value} {idx n : Nat} {As rest : List Value} (hd : decode cc pc = .ok (.invokestatic idx, 3)) (hc : Cn y' cc' nL' ret' d' As h (z_eq (some v) h1)) (hlk : Cond.methodLink y.cls idx y' ∈ z_tb) (hy : z_ys y' cc' nL' ret' n) (hn : As.length = n) (hst : st = As.reverse ++ rest) (hdp : d' + 1 ≤ d) (hnl : nL' ≤ 19) (hrest : (rest.map fun v => v.category).sum ≤ 8) (k : Z y cc nL ret d K (pc + 3) lv (v :: rest) h1) : Z y cc nL ret d K pc lv st h := Z.callS hd hc hlk hy hn hst hdp hnl hrest (fun r h' q => by obtain ⟨rfl, rfl⟩ := q; exact k)
theorem Z.callSv {y' : MethodName} {cc' : ByteArray} {nL' : Nat} {ret' : Option FieldType} {d' : Nat} {h1 : hp} {idx n : Nat} {As rest : List Value} (hd : decode cc pc = .ok (.invokestatic idx, 3)) (hc : Cn y' cc' nL' ret' d' As h (z_eq none h1)) (hlk : Cond.methodLink y.cls idx y' ∈ z_tb) (hy : z_ys y' cc' nL' ret' n) (hn : As.length = n) (hst : st = As.reverse ++ rest) (hdp : d' + 1 ≤ d) (hnl : nL' ≤ 19) (hrest : (rest.map fun v => v.category).sum ≤ 8) (k : Z y cc nL ret d K (pc + 3) lv rest h1) : Z y cc nL ret d K pc lv st h := Z.callS hd hc hlk hy hn hst hdp hnl hrest (fun r h' q => by obtain ⟨rfl, rfl⟩ := q; exact k)
theorem Z.callNi {cc' : ByteArray} {nL' : Nat} {ret' : Option FieldType} {d' : Nat} {h1 : hp} {v : Value} {idx n : Nat} {As rest : List Value} (hd : decode cc pc = .ok (.invokestatic idx, 3)) (hc : Cn yX8_isAmong cc' nL' ret' d' As h (z_eq (some v) h1)) (hlk : (y.cls = RX6 ∧ idx = 63) ∨ (y.cls = RX2 ∧ idx = 29) ∨ (y.cls = RX0 ∧ idx = 41)) (hy : z_ys yX8_isAmong cc' nL' ret' n) (hn : As.length = n) (hst : st = As.reverse ++ rest) (hdp : d' + 1 ≤ d) (hnl : nL' ≤ 19) (hrest : (rest.map fun v => v.category).sum ≤ 8) (k : Z y cc nL ret d K (pc + 3) lv (v :: rest) h1) : Z y cc nL ret d K pc lv st h := Z.callN hd hc hlk hy hn hst hdp hnl hrest (fun r h' q => by obtain ⟨rfl, rfl⟩ := q; exact k)
/-- truth values -/
def zb (b : Bool) : Int32 := cond b 1 0
theorem zb_nar (b : Bool) : narrow .boolean (.int (zb b)) = .int (zb b) := by cases b <;> rfl
theorem zb_0 {b : Bool} : zb b = 0 ↔ b = false := by cases b <;> decide
theorem Z.if_eq_b {b : Bool} {off : Int} {tgt : Nat} (hd : decode cc pc = .ok (.ifCond .eq off, 3)) (ht : (pc : Int) + off = (tgt : Int)) (kt : b = false → Z y cc nL ret d K tgt lv st h) (kf : b = true → Z y cc nL ret d K (pc + 3) lv st h) : Z y cc nL ret d K pc lv (.int (zb b) :: st) h :=
  Z.if_eq hd ht (fun q => kt (zb_0.mp q)) (fun q => kf (by cases b with | true => rfl | false => exact absurd rfl q))
theorem Z.if_ne_b {b : Bool} {off : Int} {tgt : Nat} (hd : decode cc pc = .ok (.ifCond .ne off, 3)) (ht : (pc : Int) + off = (tgt : Int)) (kt : b = true → Z y cc nL ret d K tgt lv st h) (kf : b = false → Z y cc nL ret d K (pc + 3) lv st h) : Z y cc nL ret d K pc lv (.int (zb b) :: st) h :=
  Z.if_ne hd ht (fun q => kt (by cases b with | true => rfl | false => exact absurd rfl q)) (fun q => kf (zb_0.mp q))
theorem Z.if_eq_bt {b : Bool} {off : Int} {tgt : Nat} (hd : decode cc pc = .ok (.ifCond .eq off, 3)) (ht : (pc : Int) + off = (tgt : Int)) (hb : b = false) (k : Z y cc nL ret d K tgt lv st h) : Z y cc nL ret d K pc lv (.int (zb b) :: st) h := Z.if_eq_t hd ht (zb_0.mpr hb) k
theorem Z.if_eq_bf {b : Bool} {off : Int} {tgt : Nat} (hd : decode cc pc = .ok (.ifCond .eq off, 3)) (ht : (pc : Int) + off = (tgt : Int)) (hb : b = true) (k : Z y cc nL ret d K (pc + 3) lv st h) : Z y cc nL ret d K pc lv (.int (zb b) :: st) h := Z.if_eq_f hd ht (by rw [zb_0, hb]; decide) k
theorem Z.if_ne_bt {b : Bool} {off : Int} {tgt : Nat} (hd : decode cc pc = .ok (.ifCond .ne off, 3)) (ht : (pc : Int) + off = (tgt : Int)) (hb : b = true) (k : Z y cc nL ret d K tgt lv st h) : Z y cc nL ret d K pc lv (.int (zb b) :: st) h := Z.if_ne_t hd ht (by rw [zb_0, hb]; decide) k
theorem Z.if_ne_bf {b : Bool} {off : Int} {tgt : Nat} (hd : decode cc pc = .ok (.ifCond .ne off, 3)) (ht : (pc : Int) + off = (tgt : Int)) (hb : b = false) (k : Z y cc nL ret d K (pc + 3) lv st h) : Z y cc nL ret d K pc lv (.int (zb b) :: st) h := Z.if_ne_f hd ht (zb_0.mpr hb) k
/-- System.arraycopy of eight ints -/
theorem Z.copy8 {i j : Nat} (hd : decode cc pc = .ok (.invokestatic 57, 3)) (hy : y.cls = RX6) (hs : z_sh[i]? = some (.inl (0, 8))) (hs2 : z_sh[j]? = some (.inl (0, 8))) (hdp : 1 ≤ d) (hrest : (st.map fun v => v.category).sum ≤ 8) (k : Z y cc nL ret d K (pc + 3) lv st (z_row h j (va_cpy (h.1 i) (h.1 j) 0 0 8))) : Z y cc nL ret d K pc lv (.int 8 :: .int 0 :: .ref j :: .int 0 :: .ref i :: st) h := by
  intro p l e s m args below meth c D ad cA A H locs ls cx hP hD hS hl
  obtain ⟨hx, hb, hml, hr, hlocks, hown, hts, hA, hK, hX⟩ := id cx
  obtain ⟨w1, w2, w3, w4⟩ := z_ac
  rw [hy] at hown
  have e2 : (z_w ad cA h).set j (ad j, .inl (cA 0, 8, .inl (va_cpy (h.1 i) (h.1 j) 0 0 8))) = z_w ad cA (z_row h j (va_cpy (h.1 i) (h.1 j) 0 0 8)) := z_w_set hs2 (by simp [z_e, z_row, va_up]) (fun _ _ hj => z_e_row hj)
  refine va_copyi (D := D) (tys := z_t cA) (rest := st.map (z_v ad)) (sp := 0) (dp := 0) (n := 8) (c0 := cA 0) (c1 := cA 0) (n0 := 8) (n1 := 8) (f := h.1 i) (g := h.1 j) (ty := .int) hx hb (by rw [hml]; exact hl.1.symm) hown (hts _ w1) (hts _ w2) (hts _ w3) (hts _ w4) hK hP hD hS i j 0 0 (z_w_at hs) (z_w_at hs2) rfl rfl rfl (by decide) (by decide) (by decide) (by decide) (by decide) (fun _ _ => rfl) hdp ?_ hd (fun H locs hP hD hS => ?_)
  · rw [z_cats]
    show _ + (nativeFrameWords "java/lang/System" "arraycopy" 5 + 11) ≤ 38 * d
    have : nativeFrameWords "java/lang/System" "arraycopy" 5 = 7 := by decide +kernel
    omega
  · have e3 : ((0 : Int32).toNatClampNeg) = 0 := by decide
    have e4 : ((8 : Int32).toNatClampNeg) = 8 := by decide
    rw [e3, e4, e2] at hP hD
    exact k p l e s m args below meth c D ad cA A H locs ls cx hP hD hS hl
/-- the text "gchpk" -/
theorem Z.ldcS (hd : decode cc pc = .ok (.ldc 11, 2)) (hy : y.cls = RX3) (k : Z y cc nL ret d K (pc + 2) lv (.ref 100 :: st) h) : Z y cc nL ret d K pc lv st h := by
  intro p l e s m args below meth c D ad cA A H locs ls cx hP hD hS hl
  have hown := cx.2.2.2.2.2.1
  rw [hy] at hown
  exact va_ldcS cx.1 cx.2.1 hown cx.2.2.2.2.2.2.2.2.2.2.2.2.1 hd (k p l e s m args below meth c D ad cA A H locs ls cx hP hD hS hl)
theorem Z.getS_v {idx : Nat} (hd : decode cc pc = .ok (.getfield idx, 3)) (hw : Cond.fieldLink y.cls idx "java/lang/String" "value" "[B" ∈ z_tb) (k : Z y cc nL ret d K (pc + 3) lv (.ref 101 :: st) h) : Z y cc nL ret d K pc lv (.ref 100 :: st) h := by
  intro p l e s m args below meth c D ad cA A H locs ls cx hP hD hS hl
  have hE := (cx.2.2.2.2.2.2.2.2.2.2.2.2.2.1.1 0 (by decide)).2.2.1
  exact vk_getf cx.1 cx.2.1 hE hS cx.2.2.2.2.2.1 (cx.2.2.2.2.2.2.1 _ hw) (fun _ q => q) hd (k p l e s m args below meth c D ad cA A H locs ls cx hP hD hS hl)
theorem Z.getS_c {idx : Nat} (hd : decode cc pc = .ok (.getfield idx, 3)) (hw : Cond.fieldLink y.cls idx "java/lang/String" "coder" "B" ∈ z_tb) (k : Z y cc nL ret d K (pc + 3) lv (.int 0 :: st) h) : Z y cc nL ret d K pc lv (.ref 100 :: st) h := by
  intro p l e s m args below meth c D ad cA A H locs ls cx hP hD hS hl
  have hE := (cx.2.2.2.2.2.2.2.2.2.2.2.2.2.1.1 0 (by decide)).2.1
  exact vk_getf cx.1 cx.2.1 hE hS cx.2.2.2.2.2.1 (cx.2.2.2.2.2.2.1 _ hw) (fun _ q => q) hd (k p l e s m args below meth c D ad cA A H locs ls cx hP hD hS hl)
theorem Z.alenS (hd : decode cc pc = .ok (.arraylength, 1)) (k : Z y cc nL ret d K (pc + 1) lv (.int 5 :: st) h) : Z y cc nL ret d K pc lv (.ref 101 :: st) h := by
  intro p l e s m args below meth c D ad cA A H locs ls cx hP hD hS hl
  obtain ⟨cell, h1, h2, h3, h4, h5, h6, h7⟩ := ((cx.2.2.2.2.2.2.2.2.2.2.2.2.2.1.1 0 (by decide)).2.2.2).kept hS.2.1
  exact W.alen (n := 5) cx.1 cx.2.1 h1 h2 h5 rfl rfl hd (k p l e s m args below meth c D ad cA A H locs ls cx hP hD hS hl)
theorem Z.baldS {j : Nat} (hd : decode cc pc = .ok (.baload, 1)) (hj : j < 5) (k : Z y cc nL ret d K (pc + 1) lv (.int (([103, 99, 104, 112, 107] : List Int32).getD j 0) :: st) h) : Z y cc nL ret d K pc lv (.int (nI j) :: .ref 101 :: st) h := by
  intro p l e s m args below meth c D ad cA A H locs ls cx hP hD hS hl
  obtain ⟨cell, h1, h2, h3, h4, h5, h6, h7⟩ := ((cx.2.2.2.2.2.2.2.2.2.2.2.2.2.1.1 0 (by decide)).2.2.2).kept hS.2.1
  have h4 : 5 ≤ cell.slots.size := h4
  have e1 : (nI j).toNatClampNeg = j := nI_clamp (by omega)
  refine W.bald (v := .int (([103, 99, 104, 112, 107] : List Int32).getD j 0)) cx.1 cx.2.1 h1 h2 h3 ?_ ?_ rfl rfl hd (k p l e s m args below meth c D ad cA A H locs ls cx hP hD hS hl)
  · rw [e1]
    rintro (q | q)
    · exact nI_pos (by omega) q
    · omega
  · rw [e1]
    exact h6 j hj
theorem Z.getsC {idx : Nat} (hd : decode cc pc = .ok (.getstatic idx, 3)) (hw : Cond.fieldLink y.cls idx "java/lang/String" "COMPACT_STRINGS" "Z" ∈ z_tb) (k : Z y cc nL ret d K (pc + 3) lv (.int 1 :: st) h) : Z y cc nL ret d K pc lv st h := by
  intro p l e s m args below meth c D ad cA A H locs ls cx hP hD hS hl
  exact va_gets cx.1 cx.2.1 cx.2.2.2.2.2.2.2.2.2.2.2.2.2.2.1 hS cx.2.2.2.2.2.1 (cx.2.2.2.2.2.2.1 _ hw) (fun _ q => q) hd (k p l e s m args below meth c D ad cA A H locs ls cx hP hD hS hl)
theorem Z.getsF {idx : Nat} (hd : decode cc pc = .ok (.getstatic idx, 3)) (hw : Cond.fieldLink y.cls idx "jdk/internal/util/Preconditions" "SIOOBE_FORMATTER" "Ljava/util/function/BiFunction;" ∈ z_tb) (k : ∀ vs : Value, (vs = .null ∨ vs = .ref 102) → Z y cc nL ret d K (pc + 3) lv (vs :: st) h) : Z y cc nL ret d K pc lv st h := by
  intro p l e s m args below meth c D ad cA A H locs ls cx hP hD hS hl
  obtain ⟨vs, h7, h8⟩ := cx.2.2.2.2.2.2.2.2.2.2.2.2.2.2.2
  exact va_gets cx.1 cx.2.1 h8 hS cx.2.2.2.2.2.1 (cx.2.2.2.2.2.2.1 _ hw) (fun _ q => q) hd (k vs h7 p l e s m args below meth c D ad cA A H locs ls cx hP hD hS hl)
theorem Z.callT {y' : MethodName} {cc' : ByteArray} {nL' : Nat} {ret' : Option FieldType} {d' : Nat} {h1 : hp} {v : Value} {idx n : Nat} {As rest : List Value} (hd : decode cc pc = .ok (.invokevirtual idx, 3)) (hc : Cn y' cc' nL' ret' d' (.ref 100 :: As) h (z_eq (some v) h1)) (hcl : y'.cls = "java/lang/String") (hlk : Cond.methodLink y.cls idx y' ∈ z_tb) (hy : z_yv y' cc' nL' ret' n) (hn : As.length = n) (hst : st = As.reverse ++ .ref 100 :: rest) (hdp : d' + 1 ≤ d) (hnl : nL' ≤ 19) (hrest : (rest.map fun v => v.category).sum ≤ 8)
    (k : Z y cc nL ret d K (pc + 3) lv (v :: rest) h1) : Z y cc nL ret d K pc lv st h := by
  subst hst
  intro p l e s m args below meth c D ad cA A H locs ls cx hP hD hS hl
  obtain ⟨hx, hb, hml, hr, hlocks, hown, hts, hA, hK, hX⟩ := id cx
  obtain ⟨w1, w2, w3, w4, w5, w6, w7⟩ := hy
  have hFc : ∀ q, va_A (z_w ad cA h) H.size q → A q := z_free (D := D) hA hD hS
  have hM := hc l D ad cA H.size
  have hrun := va_runV (R := z_rm d) (cells := 0) (slots := 0) (locs := locs) (below := below) (meth := meth) (e := e) (H := H) (C := y'.cls) (b := ad 100) (As := As.map (z_v ad)) (rest := rest.map (z_v ad)) (n := n) (index := idx) (g := F0 m pc ls ((As.reverse ++ .ref 100 :: rest).map (z_v ad))) ⟨hx, hb, hml, hown, hts⟩ hM
    ⟨callB_of n hts (z_goodIn (z_cons w4)) rfl rfl rfl (hts _ w3) (hts _ hlk) ⟨w5, w6, w7⟩ (z_room hdp hnl), hts _ w1, hts _ w2⟩
    ⟨z_blind, by rw [hcl]; exact vk_recv (i := 0) hX.2.2.2.2.1 (by decide) hS, fun U hU hW => ⟨rfl, by rw [hU], by rw [hU]; exact hP, hK.moved hW.alike, hD.weaken (fun _ _ _ _ => trivial), by rw [hU]; exact hX.go hW hS.2.1 hFc⟩⟩
    rfl (by rw [List.length_map]; exact hn) hl.1 (by rw [z_stk]; rfl) (lv_room (by rw [z_cats]; exact hrest)) hd ⟨Nat.zero_le _, Nat.zero_le _⟩
  refine z_call hrun hS hFc hFc (fun r h' H1 locs1 hk hP hD hS _ => ?_)
  obtain ⟨rfl, rfl⟩ := hk
  rw [z_ret]
  exact k p l e s m args below meth c D ad cA A H1 locs1 ls cx hP hD hS hl
def maxI (x y : Int32) : Int32 := if x < y then y else x
theorem Z.mmax {idx : Nat} {a b : Int32} (hd : decode cc pc = .ok (.invokestatic idx, 3)) (hlk : Cond.methodLink y.cls idx yJ9_max_7cf53 ∈ z_tb) (hdp : 1 ≤ d) (hrest : (st.map fun v => v.category).sum ≤ 8) (k : Z y cc nL ret d K (pc + 3) lv (.int (maxI a b) :: st) h) : Z y cc nL ret d K pc lv (.int b :: .int a :: st) h := by
  intro p l e s m args below meth c D ad cA A H locs ls cx hP hD hS hl
  obtain ⟨hx, hb, hml, hr, hlocks, hown, hts, hA, hK, hX⟩ := id cx
  obtain ⟨w1, w3, w4, w5, w6, w7⟩ := zs_J9_max_7cf53
  refine va_mmax (rest := st.map (z_v ad)) hx hb (by rw [hml]; exact hl.1.symm) hown (hts _ hlk) (hts _ w1) (hts _ w3) (hts _ w4) hdp ?_ (Nat.zero_le _) (Nat.zero_le _) hd (k p l e s m args below meth c D ad cA A H locs ls cx hP hD hS hl)
  rw [z_cats]
  show _ + 13 ≤ 38 * d
  omega
end ZQ
end
section
/-! bits of ints -/
theorem bs_l : ∀ n, n < 32 → ((nI n &&& 31).toBitVec.smod 32).toNat = n := by decide +kernel
def dif (m b : Nat) : Nat := m ^^^ (m &&& b)
theorem dif_bit (m b i : Nat) : (dif m b).testBit i = (m.testBit i && !b.testBit i) := by
  simp only [dif, Nat.testBit_xor, Nat.testBit_and]
  cases m.testBit i <;> cases b.testBit i <;> rfl
theorem nb_and (a b : Nat) : nI a &&& nI b = nI (a &&& b) := by
  apply Int32.toBitVec_inj.1
  show BitVec.ofNat 32 a &&& BitVec.ofNat 32 b = BitVec.ofNat 32 (a &&& b)
  apply BitVec.eq_of_getLsbD_eq
  intro i hi
  simp [hi]
theorem nb_or (a b : Nat) : nI a ||| nI b = nI (a ||| b) := by
  apply Int32.toBitVec_inj.1
  show BitVec.ofNat 32 a ||| BitVec.ofNat 32 b = BitVec.ofNat 32 (a ||| b)
  apply BitVec.eq_of_getLsbD_eq
  intro i hi
  simp [hi]
theorem nb_dif (a b : Nat) : nI a &&& (nI b ^^^ (-1)) = nI (dif a b) := by
  apply Int32.toBitVec_inj.1
  show BitVec.ofNat 32 a &&& (BitVec.ofNat 32 b ^^^ BitVec.allOnes 32) = BitVec.ofNat 32 (dif a b)
  apply BitVec.eq_of_getLsbD_eq
  intro i hi
  simp only [BitVec.getLsbD_and, BitVec.getLsbD_xor, BitVec.getLsbD_ofNat, BitVec.getLsbD_allOnes, hi, decide_true, Bool.true_and, dif_bit]
  cases a.testBit i <;> cases b.testBit i <;> rfl
theorem nb_shl {g : Nat} (hg : g < 31) : nI 1 <<< (nI g &&& 31) = nI (2 ^ g) := by
  have h : (2 : Nat) ^ g ≤ 2 ^ 30 := Nat.pow_le_pow_right (by decide) (by omega)
  have := pk_shlN (n := 1) (nI g &&& 31) g (bs_l g (by omega)) (by omega)
  rw [this, Nat.one_mul]
theorem nb_bit {m g : Nat} (hm : m < 2 ^ 31) (hg : g < 32) : (nI m >>> (nI g &&& 31)) &&& 1 = zb (m.testBit g) := by
  rw [pk_shrN hm _ g (bs_l g hg)]
  show nI (m / 2 ^ g) &&& nI 1 = _
  rw [nb_and, Nat.and_one_is_mod, Nat.testBit_eq_decide_div_mod_eq]
  rcases Nat.mod_two_eq_zero_or_one (m / 2 ^ g) with e | e <;> rw [e] <;> rfl
theorem zb_1 {b : Bool} : zb b = 1 ↔ b = true := by cases b <;> decide
theorem nb_pow1 {n : Nat} : nI (2 ^ n) - 1 = nI (2 ^ n - 1) := by
  have h : 2 ^ n = (2 ^ n - 1) + 1 := by have := Nat.two_pow_pos n; omega
  rw [h, nI_pred]
  rfl
theorem bit_lt {m n : Nat} (h : m < 2 ^ n) {i : Nat} (hi : n ≤ i) : m.testBit i = false := Nat.testBit_lt_two_pow (Nat.lt_of_lt_of_le h (Nat.pow_le_pow_right (by decide) hi))
theorem lt_bits {m n : Nat} (h : ∀ i, n ≤ i → m.testBit i = false) : m < 2 ^ n := Nat.lt_pow_two_of_testBit m h
theorem dif_lt {m b n : Nat} (h : m < 2 ^ n) : dif m b < 2 ^ n := lt_bits (fun i hi => by rw [dif_bit, bit_lt h hi]; rfl)
theorem or_lt {m b n : Nat} (h : m < 2 ^ n) (h2 : b < 2 ^ n) : m ||| b < 2 ^ n := Nat.or_lt_two_pow h h2
theorem and_lt {m b n : Nat} (h : m < 2 ^ n) : m &&& b < 2 ^ n := lt_bits (fun i hi => by rw [Nat.testBit_and, bit_lt h hi]; rfl)
theorem all_bit (n i : Nat) : (2 ^ n - 1).testBit i = decide (i < n) := Nat.testBit_two_pow_sub_one n i
/-- how many i below n have it -/
def cntB (c : Nat → Bool) : Nat → Nat
  | 0 => 0
  | n + 1 => cntB c n + (c n).toNat
def pop (m : Nat) : Nat := cntB m.testBit 10
theorem cntB_le (c : Nat → Bool) : ∀ n, cntB c n ≤ n
  | 0 => Nat.le_refl 0
  | n + 1 => by
    have := cntB_le c n
    have h2 : (c n).toNat ≤ 1 := by cases c n <;> decide
    unfold cntB
    omega
theorem pop_le (m : Nat) : pop m ≤ 10 := cntB_le _ 10
theorem cntB_congr {c c' : Nat → Bool} : ∀ {n : Nat}, (∀ i, i < n → c i = c' i) → cntB c n = cntB c' n
  | 0, _ => rfl
  | n + 1, h => by
    unfold cntB
    rw [cntB_congr (fun i hi => h i (by omega)), h n (by omega)]
def sumI (f : Nat → Int32) : Nat → Int32
  | 0 => 0
  | n + 1 => sumI f n + f n
theorem sumI_congr {f g : Nat → Int32} : ∀ {n : Nat}, (∀ i, i < n → f i = g i) → sumI f n = sumI g n
  | 0, _ => rfl
  | n + 1, h => by
    unfold sumI
    rw [sumI_congr (fun i hi => h i (by omega)), h n (by omega)]
theorem sumI_add (f : Nat → Int32) (n : Nat) : ∀ k, (∀ i, n ≤ i → i < n + k → f i = 0) → sumI f (n + k) = sumI f n
  | 0, _ => rfl
  | k + 1, h => by
    show sumI f (n + k) + f (n + k) = _
    rw [sumI_add f n k (fun i h1 h2 => h i h1 (by omega)), h (n + k) (by omega) (by omega), Int32.add_zero]
def orb (c : Nat → Bool) : Nat → Nat
  | 0 => 0
  | n + 1 => cond (c n) (orb c n ||| 2 ^ n) (orb c n)
theorem orb_bit (c : Nat → Bool) (i : Nat) : ∀ n, (orb c n).testBit i = (decide (i < n) && c i)
  | 0 => by simp [orb]
  | n + 1 => by
    have ih := orb_bit c i n
    unfold orb
    by_cases hi : i = n
    · subst hi
      cases hc : c i with
      | true => simp [Nat.testBit_two_pow_self]
      | false => simp [ih, hc]
    · have e : decide (i < n + 1) = decide (i < n) := by
        by_cases h : i < n
        · simp [h, Nat.lt_succ_of_lt h]
        · simp [h]; omega
      rw [e, ← ih]
      cases hc : c n with
      | true =>
        simp only [cond_true, Nat.testBit_or]
        rw [Nat.testBit_two_pow_of_ne (by omega)]
        simp
      | false => rfl
theorem orb_lt (c : Nat → Bool) (n : Nat) : orb c n < 2 ^ n := lt_bits (fun i hi => by rw [orb_bit]; simp; omega)
theorem eq_bits {a b : Nat} (n : Nat) (ha : a < 2 ^ n) (hb : b < 2 ^ n) (h : ∀ i, i < n → a.testBit i = b.testBit i) : a = b := by
  apply Nat.eq_of_testBit_eq
  intro i
  rcases Nat.lt_or_ge i n with q | q
  · exact h i q
  · rw [bit_lt ha q, bit_lt hb q]
/-- a truth value as an int -/
theorem zb_t {b : Bool} {v : Int32} (hv : v = 1) (h : b = true) : (some (Value.int v)) = some (Value.int (zb b)) := by rw [hv, h]; rfl
theorem zb_f {b : Bool} {v : Int32} (hv : v = 0) (h : b = false) : (some (Value.int v)) = some (Value.int (zb b)) := by rw [hv, h]; rfl
def inR (k lo hi : Int32) : Bool := decide (lo ≤ k ∧ k ≤ hi)
def okK (k : Int32) : Prop := k = 0 ∨ k = 1 ∨ k = 2 ∨ k = 3 ∨ k = 4
def ctsI (k : Int32) : Int32 := if k = 4 then 2 else 1
def ndsI (k s : Int32) : Int32 := if k = 1 then s / 2 else if k = 2 then s + 2 else if k = 3 ∨ k = 4 then 0 else s
def suchB (k w : Int32) : Bool := decide (w = 0 ∨ w = k ∨ (w = 3 ∧ k = 4))
theorem nle {a b : Int32} (h : ¬ a ≤ b) : b < a := by
  rw [Int32.lt_iff_toInt_lt]; rw [Int32.le_iff_toInt_le] at h; omega
theorem nlt {a b : Int32} (h : ¬ a < b) : b ≤ a := by
  rw [Int32.le_iff_toInt_le]; rw [Int32.lt_iff_toInt_lt] at h; omega
theorem lt_nle {a b : Int32} (h : a < b) : ¬ b ≤ a := by
  rw [Int32.le_iff_toInt_le]; rw [Int32.lt_iff_toInt_lt] at h; omega
end
section
set_option maxRecDepth 100000 in
set_option maxHeartbeats 4000000 in
theorem c_X8_isAmong (g m : Nat) (hg : g < 32) (hm : m < 2 ^ 31) {h : hp} : Cn yX8_isAmong cX8_isAmong 2 (some .boolean) 0 [.int (nI g), .int (nI m)] h (z_eq (some (.int (zb (m.testBit g)))) h) := by
  refine Cn.of (by decide) (Nat.le_of_ble_eq_true rfl) ?_
  refine Z.eqL (lv' := [(0, .int (nI g)), (1, .int (nI m))]) rfl ?_
  refine Z.iload_n (pc := 0) (i := 1) dX8_isAmong_0 rfl rfl ?_
  refine Z.iload_n (pc := 1) (i := 0) dX8_isAmong_1 rfl rfl ?_
  refine Z.ishr (pc := 2) dX8_isAmong_2 ?_
  refine Z.iconst (pc := 3) (v := (1)) dX8_isAmong_3 (by decide) ?_
  refine Z.iand (pc := 4) dX8_isAmong_4 ?_
  refine Z.top (nb_bit hm hg) ?_
  refine Z.iconst (pc := 5) (v := (1)) dX8_isAmong_5 (by decide) ?_
  refine Z.icmp_ne (pc := 6) (tgt := 13) dX8_isAmong_6 (by decide) (fun c6 => ?_) (fun c6 => ?_)
  · refine Z.iconst (pc := 13) (v := (0)) dX8_isAmong_13 (by decide) ?_
    refine Z.iret (pc := 14) (ty := .boolean) dX8_isAmong_14 rfl (by first | rfl | exact zb_nar _) ?_
    first | exact ⟨zb_t rfl (zb_1.mp c6), rfl⟩ | exact ⟨zb_f rfl (by cases q : m.testBit g with | false => rfl | true => exact absurd (by rw [q]; rfl) c6), rfl⟩
  · refine Z.iconst (pc := 9) (v := (1)) dX8_isAmong_9 (by decide) ?_
    refine Z.goto (pc := 10) (tgt := 14) dX8_isAmong_10 (by decide) ?_
    refine Z.iret (pc := 14) (ty := .boolean) dX8_isAmong_14 rfl (by first | rfl | exact zb_nar _) ?_
    first | exact ⟨zb_t rfl (zb_1.mp c6), rfl⟩ | exact ⟨zb_f rfl (by cases q : m.testBit g with | false => rfl | true => exact absurd (by rw [q]; rfl) c6), rfl⟩
set_option maxRecDepth 100000 in
set_option maxHeartbeats 4000000 in
theorem c_X9_isIn (m g : Nat) (hg : g < 32) (hm : m < 2 ^ 31) {h : hp} : Cn yX9_isIn cX9_isIn 2 (some .boolean) 0 [.int (nI m), .int (nI g)] h (z_eq (some (.int (zb (m.testBit g)))) h) := by
  refine Cn.of (by decide) (Nat.le_of_ble_eq_true rfl) ?_
  refine Z.eqL (lv' := [(0, .int (nI m)), (1, .int (nI g))]) rfl ?_
  refine Z.iload_n (pc := 0) (i := 0) dX9_isIn_0 rfl rfl ?_
  refine Z.iload_n (pc := 1) (i := 1) dX9_isIn_1 rfl rfl ?_
  refine Z.ishr (pc := 2) dX9_isIn_2 ?_
  refine Z.iconst (pc := 3) (v := (1)) dX9_isIn_3 (by decide) ?_
  refine Z.iand (pc := 4) dX9_isIn_4 ?_
  refine Z.top (nb_bit hm hg) ?_
  refine Z.iconst (pc := 5) (v := (1)) dX9_isIn_5 (by decide) ?_
  refine Z.icmp_ne (pc := 6) (tgt := 13) dX9_isIn_6 (by decide) (fun c6 => ?_) (fun c6 => ?_)
  · refine Z.iconst (pc := 13) (v := (0)) dX9_isIn_13 (by decide) ?_
    refine Z.iret (pc := 14) (ty := .boolean) dX9_isIn_14 rfl (by first | rfl | exact zb_nar _) ?_
    first | exact ⟨zb_t rfl (zb_1.mp c6), rfl⟩ | exact ⟨zb_f rfl (by cases q : m.testBit g with | false => rfl | true => exact absurd (by rw [q]; rfl) c6), rfl⟩
  · refine Z.iconst (pc := 9) (v := (1)) dX9_isIn_9 (by decide) ?_
    refine Z.goto (pc := 10) (tgt := 14) dX9_isIn_10 (by decide) ?_
    refine Z.iret (pc := 14) (ty := .boolean) dX9_isIn_14 rfl (by first | rfl | exact zb_nar _) ?_
    first | exact ⟨zb_t rfl (zb_1.mp c6), rfl⟩ | exact ⟨zb_f rfl (by cases q : m.testBit g with | false => rfl | true => exact absurd (by rw [q]; rfl) c6), rfl⟩
set_option maxRecDepth 100000 in
set_option maxHeartbeats 4000000 in
theorem c_X3_isKind (k : Int32) {h : hp} : Cn yX3_isKind cX3_isKind 1 (some .boolean) 0 [.int k] h (z_eq (some (.int (zb (inR k 0 4)))) h) := by
  refine Cn.of (by decide) (Nat.le_of_ble_eq_true rfl) ?_
  refine Z.eqL (lv' := [(0, .int k)]) rfl ?_
  refine Z.iload_n (pc := 0) (i := 0) dX3_isKind_0 rfl rfl ?_
  refine Z.if_lt (pc := 1) (tgt := 13) dX3_isKind_1 (by decide) (fun c1 => ?_) (fun c1 => ?_)
  · refine Z.iconst (pc := 13) (v := (0)) dX3_isKind_13 (by decide) ?_
    refine Z.iret (pc := 14) (ty := .boolean) dX3_isKind_14 rfl (by first | rfl | exact zb_nar _) ?_
    first | exact ⟨zb_f rfl (decide_eq_false (fun q => lt_nle c1 q.1)), rfl⟩ | exact ⟨zb_f rfl (decide_eq_false (fun q => lt_nle c6 q.2)), rfl⟩ | exact ⟨zb_t rfl (decide_eq_true ⟨nlt c1, nlt c6⟩), rfl⟩
  · refine Z.iload_n (pc := 4) (i := 0) dX3_isKind_4 rfl rfl ?_
    refine Z.iconst (pc := 5) (v := (4)) dX3_isKind_5 (by decide) ?_
    refine Z.icmp_gt (pc := 6) (tgt := 13) dX3_isKind_6 (by decide) (fun c6 => ?_) (fun c6 => ?_)
    · refine Z.iconst (pc := 13) (v := (0)) dX3_isKind_13 (by decide) ?_
      refine Z.iret (pc := 14) (ty := .boolean) dX3_isKind_14 rfl (by first | rfl | exact zb_nar _) ?_
      first | exact ⟨zb_f rfl (decide_eq_false (fun q => lt_nle c1 q.1)), rfl⟩ | exact ⟨zb_f rfl (decide_eq_false (fun q => lt_nle c6 q.2)), rfl⟩ | exact ⟨zb_t rfl (decide_eq_true ⟨nlt c1, nlt c6⟩), rfl⟩
    · refine Z.iconst (pc := 9) (v := (1)) dX3_isKind_9 (by decide) ?_
      refine Z.goto (pc := 10) (tgt := 14) dX3_isKind_10 (by decide) ?_
      refine Z.iret (pc := 14) (ty := .boolean) dX3_isKind_14 rfl (by first | rfl | exact zb_nar _) ?_
      first | exact ⟨zb_f rfl (decide_eq_false (fun q => lt_nle c1 q.1)), rfl⟩ | exact ⟨zb_f rfl (decide_eq_false (fun q => lt_nle c6 q.2)), rfl⟩ | exact ⟨zb_t rfl (decide_eq_true ⟨nlt c1, nlt c6⟩), rfl⟩
set_option maxRecDepth 100000 in
set_option maxHeartbeats 4000000 in
theorem c_X9_within (k lo hi : Int32) {h : hp} : Cn yX9_within cX9_within 3 (some .boolean) 0 [.int k, .int lo, .int hi] h (z_eq (some (.int (zb (inR k lo hi)))) h) := by
  refine Cn.of (by decide) (Nat.le_of_ble_eq_true rfl) ?_
  refine Z.eqL (lv' := [(0, .int k), (1, .int lo), (2, .int hi)]) rfl ?_
  refine Z.iload_n (pc := 0) (i := 0) dX9_within_0 rfl rfl ?_
  refine Z.iload_n (pc := 1) (i := 1) dX9_within_1 rfl rfl ?_
  refine Z.icmp_lt (pc := 2) (tgt := 14) dX9_within_2 (by decide) (fun c2 => ?_) (fun c2 => ?_)
  · refine Z.iconst (pc := 14) (v := (0)) dX9_within_14 (by decide) ?_
    refine Z.iret (pc := 15) (ty := .boolean) dX9_within_15 rfl (by first | rfl | exact zb_nar _) ?_
    first | exact ⟨zb_f rfl (decide_eq_false (fun q => lt_nle c2 q.1)), rfl⟩ | exact ⟨zb_f rfl (decide_eq_false (fun q => lt_nle c7 q.2)), rfl⟩ | exact ⟨zb_t rfl (decide_eq_true ⟨nlt c2, nlt c7⟩), rfl⟩
  · refine Z.iload_n (pc := 5) (i := 0) dX9_within_5 rfl rfl ?_
    refine Z.iload_n (pc := 6) (i := 2) dX9_within_6 rfl rfl ?_
    refine Z.icmp_gt (pc := 7) (tgt := 14) dX9_within_7 (by decide) (fun c7 => ?_) (fun c7 => ?_)
    · refine Z.iconst (pc := 14) (v := (0)) dX9_within_14 (by decide) ?_
      refine Z.iret (pc := 15) (ty := .boolean) dX9_within_15 rfl (by first | rfl | exact zb_nar _) ?_
      first | exact ⟨zb_f rfl (decide_eq_false (fun q => lt_nle c2 q.1)), rfl⟩ | exact ⟨zb_f rfl (decide_eq_false (fun q => lt_nle c7 q.2)), rfl⟩ | exact ⟨zb_t rfl (decide_eq_true ⟨nlt c2, nlt c7⟩), rfl⟩
    · refine Z.iconst (pc := 10) (v := (1)) dX9_within_10 (by decide) ?_
      refine Z.goto (pc := 11) (tgt := 15) dX9_within_11 (by decide) ?_
      refine Z.iret (pc := 15) (ty := .boolean) dX9_within_15 rfl (by first | rfl | exact zb_nar _) ?_
      first | exact ⟨zb_f rfl (decide_eq_false (fun q => lt_nle c2 q.1)), rfl⟩ | exact ⟨zb_f rfl (decide_eq_false (fun q => lt_nle c7 q.2)), rfl⟩ | exact ⟨zb_t rfl (decide_eq_true ⟨nlt c2, nlt c7⟩), rfl⟩
set_option maxRecDepth 100000 in
set_option maxHeartbeats 4000000 in
theorem c_X3_isSuch (k w : Int32) {h : hp} : Cn yX3_isSuch cX3_isSuch 2 (some .boolean) 0 [.int k, .int w] h (z_eq (some (.int (zb (suchB k w)))) h) := by
  refine Cn.of (by decide) (Nat.le_of_ble_eq_true rfl) ?_
  refine Z.eqL (lv' := [(0, .int k), (1, .int w)]) rfl ?_
  refine Z.iload_n (pc := 0) (i := 1) dX3_isSuch_0 rfl rfl ?_
  refine Z.if_eq (pc := 1) (tgt := 19) dX3_isSuch_1 (by decide) (fun c1 => ?_) (fun c1 => ?_)
  · refine Z.iconst (pc := 19) (v := (1)) dX3_isSuch_19 (by decide) ?_
    refine Z.goto (pc := 20) (tgt := 24) dX3_isSuch_20 (by decide) ?_
    refine Z.iret (pc := 24) (ty := .boolean) dX3_isSuch_24 rfl (by first | rfl | exact zb_nar _) ?_
    first | exact ⟨zb_t rfl (decide_eq_true (Or.inl c1)), rfl⟩ | exact ⟨zb_t rfl (decide_eq_true (Or.inr (Or.inl c6))), rfl⟩ | exact ⟨zb_t rfl (decide_eq_true (Or.inr (Or.inr ⟨c11, c16⟩))), rfl⟩ | exact ⟨zb_f rfl (decide_eq_false (by rintro (q | q | q); exact c1 q; exact c6 q; exact c11 q.1)), rfl⟩ | exact ⟨zb_f rfl (decide_eq_false (by rintro (q | q | q); exact c1 q; exact c6 q; exact c16 q.2)), rfl⟩
  · refine Z.iload_n (pc := 4) (i := 1) dX3_isSuch_4 rfl rfl ?_
    refine Z.iload_n (pc := 5) (i := 0) dX3_isSuch_5 rfl rfl ?_
    refine Z.icmp_eq (pc := 6) (tgt := 19) dX3_isSuch_6 (by decide) (fun c6 => ?_) (fun c6 => ?_)
    · refine Z.iconst (pc := 19) (v := (1)) dX3_isSuch_19 (by decide) ?_
      refine Z.goto (pc := 20) (tgt := 24) dX3_isSuch_20 (by decide) ?_
      refine Z.iret (pc := 24) (ty := .boolean) dX3_isSuch_24 rfl (by first | rfl | exact zb_nar _) ?_
      first | exact ⟨zb_t rfl (decide_eq_true (Or.inl c1)), rfl⟩ | exact ⟨zb_t rfl (decide_eq_true (Or.inr (Or.inl c6))), rfl⟩ | exact ⟨zb_t rfl (decide_eq_true (Or.inr (Or.inr ⟨c11, c16⟩))), rfl⟩ | exact ⟨zb_f rfl (decide_eq_false (by rintro (q | q | q); exact c1 q; exact c6 q; exact c11 q.1)), rfl⟩ | exact ⟨zb_f rfl (decide_eq_false (by rintro (q | q | q); exact c1 q; exact c6 q; exact c16 q.2)), rfl⟩
    · refine Z.iload_n (pc := 9) (i := 1) dX3_isSuch_9 rfl rfl ?_
      refine Z.iconst (pc := 10) (v := (3)) dX3_isSuch_10 (by decide) ?_
      refine Z.icmp_ne (pc := 11) (tgt := 23) dX3_isSuch_11 (by decide) (fun c11 => ?_) (fun c11 => ?_)
      · refine Z.iconst (pc := 23) (v := (0)) dX3_isSuch_23 (by decide) ?_
        refine Z.iret (pc := 24) (ty := .boolean) dX3_isSuch_24 rfl (by first | rfl | exact zb_nar _) ?_
        first | exact ⟨zb_t rfl (decide_eq_true (Or.inl c1)), rfl⟩ | exact ⟨zb_t rfl (decide_eq_true (Or.inr (Or.inl c6))), rfl⟩ | exact ⟨zb_t rfl (decide_eq_true (Or.inr (Or.inr ⟨c11, c16⟩))), rfl⟩ | exact ⟨zb_f rfl (decide_eq_false (by rintro (q | q | q); exact c1 q; exact c6 q; exact c11 q.1)), rfl⟩ | exact ⟨zb_f rfl (decide_eq_false (by rintro (q | q | q); exact c1 q; exact c6 q; exact c16 q.2)), rfl⟩
      · refine Z.iload_n (pc := 14) (i := 0) dX3_isSuch_14 rfl rfl ?_
        refine Z.iconst (pc := 15) (v := (4)) dX3_isSuch_15 (by decide) ?_
        refine Z.icmp_ne (pc := 16) (tgt := 23) dX3_isSuch_16 (by decide) (fun c16 => ?_) (fun c16 => ?_)
        · refine Z.iconst (pc := 23) (v := (0)) dX3_isSuch_23 (by decide) ?_
          refine Z.iret (pc := 24) (ty := .boolean) dX3_isSuch_24 rfl (by first | rfl | exact zb_nar _) ?_
          first | exact ⟨zb_t rfl (decide_eq_true (Or.inl c1)), rfl⟩ | exact ⟨zb_t rfl (decide_eq_true (Or.inr (Or.inl c6))), rfl⟩ | exact ⟨zb_t rfl (decide_eq_true (Or.inr (Or.inr ⟨c11, c16⟩))), rfl⟩ | exact ⟨zb_f rfl (decide_eq_false (by rintro (q | q | q); exact c1 q; exact c6 q; exact c11 q.1)), rfl⟩ | exact ⟨zb_f rfl (decide_eq_false (by rintro (q | q | q); exact c1 q; exact c6 q; exact c16 q.2)), rfl⟩
        · refine Z.iconst (pc := 19) (v := (1)) dX3_isSuch_19 (by decide) ?_
          refine Z.goto (pc := 20) (tgt := 24) dX3_isSuch_20 (by decide) ?_
          refine Z.iret (pc := 24) (ty := .boolean) dX3_isSuch_24 rfl (by first | rfl | exact zb_nar _) ?_
          first | exact ⟨zb_t rfl (decide_eq_true (Or.inl c1)), rfl⟩ | exact ⟨zb_t rfl (decide_eq_true (Or.inr (Or.inl c6))), rfl⟩ | exact ⟨zb_t rfl (decide_eq_true (Or.inr (Or.inr ⟨c11, c16⟩))), rfl⟩ | exact ⟨zb_f rfl (decide_eq_false (by rintro (q | q | q); exact c1 q; exact c6 q; exact c11 q.1)), rfl⟩ | exact ⟨zb_f rfl (decide_eq_false (by rintro (q | q | q); exact c1 q; exact c6 q; exact c16 q.2)), rfl⟩
set_option maxRecDepth 100000 in
set_option maxHeartbeats 4000000 in
theorem c_X3_needs_0 (s : Int32) {h : hp} : Cn yX3_needs cX3_needs 2 (some .int) 0 [.int 0, .int s] h (z_eq (some (.int (ndsI 0 s))) h) := by
  refine Cn.of (by decide) (Nat.le_of_ble_eq_true rfl) ?_
  refine Z.eqL (lv' := [(0, .int 0), (1, .int s)]) rfl ?_
  refine Z.iload_n (pc := 0) (i := 0) dX3_needs_0 rfl rfl ?_
  refine Z.tableOut (pc := 1) (tgt := 42) dX3_needs_1 (by decide) (by decide) ?_
  refine Z.iload_n (pc := 42) (i := 1) dX3_needs_42 rfl rfl ?_
  refine Z.iret (pc := 43) (ty := .int) dX3_needs_43 rfl rfl ?_
  exact ⟨rfl, rfl⟩
set_option maxRecDepth 100000 in
set_option maxHeartbeats 4000000 in
theorem c_X3_needs_1 (s : Int32) {h : hp} : Cn yX3_needs cX3_needs 2 (some .int) 0 [.int 1, .int s] h (z_eq (some (.int (ndsI 1 s))) h) := by
  refine Cn.of (by decide) (Nat.le_of_ble_eq_true rfl) ?_
  refine Z.eqL (lv' := [(0, .int 1), (1, .int s)]) rfl ?_
  refine Z.iload_n (pc := 0) (i := 0) dX3_needs_0 rfl rfl ?_
  refine Z.tableIn (pc := 1) (off := 31) (tgt := 32) dX3_needs_1 (by decide) (by decide) (by decide) (by decide) ?_
  refine Z.iload_n (pc := 32) (i := 1) dX3_needs_32 rfl rfl ?_
  refine Z.iconst (pc := 33) (v := (2)) dX3_needs_33 (by decide) ?_
  refine Z.idiv (pc := 34) dX3_needs_34 (by decide) ?_
  refine Z.iret (pc := 35) (ty := .int) dX3_needs_35 rfl rfl ?_
  exact ⟨rfl, rfl⟩
set_option maxRecDepth 100000 in
set_option maxHeartbeats 4000000 in
theorem c_X3_needs_2 (s : Int32) {h : hp} : Cn yX3_needs cX3_needs 2 (some .int) 0 [.int 2, .int s] h (z_eq (some (.int (ndsI 2 s))) h) := by
  refine Cn.of (by decide) (Nat.le_of_ble_eq_true rfl) ?_
  refine Z.eqL (lv' := [(0, .int 2), (1, .int s)]) rfl ?_
  refine Z.iload_n (pc := 0) (i := 0) dX3_needs_0 rfl rfl ?_
  refine Z.tableIn (pc := 1) (off := 35) (tgt := 36) dX3_needs_1 (by decide) (by decide) (by decide) (by decide) ?_
  refine Z.iload_n (pc := 36) (i := 1) dX3_needs_36 rfl rfl ?_
  refine Z.iconst (pc := 37) (v := (2)) dX3_needs_37 (by decide) ?_
  refine Z.iadd (pc := 38) dX3_needs_38 ?_
  refine Z.iret (pc := 39) (ty := .int) dX3_needs_39 rfl rfl ?_
  exact ⟨rfl, rfl⟩
set_option maxRecDepth 100000 in
set_option maxHeartbeats 4000000 in
theorem c_X3_needs_3 (s : Int32) {h : hp} : Cn yX3_needs cX3_needs 2 (some .int) 0 [.int 3, .int s] h (z_eq (some (.int (ndsI 3 s))) h) := by
  refine Cn.of (by decide) (Nat.le_of_ble_eq_true rfl) ?_
  refine Z.eqL (lv' := [(0, .int 3), (1, .int s)]) rfl ?_
  refine Z.iload_n (pc := 0) (i := 0) dX3_needs_0 rfl rfl ?_
  refine Z.tableIn (pc := 1) (off := 39) (tgt := 40) dX3_needs_1 (by decide) (by decide) (by decide) (by decide) ?_
  refine Z.iconst (pc := 40) (v := (0)) dX3_needs_40 (by decide) ?_
  refine Z.iret (pc := 41) (ty := .int) dX3_needs_41 rfl rfl ?_
  exact ⟨rfl, rfl⟩
set_option maxRecDepth 100000 in
set_option maxHeartbeats 4000000 in
theorem c_X3_needs_4 (s : Int32) {h : hp} : Cn yX3_needs cX3_needs 2 (some .int) 0 [.int 4, .int s] h (z_eq (some (.int (ndsI 4 s))) h) := by
  refine Cn.of (by decide) (Nat.le_of_ble_eq_true rfl) ?_
  refine Z.eqL (lv' := [(0, .int 4), (1, .int s)]) rfl ?_
  refine Z.iload_n (pc := 0) (i := 0) dX3_needs_0 rfl rfl ?_
  refine Z.tableIn (pc := 1) (off := 39) (tgt := 40) dX3_needs_1 (by decide) (by decide) (by decide) (by decide) ?_
  refine Z.iconst (pc := 40) (v := (0)) dX3_needs_40 (by decide) ?_
  refine Z.iret (pc := 41) (ty := .int) dX3_needs_41 rfl rfl ?_
  exact ⟨rfl, rfl⟩
theorem c_X3_needs (k s : Int32) (hk : okK k) {h : hp} : Cn yX3_needs cX3_needs 2 (some .int) 0 [.int k, .int s] h (z_eq (some (.int (ndsI k s))) h) := by
  rcases hk with rfl | rfl | rfl | rfl | rfl
  · exact c_X3_needs_0 s
  · exact c_X3_needs_1 s
  · exact c_X3_needs_2 s
  · exact c_X3_needs_3 s
  · exact c_X3_needs_4 s
set_option maxRecDepth 100000 in
set_option maxHeartbeats 4000000 in
theorem c_X9_needsBy_0 (s : Int32) {h : hp} : Cn yX9_needsBy cX9_needsBy 2 (some .int) 0 [.int 0, .int s] h (z_eq (some (.int (ndsI 0 s))) h) := by
  refine Cn.of (by decide) (Nat.le_of_ble_eq_true rfl) ?_
  refine Z.eqL (lv' := [(0, .int 0), (1, .int s)]) rfl ?_
  refine Z.iload_n (pc := 0) (i := 0) dX9_needsBy_0 rfl rfl ?_
  refine Z.tableOut (pc := 1) (tgt := 42) dX9_needsBy_1 (by decide) (by decide) ?_
  refine Z.iload_n (pc := 42) (i := 1) dX9_needsBy_42 rfl rfl ?_
  refine Z.iret (pc := 43) (ty := .int) dX9_needsBy_43 rfl rfl ?_
  exact ⟨rfl, rfl⟩
set_option maxRecDepth 100000 in
set_option maxHeartbeats 4000000 in
theorem c_X9_needsBy_1 (s : Int32) {h : hp} : Cn yX9_needsBy cX9_needsBy 2 (some .int) 0 [.int 1, .int s] h (z_eq (some (.int (ndsI 1 s))) h) := by
  refine Cn.of (by decide) (Nat.le_of_ble_eq_true rfl) ?_
  refine Z.eqL (lv' := [(0, .int 1), (1, .int s)]) rfl ?_
  refine Z.iload_n (pc := 0) (i := 0) dX9_needsBy_0 rfl rfl ?_
  refine Z.tableIn (pc := 1) (off := 31) (tgt := 32) dX9_needsBy_1 (by decide) (by decide) (by decide) (by decide) ?_
  refine Z.iload_n (pc := 32) (i := 1) dX9_needsBy_32 rfl rfl ?_
  refine Z.iconst (pc := 33) (v := (2)) dX9_needsBy_33 (by decide) ?_
  refine Z.idiv (pc := 34) dX9_needsBy_34 (by decide) ?_
  refine Z.iret (pc := 35) (ty := .int) dX9_needsBy_35 rfl rfl ?_
  exact ⟨rfl, rfl⟩
set_option maxRecDepth 100000 in
set_option maxHeartbeats 4000000 in
theorem c_X9_needsBy_2 (s : Int32) {h : hp} : Cn yX9_needsBy cX9_needsBy 2 (some .int) 0 [.int 2, .int s] h (z_eq (some (.int (ndsI 2 s))) h) := by
  refine Cn.of (by decide) (Nat.le_of_ble_eq_true rfl) ?_
  refine Z.eqL (lv' := [(0, .int 2), (1, .int s)]) rfl ?_
  refine Z.iload_n (pc := 0) (i := 0) dX9_needsBy_0 rfl rfl ?_
  refine Z.tableIn (pc := 1) (off := 35) (tgt := 36) dX9_needsBy_1 (by decide) (by decide) (by decide) (by decide) ?_
  refine Z.iload_n (pc := 36) (i := 1) dX9_needsBy_36 rfl rfl ?_
  refine Z.iconst (pc := 37) (v := (2)) dX9_needsBy_37 (by decide) ?_
  refine Z.iadd (pc := 38) dX9_needsBy_38 ?_
  refine Z.iret (pc := 39) (ty := .int) dX9_needsBy_39 rfl rfl ?_
  exact ⟨rfl, rfl⟩
set_option maxRecDepth 100000 in
set_option maxHeartbeats 4000000 in
theorem c_X9_needsBy_3 (s : Int32) {h : hp} : Cn yX9_needsBy cX9_needsBy 2 (some .int) 0 [.int 3, .int s] h (z_eq (some (.int (ndsI 3 s))) h) := by
  refine Cn.of (by decide) (Nat.le_of_ble_eq_true rfl) ?_
  refine Z.eqL (lv' := [(0, .int 3), (1, .int s)]) rfl ?_
  refine Z.iload_n (pc := 0) (i := 0) dX9_needsBy_0 rfl rfl ?_
  refine Z.tableIn (pc := 1) (off := 39) (tgt := 40) dX9_needsBy_1 (by decide) (by decide) (by decide) (by decide) ?_
  refine Z.iconst (pc := 40) (v := (0)) dX9_needsBy_40 (by decide) ?_
  refine Z.iret (pc := 41) (ty := .int) dX9_needsBy_41 rfl rfl ?_
  exact ⟨rfl, rfl⟩
set_option maxRecDepth 100000 in
set_option maxHeartbeats 4000000 in
theorem c_X9_needsBy_4 (s : Int32) {h : hp} : Cn yX9_needsBy cX9_needsBy 2 (some .int) 0 [.int 4, .int s] h (z_eq (some (.int (ndsI 4 s))) h) := by
  refine Cn.of (by decide) (Nat.le_of_ble_eq_true rfl) ?_
  refine Z.eqL (lv' := [(0, .int 4), (1, .int s)]) rfl ?_
  refine Z.iload_n (pc := 0) (i := 0) dX9_needsBy_0 rfl rfl ?_
  refine Z.tableIn (pc := 1) (off := 39) (tgt := 40) dX9_needsBy_1 (by decide) (by decide) (by decide) (by decide) ?_
  refine Z.iconst (pc := 40) (v := (0)) dX9_needsBy_40 (by decide) ?_
  refine Z.iret (pc := 41) (ty := .int) dX9_needsBy_41 rfl rfl ?_
  exact ⟨rfl, rfl⟩
theorem c_X9_needsBy (k s : Int32) (hk : okK k) {h : hp} : Cn yX9_needsBy cX9_needsBy 2 (some .int) 0 [.int k, .int s] h (z_eq (some (.int (ndsI k s))) h) := by
  rcases hk with rfl | rfl | rfl | rfl | rfl
  · exact c_X9_needsBy_0 s
  · exact c_X9_needsBy_1 s
  · exact c_X9_needsBy_2 s
  · exact c_X9_needsBy_3 s
  · exact c_X9_needsBy_4 s
set_option maxRecDepth 100000 in
set_option maxHeartbeats 4000000 in
theorem c_X3_countsAs (k : Int32) {h : hp} : Cn yX3_countsAs cX3_countsAs 1 (some .int) 0 [.int k] h (z_eq (some (.int (ctsI k))) h) := by
  refine Cn.of (by decide) (Nat.le_of_ble_eq_true rfl) ?_
  refine Z.eqL (lv' := [(0, .int k)]) rfl ?_
  refine Z.iload_n (pc := 0) (i := 0) dX3_countsAs_0 rfl rfl ?_
  refine Z.iconst (pc := 1) (v := (4)) dX3_countsAs_1 (by decide) ?_
  refine Z.icmp_ne (pc := 2) (tgt := 9) dX3_countsAs_2 (by decide) (fun c2 => ?_) (fun c2 => ?_)
  · refine Z.iconst (pc := 9) (v := (1)) dX3_countsAs_9 (by decide) ?_
    refine Z.iret (pc := 10) (ty := .int) dX3_countsAs_10 rfl rfl ?_
    exact ⟨by simp [ctsI, c2], rfl⟩
  · refine Z.iconst (pc := 5) (v := (2)) dX3_countsAs_5 (by decide) ?_
    refine Z.goto (pc := 6) (tgt := 10) dX3_countsAs_6 (by decide) ?_
    refine Z.iret (pc := 10) (ty := .int) dX3_countsAs_10 rfl rfl ?_
    exact ⟨by simp [ctsI, c2], rfl⟩
def bcI : Int32 → Int32 := (fun x0 : Int32 => let x1 := x0 - ((x0.toUInt32 >>> ((1 : Int32).toUInt32 &&& Int32.toUInt32 31)).toInt32 &&& 1431655765); let x2 := (x1 &&& 858993459) + ((x1.toUInt32 >>> ((2 : Int32).toUInt32 &&& Int32.toUInt32 31)).toInt32 &&& 858993459); let x3 := (x2 + (x2.toUInt32 >>> ((4 : Int32).toUInt32 &&& Int32.toUInt32 31)).toInt32) &&& 252645135; let x4 := x3 + (x3.toUInt32 >>> ((8 : Int32).toUInt32 &&& Int32.toUInt32 31)).toInt32; let x5 := x4 + (x4.toUInt32 >>> ((16 : Int32).toUInt32 &&& Int32.toUInt32 31)).toInt32; x5 &&& 63)
set_option maxRecDepth 100000 in
theorem bcI_all : ∀ m, m < 1024 → bcI (nI m) = nI (pop m) := by decide +kernel
set_option maxRecDepth 100000 in
set_option maxHeartbeats 4000000 in
theorem c_bitCountI (x : Int32) {h : hp} : Cn yJ6_bitCount_0f7a4 cJ6_bitCount_0f7a4 1 (some .int) 0 [.int x] h (z_eq (some (.int (bcI x))) h) := by
  refine Cn.of (by decide) (Nat.le_of_ble_eq_true rfl) ?_
  refine Z.eqL (lv' := [(0, .int x)]) rfl ?_
  refine Z.iload_n (pc := 0) (i := 0) dJ6_bitCount_0f7a4_0 rfl rfl ?_
  refine Z.iload_n (pc := 1) (i := 0) dJ6_bitCount_0f7a4_1 rfl rfl ?_
  refine Z.iconst (pc := 2) (v := (1)) dJ6_bitCount_0f7a4_2 (by decide) ?_
  refine Z.iushr (pc := 3) dJ6_bitCount_0f7a4_3 ?_
  refine Z.ldcw (pc := 4) dJ6_bitCount_0f7a4_4 zk_J6_265 ?_
  refine Z.iand (pc := 7) dJ6_bitCount_0f7a4_7 ?_
  refine Z.isub (pc := 8) dJ6_bitCount_0f7a4_8 ?_
  refine Z.istore_n (pc := 9) (i := 0) dJ6_bitCount_0f7a4_9 rfl (by decide) rfl ?_
  refine Z.iload_n (pc := 10) (i := 0) dJ6_bitCount_0f7a4_10 rfl rfl ?_
  refine Z.ldcw (pc := 11) dJ6_bitCount_0f7a4_11 zk_J6_266 ?_
  refine Z.iand (pc := 14) dJ6_bitCount_0f7a4_14 ?_
  refine Z.iload_n (pc := 15) (i := 0) dJ6_bitCount_0f7a4_15 rfl rfl ?_
  refine Z.iconst (pc := 16) (v := (2)) dJ6_bitCount_0f7a4_16 (by decide) ?_
  refine Z.iushr (pc := 17) dJ6_bitCount_0f7a4_17 ?_
  refine Z.ldcw (pc := 18) dJ6_bitCount_0f7a4_18 zk_J6_266 ?_
  refine Z.iand (pc := 21) dJ6_bitCount_0f7a4_21 ?_
  refine Z.iadd (pc := 22) dJ6_bitCount_0f7a4_22 ?_
  refine Z.istore_n (pc := 23) (i := 0) dJ6_bitCount_0f7a4_23 rfl (by decide) rfl ?_
  refine Z.iload_n (pc := 24) (i := 0) dJ6_bitCount_0f7a4_24 rfl rfl ?_
  refine Z.iload_n (pc := 25) (i := 0) dJ6_bitCount_0f7a4_25 rfl rfl ?_
  refine Z.iconst (pc := 26) (v := (4)) dJ6_bitCount_0f7a4_26 (by decide) ?_
  refine Z.iushr (pc := 27) dJ6_bitCount_0f7a4_27 ?_
  refine Z.iadd (pc := 28) dJ6_bitCount_0f7a4_28 ?_
  refine Z.ldcw (pc := 29) dJ6_bitCount_0f7a4_29 zk_J6_267 ?_
  refine Z.iand (pc := 32) dJ6_bitCount_0f7a4_32 ?_
  refine Z.istore_n (pc := 33) (i := 0) dJ6_bitCount_0f7a4_33 rfl (by decide) rfl ?_
  refine Z.iload_n (pc := 34) (i := 0) dJ6_bitCount_0f7a4_34 rfl rfl ?_
  refine Z.iload_n (pc := 35) (i := 0) dJ6_bitCount_0f7a4_35 rfl rfl ?_
  refine Z.bipush (pc := 36) (v := (8)) dJ6_bitCount_0f7a4_36 (by decide) ?_
  refine Z.iushr (pc := 38) dJ6_bitCount_0f7a4_38 ?_
  refine Z.iadd (pc := 39) dJ6_bitCount_0f7a4_39 ?_
  refine Z.istore_n (pc := 40) (i := 0) dJ6_bitCount_0f7a4_40 rfl (by decide) rfl ?_
  refine Z.iload_n (pc := 41) (i := 0) dJ6_bitCount_0f7a4_41 rfl rfl ?_
  refine Z.iload_n (pc := 42) (i := 0) dJ6_bitCount_0f7a4_42 rfl rfl ?_
  refine Z.bipush (pc := 43) (v := (16)) dJ6_bitCount_0f7a4_43 (by decide) ?_
  refine Z.iushr (pc := 45) dJ6_bitCount_0f7a4_45 ?_
  refine Z.iadd (pc := 46) dJ6_bitCount_0f7a4_46 ?_
  refine Z.istore_n (pc := 47) (i := 0) dJ6_bitCount_0f7a4_47 rfl (by decide) rfl ?_
  refine Z.iload_n (pc := 48) (i := 0) dJ6_bitCount_0f7a4_48 rfl rfl ?_
  refine Z.bipush (pc := 49) (v := (63)) dJ6_bitCount_0f7a4_49 (by decide) ?_
  refine Z.iand (pc := 51) dJ6_bitCount_0f7a4_51 ?_
  refine Z.iret (pc := 52) (ty := .int) dJ6_bitCount_0f7a4_52 rfl rfl ?_
  exact ⟨rfl, rfl⟩
theorem c_J6_bitCount_0f7a4 (m : Nat) (hm : m < 1024) {h : hp} : Cn yJ6_bitCount_0f7a4 cJ6_bitCount_0f7a4 1 (some .int) 0 [.int (nI m)] h (z_eq (some (.int (nI (pop m)))) h) := bcI_all m hm ▸ c_bitCountI (nI m)
end
section
/-! what is asked of a party: k kinds, s shynesses, f friends (as the cells hold them), n guests, hr who is here (bits) -/
def gon (n hr : Nat) : Nat := dif (2 ^ n - 1) hr
theorem gon_lt (n hr : Nat) : gon n hr < 2 ^ n := dif_lt (by have := Nat.two_pow_pos n; omega)
theorem gon_bit (n hr i : Nat) : (gon n hr).testBit i = (decide (i < n) && !hr.testBit i) := by rw [gon, dif_bit, all_bit]
def cntI (k : Nat → Int32) (m : Nat) : Int32 := sumI (fun i => cond (m.testBit i) (ctsI (k i)) 0) 8
def shyI (s : Nat → Int32) (m : Nat) : Int32 := sumI (fun i => cond (m.testBit i) (s i) 0) 8
def frB (f : Nat → Int32) (c g : Nat) : Bool := decide (f g = -1) || c.testBit (f g).toNatClampNeg
def canB (k s f : Nat → Int32) (c g : Nat) : Bool := frB f c g && decide (ndsI (k g) (s g) ≤ cntI k c - ctsI (k g))
def wcB (k s f : Nat → Int32) (n hr m i : Nat) : Bool := m.testBit i && canB k s f (m ||| gon n hr) i
def wcg (k s f : Nat → Int32) (n hr m : Nat) : Nat := orb (wcB k s f n hr m) 8
def itN (F : Nat → Nat) : Nat → Nat → Nat
  | 0, m => m
  | r + 1, m => itN F r (F m)
theorem itN_out (F : Nat → Nat) : ∀ (r m : Nat), F (itN F r m) = itN F (r + 1) m
  | 0, _ => rfl
  | r + 1, m => itN_out F r (F m)
def mst (k s f : Nat → Int32) (n hr m : Nat) : Nat := itN (wcg k s f n hr) 8 m
def alB (k s f : Nat → Int32) (n hr i : Nat) : Bool := hr.testBit i && (frB f (gon n hr) i && decide (ndsI (k i) (s i) ≤ cntI k (gon n hr)))
def alo (k s f : Nat → Int32) (n hr : Nat) : Nat := orb (alB k s f n hr) 8
def Rk (n : Nat) (k s f : Nat → Int32) : Prop := n ≤ 8 ∧ (∀ g, g < n → okK (k g)) ∧ (∀ g, g < n → ∃ a, a ≤ 9 ∧ s g = nI a) ∧ ∀ g, g < n → f g = -1 ∨ ∃ j, j < g ∧ f g = nI j
/-- the Room at o -/
def ro (o : Nat) : Prop := o = 3 ∨ o = 11 ∨ o = 19
theorem ro_s {o : Nat} (h : ro o) : z_sh[o]? = some (.inr (5, [o + 3, o + 4, o + 5, 0, 0, 0, 0])) := by rcases h with rfl | rfl | rfl <;> rfl
theorem ro_1 {o : Nat} (h : ro o) : z_sh[o + 1]? = some (.inl (0, 8)) := by rcases h with rfl | rfl | rfl <;> rfl
theorem ro_2 {o : Nat} (h : ro o) : z_sh[o + 2]? = some (.inl (0, 8)) := by rcases h with rfl | rfl | rfl <;> rfl
theorem ro_3 {o : Nat} (h : ro o) : z_sh[o + 3]? = some (.inl (0, 8)) := by rcases h with rfl | rfl | rfl <;> rfl
def Rm (h : hp) (o n hr : Nat) (k s f : Nat → Int32) : Prop := h.1 o 3 = nI n ∧ h.1 o 4 = nI hr ∧ hr < 2 ^ n ∧ Rk n k s f ∧ h.1 (o + 1) = k ∧ h.1 (o + 2) = s ∧ h.1 (o + 3) = f
theorem p8 {n : Nat} (h : n ≤ 8) : 2 ^ n ≤ 256 := Nat.pow_le_pow_right (n := 2) (j := 8) (by decide) h
theorem l31 {m n : Nat} (h : m < 2 ^ n) (hn : n ≤ 8) : m < 2 ^ 31 := by have := p8 hn; omega
theorem ii_1 (i : Nat) : nI i + Int32.ofInt 1 = nI (i + 1) := (nI_succ i).symm
theorem tb_lt {m n i : Nat} (h : m < 2 ^ n) (hb : m.testBit i = true) : i < n := by
  rcases Nat.lt_or_ge i n with q | q
  · exact q
  · rw [bit_lt h q] at hb; cases hb
theorem sumI_t {f : Nat → Int32} {i : Nat} {a x : Int32} (ha : a = sumI f i) (hx : f i = x) : a + x = sumI f (i + 1) := by rw [ha, ← hx]; rfl
theorem sumI_f {f : Nat → Int32} {i : Nat} {a : Int32} (ha : a = sumI f i) (hx : f i = 0) : a = sumI f (i + 1) := by rw [ha]; show _ = sumI f i + f i; rw [hx, Int32.add_zero]
theorem orb_t {c : Nat → Bool} {i a : Nat} (ha : a = orb c i) (hx : c i = true) : a ||| 2 ^ i = orb c (i + 1) := by rw [ha]; show _ = cond (c i) _ _; rw [hx]; rfl
theorem orb_f {c : Nat → Bool} {i a : Nat} (ha : a = orb c i) (hx : c i = false) : a = orb c (i + 1) := by rw [ha]; show _ = cond (c i) _ _; rw [hx]; rfl
theorem z_row_at (h : hp) (r : Nat) (f : Nat → Int32) : (z_row h r f).1 r = f := by simp [z_row, va_up]
theorem z_row_ne {h : hp} {r r' : Nat} {f : Nat → Int32} (e : r' ≠ r) : (z_row h r f).1 r' = h.1 r' := by simp [z_row, va_up, e]
theorem z_row_row (h : hp) (r : Nat) (f g : Nat → Int32) : z_row (z_row h r f) r g = z_row h r g := by
  simp only [z_row, Prod.mk.injEq, and_true]
  funext q
  by_cases e : q = r <;> simp [va_up, e]
theorem z_row_comm {h : hp} {r r' : Nat} {f g : Nat → Int32} (e : r ≠ r') : z_row (z_row h r f) r' g = z_row (z_row h r' g) r f := by
  simp only [z_row, Prod.mk.injEq, and_true]
  funext q
  by_cases e1 : q = r
  · subst e1; simp [va_up, e]
  · by_cases e2 : q = r'
    · subst e2; simp [va_up, e1]
    · simp [va_up, e1, e2]
theorem z_row_id (h : hp) (r : Nat) : z_row h r (h.1 r) = h := by
  obtain ⟨a, b⟩ := h
  simp only [z_row, Prod.mk.injEq, and_true]
  funext q
  by_cases e : q = r
  · subst e; simp [va_up]
  · simp [va_up, e]
theorem z_up_row (h : hp) (i j : Nat) (v : Int32) : z_up h i j v = z_row h i (upd (h.1 i) j v) := rfl
theorem upd_at (f : Nat → Int32) (j : Nat) (v : Int32) : upd f j v j = v := by simp [upd]
theorem upd_ne {f : Nat → Int32} {j q : Nat} {v : Int32} (e : q ≠ j) : upd f j v q = f q := by simp [upd, e]
theorem upd_upd (f : Nat → Int32) (j : Nat) (v w : Int32) : upd (upd f j v) j w = upd f j w := by
  funext q
  by_cases e : q = j <;> simp [upd, e]
theorem upd_id (f : Nat → Int32) (j : Nat) : upd f j (f j) = f := by
  funext q
  by_cases e : q = j
  · subst e; simp [upd]
  · simp [upd, e]
theorem z_up_up (h : hp) (i j : Nat) (v w : Int32) : z_up (z_up h i j v) i j w = z_up h i j w := by
  rw [z_up_row, z_up_row, z_up_row, z_row_row, z_row_at, upd_upd]
theorem z_up_at (h : hp) (i j : Nat) (v : Int32) : (z_up h i j v).1 i j = v := by rw [z_up_row, z_row_at, upd_at]
theorem z_up_ne {h : hp} {i j r : Nat} {v : Int32} (e : r ≠ i) : (z_up h i j v).1 r = h.1 r := z_row_ne e
theorem z_up_nf {h : hp} {i j q : Nat} {v : Int32} (e : q ≠ j) : (z_up h i j v).1 i q = h.1 i q := by rw [z_up_row, z_row_at, upd_ne e]
theorem z_up_id {h : hp} {i j : Nat} {v : Int32} (e : h.1 i j = v) : z_up h i j v = h := by rw [z_up_row, ← e, upd_id, z_row_id]
/-- the next shyness -/
def lsI (x : Int32) : Int32 := nI (x.toNatClampNeg - 1)
theorem lsI_max : ∀ a, a < 10 → maxI 0 (nI a - 1) = nI (a - 1) := by decide +kernel
theorem lsI_nI {a : Nat} (h : a ≤ 9) : lsI (nI a) = nI (a - 1) := by rw [lsI, nI_clamp (by omega)]
def lesR (s : Nat → Int32) (hr i : Nat) : Nat → Int32 := fun g => if g < i ∧ hr.testBit g = true then lsI (s g) else s g
theorem lesR_0 (s : Nat → Int32) (hr : Nat) : lesR s hr 0 = s := by funext g; simp [lesR]
theorem lesR_t {s : Nat → Int32} {hr i : Nat} (hb : hr.testBit i = true) : upd (lesR s hr i) i (lsI (s i)) = lesR s hr (i + 1) := by
  funext g
  by_cases e : g = i
  · subst e; simp [upd, lesR, hb]
  · have : (g < i + 1) ↔ g < i := by omega
    simp [upd, lesR, e, this]
theorem lesR_f {s : Nat → Int32} {hr i : Nat} (hb : hr.testBit i = false) : lesR s hr i = lesR s hr (i + 1) := by
  funext g
  by_cases e : g = i
  · subst e; simp [lesR, hb]
  · have : (g < i + 1) ↔ g < i := by omega
    simp [lesR, this]
theorem lesR_i (s : Nat → Int32) (hr i : Nat) : lesR s hr i i = s i := by simp [lesR]
theorem Rk_les {n : Nat} {k s f : Nat → Int32} (h : Rk n k s f) (hr i : Nat) : Rk n k (lesR s hr i) f := by
  refine ⟨h.1, h.2.1, fun g hg => ?_, h.2.2.2⟩
  obtain ⟨a, ha, e⟩ := h.2.2.1 g hg
  unfold lesR
  split
  · rw [e, lsI_nI ha]; exact ⟨a - 1, by omega, rfl⟩
  · exact ⟨a, ha, e⟩
/-- the first i below n that has it; n: none -/
def fstB (c : Nat → Bool) : Nat → Nat → Nat
  | 0, i => i
  | r + 1, i => cond (c i) i (fstB c r (i + 1))
def fst8 (m : Nat) : Nat := fstB m.testBit 8 0
theorem low_all : ∀ m, m < 256 → m ≠ 0 → nI m &&& -nI m = nI (2 ^ fst8 m) := by decide +kernel
def goN (k s f : Nat → Int32) (n : Nat) : Nat → Nat → Nat
  | 0, a => a
  | r + 1, a => if alo k s f n a = 0 then a else goN k s f n r (dif a (2 ^ fst8 (alo k s f n a)))
theorem alo_lt {k s f : Nat → Int32} {n hr : Nat} (h : hr < 2 ^ n) : alo k s f n hr < 2 ^ n := lt_bits (fun i hi => by unfold alo alB; rw [orb_bit, bit_lt h hi]; simp)
theorem goN_lt {k s f : Nat → Int32} {n : Nat} : ∀ (r a : Nat), a < 2 ^ n → goN k s f n r a < 2 ^ n
  | 0, _, h => h
  | r + 1, a, h => by
    unfold goN
    split
    · exact h
    · exact goN_lt r _ (dif_lt h)
theorem max_sub {a b : Nat} (ha : a < 2 ^ 30) (hb : b < 2 ^ 30) : maxI 0 (nI a - nI b) = nI (a - b) := by
  unfold maxI
  rcases Nat.lt_or_ge b a with q | q
  · rw [pk_sub (by omega), if_pos (by rw [← nI_0]; exact nI_lt (by omega) (by omega))]
  · rw [show a - b = 0 by omega, nI_0]
    by_cases e : a = b
    · subst e; rw [pk_sub (Nat.le_refl _), Nat.sub_self, nI_0]; simp
    · rw [if_neg]
      intro z
      have := pk_sneg (a := a) (b := b) hb (by omega)
      rw [Int32.lt_iff_toInt_lt] at this z
      omega
def hsS (s : Nat → Int32) (hr fd : Nat) : Nat → Int32 := if fd - pop hr = 0 then lesR s hr 8 else s
def hsH (k s f : Nat → Int32) (n hr fd : Nat) : Nat := goN k (hsS s hr fd) f n 8 hr
def hrX (h : hp) (o : Nat) (s' : Nat → Int32) (fd' hr' : Nat) : hp := z_up (z_row (z_up (z_up h o 6 (h.1 o 6 + 1)) o 5 (nI fd')) (o + 2) s') o 4 (nI hr')
theorem Rk_hs {n : Nat} {k s f : Nat → Int32} (h : Rk n k s f) (hr fd : Nat) : Rk n k (hsS s hr fd) f := by
  unfold hsS
  split
  · exact Rk_les h hr 8
  · exact h
theorem hsH_lt {k s f : Nat → Int32} {n hr fd : Nat} (h : hr < 2 ^ n) : hsH k s f n hr fd < 2 ^ n := goN_lt _ _ h
end
section
set_option maxRecDepth 100000 in
set_option maxHeartbeats 400000 in
theorem c_X6_everyone0 {h : hp} {o n : Nat} (ho : ro o) (hn : h.1 o 3 = nI n) (hn8 : n ≤ 8)  : Cn yX6_everyone cX6_everyone 1 (some .int) 0 [.ref o] h (z_eq (some (.int (nI (2 ^ n - 1)))) h) := by
  refine Cn.of (by decide) (Nat.le_of_ble_eq_true rfl) ?_
  refine Z.eqL (lv' := [(0, .ref o)]) rfl ?_
  refine Z.iconst (pc := 0) (v := (nI 1)) dX6_everyone_0 (by decide) ?_
  refine Z.aload_n (pc := 1) (i := 0) dX6_everyone_1 rfl rfl ?_
  refine Z.getIv (pc := 2) dX6_everyone_2 zf_X6_27 (ro_s ho) rfl hn ?_
  refine Z.ishl (pc := 5) dX6_everyone_5 ?_
  refine Z.top (nb_shl (by omega)) ?_
  refine Z.iconst (pc := 6) (v := (1)) dX6_everyone_6 (by decide) ?_
  refine Z.isub (pc := 7) dX6_everyone_7 ?_
  refine Z.top (nb_pow1) ?_
  refine Z.iret (pc := 8) (ty := .int) dX6_everyone_8 rfl rfl ?_
  exact ⟨rfl, rfl⟩
set_option maxRecDepth 100000 in
set_option maxHeartbeats 400000 in
theorem c_X6_gone {h : hp} {o n hr : Nat} {k s f : Nat → Int32} (ho : ro o) (hR : Rm h o n hr k s f)  : Cn yX6_gone cX6_gone 1 (some .int) 1 [.ref o] h (z_eq (some (.int (nI (gon n hr)))) h) := by
  refine Cn.of (by decide) (Nat.le_of_ble_eq_true rfl) ?_
  refine Z.eqL (lv' := [(0, .ref o)]) rfl ?_
  refine Z.aload_n (pc := 0) (i := 0) dX6_gone_0 rfl rfl ?_
  refine Z.callVi (pc := 1) dX6_gone_1 (c_X6_everyone0 ho hR.1 hR.2.2.2.1.1) zm_X6_30 zv_X6_everyone (ro_s ho) rfl rfl rfl (by decide) (by decide) (Nat.le_of_ble_eq_true rfl) ?_
  refine Z.aload_n (pc := 4) (i := 0) dX6_gone_4 rfl rfl ?_
  refine Z.getIv (pc := 5) dX6_gone_5 zf_X6_33 (ro_s ho) rfl hR.2.1 ?_
  refine Z.iconst (pc := 8) (v := (-1)) dX6_gone_8 (by decide) ?_
  refine Z.ixor (pc := 9) dX6_gone_9 ?_
  refine Z.iand (pc := 10) dX6_gone_10 ?_
  refine Z.top (nb_dif _ _) ?_
  refine Z.iret (pc := 11) (ty := .int) dX6_gone_11 rfl rfl ?_
  exact ⟨rfl, rfl⟩
set_option maxRecDepth 100000 in
set_option maxHeartbeats 400000 in
theorem c_X6_hasGuest {h : hp} {o n hr : Nat} {k s f : Nat → Int32} (ho : ro o) (hR : Rm h o n hr k s f) (g : Int32)  : Cn yX6_hasGuest cX6_hasGuest 2 (some .boolean) 0 [.ref o, .int g] h (z_eq (some (.int (zb (decide (0 ≤ g ∧ g < nI n))))) h) := by
  refine Cn.of (by decide) (Nat.le_of_ble_eq_true rfl) ?_
  refine Z.eqL (lv' := [(0, .ref o), (1, .int g)]) rfl ?_
  refine Z.iload_n (pc := 0) (i := 1) dX6_hasGuest_0 rfl rfl ?_
  refine Z.if_lt (pc := 1) (tgt := 16) dX6_hasGuest_1 (by decide) (fun c1 => ?_) (fun c1 => ?_)
  · refine Z.iconst (pc := 16) (v := (0)) dX6_hasGuest_16 (by decide) ?_
    refine Z.iret (pc := 17) (ty := .boolean) dX6_hasGuest_17 rfl (by first | rfl | exact zb_nar _) ?_
    first | exact ⟨zb_f rfl (decide_eq_false (fun q => lt_nle c1 q.1)), rfl⟩ | exact ⟨zb_f rfl (decide_eq_false (fun q => lt_nle q.2 c9)), rfl⟩ | exact ⟨zb_t rfl (decide_eq_true ⟨nlt c1, nle c9⟩), rfl⟩
  · refine Z.iload_n (pc := 4) (i := 1) dX6_hasGuest_4 rfl rfl ?_
    refine Z.aload_n (pc := 5) (i := 0) dX6_hasGuest_5 rfl rfl ?_
    refine Z.getIv (pc := 6) dX6_hasGuest_6 zf_X6_27 (ro_s ho) rfl hR.1 ?_
    refine Z.icmp_ge (pc := 9) (tgt := 16) dX6_hasGuest_9 (by decide) (fun c9 => ?_) (fun c9 => ?_)
    · refine Z.iconst (pc := 16) (v := (0)) dX6_hasGuest_16 (by decide) ?_
      refine Z.iret (pc := 17) (ty := .boolean) dX6_hasGuest_17 rfl (by first | rfl | exact zb_nar _) ?_
      first | exact ⟨zb_f rfl (decide_eq_false (fun q => lt_nle c1 q.1)), rfl⟩ | exact ⟨zb_f rfl (decide_eq_false (fun q => lt_nle q.2 c9)), rfl⟩ | exact ⟨zb_t rfl (decide_eq_true ⟨nlt c1, nle c9⟩), rfl⟩
    · refine Z.iconst (pc := 12) (v := (1)) dX6_hasGuest_12 (by decide) ?_
      refine Z.goto (pc := 13) (tgt := 17) dX6_hasGuest_13 (by decide) ?_
      refine Z.iret (pc := 17) (ty := .boolean) dX6_hasGuest_17 rfl (by first | rfl | exact zb_nar _) ?_
      first | exact ⟨zb_f rfl (decide_eq_false (fun q => lt_nle c1 q.1)), rfl⟩ | exact ⟨zb_f rfl (decide_eq_false (fun q => lt_nle q.2 c9)), rfl⟩ | exact ⟨zb_t rfl (decide_eq_true ⟨nlt c1, nle c9⟩), rfl⟩
set_option maxRecDepth 100000 in
set_option maxHeartbeats 400000 in
theorem c_X6_isHere {h : hp} {o n hr : Nat} {k s f : Nat → Int32} (ho : ro o) (hR : Rm h o n hr k s f) (g : Nat) (hg : g < 32)  : Cn yX6_isHere cX6_isHere 2 (some .boolean) 1 [.ref o, .int (nI g)] h (z_eq (some (.int (zb (hr.testBit g)))) h) := by
  refine Cn.of (by decide) (Nat.le_of_ble_eq_true rfl) ?_
  refine Z.eqL (lv' := [(0, .ref o), (1, .int (nI g))]) rfl ?_
  refine Z.iload_n (pc := 0) (i := 1) dX6_isHere_0 rfl rfl ?_
  refine Z.aload_n (pc := 1) (i := 0) dX6_isHere_1 rfl rfl ?_
  refine Z.getIv (pc := 2) dX6_isHere_2 zf_X6_33 (ro_s ho) rfl hR.2.1 ?_
  refine Z.callNi (pc := 5) dX6_isHere_5 (c_X8_isAmong g hr hg (l31 hR.2.2.1 hR.2.2.2.1.1)) (Or.inl ⟨rfl, rfl⟩) zs_X8_isAmong rfl rfl (by decide) (by decide) (Nat.le_of_ble_eq_true rfl) ?_
  refine Z.iret (pc := 8) (ty := .boolean) dX6_isHere_8 rfl (by first | rfl | exact zb_nar _) ?_
  exact ⟨rfl, rfl⟩
set_option maxRecDepth 100000 in
set_option maxHeartbeats 400000 in
theorem c_X6_needsOf {h : hp} {o n hr : Nat} {k s f : Nat → Int32} (ho : ro o) (hR : Rm h o n hr k s f) (g : Nat) (hg : g < n)  : Cn yX6_needsOf cX6_needsOf 2 (some .int) 1 [.ref o, .int (nI g)] h (z_eq (some (.int (ndsI (k g) (s g)))) h) := by
  obtain ⟨-, -, -, -, rfl, rfl, rfl⟩ := id hR
  have hn8 := hR.2.2.2.1.1
  refine Cn.of (by decide) (Nat.le_of_ble_eq_true rfl) ?_
  refine Z.eqL (lv' := [(0, .ref o), (1, .int (nI g))]) rfl ?_
  refine Z.aload_n (pc := 0) (i := 0) dX6_needsOf_0 rfl rfl ?_
  refine Z.getR (pc := 1) dX6_needsOf_1 zf_X6_9 (ro_s ho) rfl ?_
  refine Z.iload_n (pc := 4) (i := 1) dX6_needsOf_4 rfl rfl ?_
  refine Z.iald (pc := 5) dX6_needsOf_5 (ro_1 ho) (by omega) (by decide) ?_
  refine Z.aload_n (pc := 6) (i := 0) dX6_needsOf_6 rfl rfl ?_
  refine Z.getR (pc := 7) dX6_needsOf_7 zf_X6_15 (ro_s ho) rfl ?_
  refine Z.iload_n (pc := 10) (i := 1) dX6_needsOf_10 rfl rfl ?_
  refine Z.iald (pc := 11) dX6_needsOf_11 (ro_2 ho) (by omega) (by decide) ?_
  refine Z.callSi (pc := 12) dX6_needsOf_12 (c_X3_needs _ _ (hR.2.2.2.1.2.1 g hg)) zm_X6_67 zs_X3_needs rfl rfl (by decide) (by decide) (Nat.le_of_ble_eq_true rfl) ?_
  refine Z.iret (pc := 15) (ty := .int) dX6_needsOf_15 rfl rfl ?_
  exact ⟨rfl, rfl⟩
set_option maxRecDepth 100000 in
set_option maxHeartbeats 400000 in
theorem c_X6_hasFriendAmong {h : hp} {o n hr : Nat} {k s f : Nat → Int32} (ho : ro o) (hR : Rm h o n hr k s f) (g c : Nat) (hg : g < n) (hc : c < 2 ^ n)  : Cn yX6_hasFriendAmong cX6_hasFriendAmong 3 (some .boolean) 1 [.ref o, .int (nI g), .int (nI c)] h (z_eq (some (.int (zb (frB f c g)))) h) := by
  obtain ⟨-, -, -, -, rfl, rfl, rfl⟩ := id hR
  have hn8 := hR.2.2.2.1.1
  have hF := hR.2.2.2.1.2.2.2 g hg
  generalize hfe : h.1 (o + 3) g = fg at hF
  refine Cn.of (by decide) (Nat.le_of_ble_eq_true rfl) ?_
  refine Z.eqL (lv' := [(0, .ref o), (1, .int (nI g)), (2, .int (nI c))]) rfl ?_
  refine Z.aload_n (pc := 0) (i := 0) dX6_hasFriendAmong_0 rfl rfl ?_
  refine Z.getR (pc := 1) dX6_hasFriendAmong_1 zf_X6_18 (ro_s ho) rfl ?_
  refine Z.iload_n (pc := 4) (i := 1) dX6_hasFriendAmong_4 rfl rfl ?_
  refine Z.iald (pc := 5) dX6_hasFriendAmong_5 (ro_3 ho) (by omega) (by decide) ?_
  refine Z.top (hfe) ?_
  refine Z.iconst (pc := 6) (v := (-1)) dX6_hasFriendAmong_6 (by decide) ?_
  refine Z.icmp_eq (pc := 7) (tgt := 23) dX6_hasFriendAmong_7 (by decide) (fun c7 => ?_) (fun c7 => ?_)
  · subst c7
    refine Z.iconst (pc := 23) (v := (1)) dX6_hasFriendAmong_23 (by decide) ?_
    refine Z.goto (pc := 24) (tgt := 28) dX6_hasFriendAmong_24 (by decide) ?_
    refine Z.iret (pc := 28) (ty := .boolean) dX6_hasFriendAmong_28 rfl (by first | rfl | exact zb_nar _) ?_
    refine ⟨?_, rfl⟩
    first | (refine zb_t rfl ?_; unfold frB; rw [hfe]; simp; done) | (refine zb_t rfl ?_; unfold frB; rw [hfe, nI_clamp (by omega), c20]; simp; done) | (refine zb_f rfl ?_; unfold frB; rw [hfe, nI_clamp (by omega), c20]; simp [c7]; done)
  · obtain ⟨j, hj, rfl⟩ := hF.resolve_left c7
    refine Z.aload_n (pc := 10) (i := 0) dX6_hasFriendAmong_10 rfl rfl ?_
    refine Z.getR (pc := 11) dX6_hasFriendAmong_11 zf_X6_18 (ro_s ho) rfl ?_
    refine Z.iload_n (pc := 14) (i := 1) dX6_hasFriendAmong_14 rfl rfl ?_
    refine Z.iald (pc := 15) dX6_hasFriendAmong_15 (ro_3 ho) (by omega) (by decide) ?_
    refine Z.top (hfe) ?_
    refine Z.iload_n (pc := 16) (i := 2) dX6_hasFriendAmong_16 rfl rfl ?_
    refine Z.callNi (pc := 17) dX6_hasFriendAmong_17 (c_X8_isAmong j c (by omega) (l31 hc hn8)) (Or.inl ⟨rfl, rfl⟩) zs_X8_isAmong rfl rfl (by decide) (by decide) (Nat.le_of_ble_eq_true rfl) ?_
    refine Z.if_eq_b (pc := 20) (tgt := 27) dX6_hasFriendAmong_20 (by decide) (fun c20 => ?_) (fun c20 => ?_)
    · refine Z.iconst (pc := 27) (v := (0)) dX6_hasFriendAmong_27 (by decide) ?_
      refine Z.iret (pc := 28) (ty := .boolean) dX6_hasFriendAmong_28 rfl (by first | rfl | exact zb_nar _) ?_
      refine ⟨?_, rfl⟩
      first | (refine zb_t rfl ?_; unfold frB; rw [hfe]; simp; done) | (refine zb_t rfl ?_; unfold frB; rw [hfe, nI_clamp (by omega), c20]; simp; done) | (refine zb_f rfl ?_; unfold frB; rw [hfe, nI_clamp (by omega), c20]; simp [c7]; done)
    · refine Z.iconst (pc := 23) (v := (1)) dX6_hasFriendAmong_23 (by decide) ?_
      refine Z.goto (pc := 24) (tgt := 28) dX6_hasFriendAmong_24 (by decide) ?_
      refine Z.iret (pc := 28) (ty := .boolean) dX6_hasFriendAmong_28 rfl (by first | rfl | exact zb_nar _) ?_
      refine ⟨?_, rfl⟩
      first | (refine zb_t rfl ?_; unfold frB; rw [hfe]; simp; done) | (refine zb_t rfl ?_; unfold frB; rw [hfe, nI_clamp (by omega), c20]; simp; done) | (refine zb_f rfl ?_; unfold frB; rw [hfe, nI_clamp (by omega), c20]; simp [c7]; done)
set_option maxRecDepth 100000 in
set_option maxHeartbeats 400000 in
theorem l_X6_countTogether {h : hp} {o n hr : Nat} {k s f : Nat → Int32} (ho : ro o) (hR : Rm h o n hr k s f) (m : Nat) (hm : m < 2 ^ n) : ∀ (r i : Nat) (a : Int32), i + r = 8 → a = sumI (fun i => cond (m.testBit i) (ctsI (k i)) 0) i → Z yX6_countTogether cX6_countTogether 4 (some .int) 1 (z_eq (some (.int (cntI k m))) h) 4 [(0, .ref o), (1, .int (nI m)), (2, .int a), (3, .int (nI i))] [] h := by
  obtain ⟨-, -, -, -, rfl, rfl, rfl⟩ := id hR
  have hn8 := hR.2.2.2.1.1
  intro r
  induction r with
  | zero =>
    intro i a hi ha
    obtain rfl : i = 8 := by omega
    refine Z.iload_n (pc := 4) (i := 3) dX6_countTogether_4 rfl rfl ?_
    refine Z.bipush (pc := 5) (v := (nI 8)) dX6_countTogether_5 (by decide) ?_
    refine Z.icmp_ge_t (pc := 7) (tgt := 36) dX6_countTogether_7 (by decide) (nI_le (Nat.le_refl 8) (by decide)) ?_
    refine Z.iload_n (pc := 36) (i := 2) dX6_countTogether_36 rfl rfl ?_
    refine Z.iret (pc := 37) (ty := .int) dX6_countTogether_37 rfl rfl ?_
    exact ⟨by rw [ha]; rfl, rfl⟩
  | succ r ih =>
    intro i a hi ha
    refine Z.iload_n (pc := 4) (i := 3) dX6_countTogether_4 rfl rfl ?_
    refine Z.bipush (pc := 5) (v := (nI 8)) dX6_countTogether_5 (by decide) ?_
    refine Z.icmp_ge_f (pc := 7) (tgt := 36) dX6_countTogether_7 (by decide) (nI_ge (by omega) (by decide)) ?_
    refine Z.iload_n (pc := 10) (i := 3) dX6_countTogether_10 rfl rfl ?_
    refine Z.iload_n (pc := 11) (i := 1) dX6_countTogether_11 rfl rfl ?_
    refine Z.callNi (pc := 12) dX6_countTogether_12 (c_X8_isAmong i m (by omega) (l31 hm hn8)) (Or.inl ⟨rfl, rfl⟩) zs_X8_isAmong rfl rfl (by decide) (by decide) (Nat.le_of_ble_eq_true rfl) ?_
    refine Z.if_eq_b (pc := 15) (tgt := 30) dX6_countTogether_15 (by decide) (fun c15 => ?_) (fun c15 => ?_)
    · refine Z.iinc (pc := 30) (i := 3) (v := (nI (i + 1))) dX6_countTogether_30 rfl (by exact ii_1 i) (by decide) rfl ?_
      refine Z.goto (pc := 33) (tgt := 4) dX6_countTogether_33 (by decide) ?_
      first | exact ih (i + 1) _ (by omega) (sumI_t ha (by simp only [c15, cond_true])) | exact ih (i + 1) _ (by omega) (sumI_f ha (by simp only [c15, cond_false]))
    · refine Z.iload_n (pc := 18) (i := 2) dX6_countTogether_18 rfl rfl ?_
      refine Z.aload_n (pc := 19) (i := 0) dX6_countTogether_19 rfl rfl ?_
      refine Z.getR (pc := 20) dX6_countTogether_20 zf_X6_9 (ro_s ho) rfl ?_
      refine Z.iload_n (pc := 23) (i := 3) dX6_countTogether_23 rfl rfl ?_
      refine Z.iald (pc := 24) dX6_countTogether_24 (ro_1 ho) (by omega) (by decide) ?_
      refine Z.callSi (pc := 25) dX6_countTogether_25 (c_X3_countsAs _) zm_X6_71 zs_X3_countsAs rfl rfl (by decide) (by decide) (Nat.le_of_ble_eq_true rfl) ?_
      refine Z.iadd (pc := 28) dX6_countTogether_28 ?_
      refine Z.istore_n (pc := 29) (i := 2) dX6_countTogether_29 rfl (by decide) rfl ?_
      refine Z.iinc (pc := 30) (i := 3) (v := (nI (i + 1))) dX6_countTogether_30 rfl (by exact ii_1 i) (by decide) rfl ?_
      refine Z.goto (pc := 33) (tgt := 4) dX6_countTogether_33 (by decide) ?_
      first | exact ih (i + 1) _ (by omega) (sumI_t ha (by simp only [c15, cond_true])) | exact ih (i + 1) _ (by omega) (sumI_f ha (by simp only [c15, cond_false]))
set_option maxRecDepth 100000 in
set_option maxHeartbeats 400000 in
theorem c_X6_countTogether {h : hp} {o n hr : Nat} {k s f : Nat → Int32} (ho : ro o) (hR : Rm h o n hr k s f) (m : Nat) (hm : m < 2 ^ n)  : Cn yX6_countTogether cX6_countTogether 4 (some .int) 1 [.ref o, .int (nI m)] h (z_eq (some (.int (cntI k m))) h) := by
  refine Cn.of (by decide) (Nat.le_of_ble_eq_true rfl) ?_
  refine Z.eqL (lv' := [(0, .ref o), (1, .int (nI m))]) rfl ?_
  refine Z.iconst (pc := 0) (v := (0)) dX6_countTogether_0 (by decide) ?_
  refine Z.istore_n (pc := 1) (i := 2) dX6_countTogether_1 rfl (by decide) rfl ?_
  refine Z.iconst (pc := 2) (v := (0)) dX6_countTogether_2 (by decide) ?_
  refine Z.istore_n (pc := 3) (i := 3) dX6_countTogether_3 rfl (by decide) rfl ?_
  exact l_X6_countTogether ho hR m hm 8 0 0 rfl rfl
set_option maxRecDepth 100000 in
set_option maxHeartbeats 400000 in
theorem l_X6_shyTogether {h : hp} {o n hr : Nat} {k s f : Nat → Int32} (ho : ro o) (hR : Rm h o n hr k s f) (m : Nat) (hm : m < 2 ^ n) : ∀ (r i : Nat) (a : Int32), i + r = 8 → a = sumI (fun i => cond (m.testBit i) (s i) 0) i → Z yX6_shyTogether cX6_shyTogether 4 (some .int) 1 (z_eq (some (.int (shyI s m))) h) 4 [(0, .ref o), (1, .int (nI m)), (2, .int a), (3, .int (nI i))] [] h := by
  obtain ⟨-, -, -, -, rfl, rfl, rfl⟩ := id hR
  have hn8 := hR.2.2.2.1.1
  intro r
  induction r with
  | zero =>
    intro i a hi ha
    obtain rfl : i = 8 := by omega
    refine Z.iload_n (pc := 4) (i := 3) dX6_shyTogether_4 rfl rfl ?_
    refine Z.bipush (pc := 5) (v := (nI 8)) dX6_shyTogether_5 (by decide) ?_
    refine Z.icmp_ge_t (pc := 7) (tgt := 33) dX6_shyTogether_7 (by decide) (nI_le (Nat.le_refl 8) (by decide)) ?_
    refine Z.iload_n (pc := 33) (i := 2) dX6_shyTogether_33 rfl rfl ?_
    refine Z.iret (pc := 34) (ty := .int) dX6_shyTogether_34 rfl rfl ?_
    exact ⟨by rw [ha]; rfl, rfl⟩
  | succ r ih =>
    intro i a hi ha
    refine Z.iload_n (pc := 4) (i := 3) dX6_shyTogether_4 rfl rfl ?_
    refine Z.bipush (pc := 5) (v := (nI 8)) dX6_shyTogether_5 (by decide) ?_
    refine Z.icmp_ge_f (pc := 7) (tgt := 33) dX6_shyTogether_7 (by decide) (nI_ge (by omega) (by decide)) ?_
    refine Z.iload_n (pc := 10) (i := 3) dX6_shyTogether_10 rfl rfl ?_
    refine Z.iload_n (pc := 11) (i := 1) dX6_shyTogether_11 rfl rfl ?_
    refine Z.callNi (pc := 12) dX6_shyTogether_12 (c_X8_isAmong i m (by omega) (l31 hm hn8)) (Or.inl ⟨rfl, rfl⟩) zs_X8_isAmong rfl rfl (by decide) (by decide) (Nat.le_of_ble_eq_true rfl) ?_
    refine Z.if_eq_b (pc := 15) (tgt := 27) dX6_shyTogether_15 (by decide) (fun c15 => ?_) (fun c15 => ?_)
    · refine Z.iinc (pc := 27) (i := 3) (v := (nI (i + 1))) dX6_shyTogether_27 rfl (by exact ii_1 i) (by decide) rfl ?_
      refine Z.goto (pc := 30) (tgt := 4) dX6_shyTogether_30 (by decide) ?_
      first | exact ih (i + 1) _ (by omega) (sumI_t ha (by simp only [c15, cond_true])) | exact ih (i + 1) _ (by omega) (sumI_f ha (by simp only [c15, cond_false]))
    · refine Z.iload_n (pc := 18) (i := 2) dX6_shyTogether_18 rfl rfl ?_
      refine Z.aload_n (pc := 19) (i := 0) dX6_shyTogether_19 rfl rfl ?_
      refine Z.getR (pc := 20) dX6_shyTogether_20 zf_X6_15 (ro_s ho) rfl ?_
      refine Z.iload_n (pc := 23) (i := 3) dX6_shyTogether_23 rfl rfl ?_
      refine Z.iald (pc := 24) dX6_shyTogether_24 (ro_2 ho) (by omega) (by decide) ?_
      refine Z.iadd (pc := 25) dX6_shyTogether_25 ?_
      refine Z.istore_n (pc := 26) (i := 2) dX6_shyTogether_26 rfl (by decide) rfl ?_
      refine Z.iinc (pc := 27) (i := 3) (v := (nI (i + 1))) dX6_shyTogether_27 rfl (by exact ii_1 i) (by decide) rfl ?_
      refine Z.goto (pc := 30) (tgt := 4) dX6_shyTogether_30 (by decide) ?_
      first | exact ih (i + 1) _ (by omega) (sumI_t ha (by simp only [c15, cond_true])) | exact ih (i + 1) _ (by omega) (sumI_f ha (by simp only [c15, cond_false]))
set_option maxRecDepth 100000 in
set_option maxHeartbeats 400000 in
theorem c_X6_shyTogether {h : hp} {o n hr : Nat} {k s f : Nat → Int32} (ho : ro o) (hR : Rm h o n hr k s f) (m : Nat) (hm : m < 2 ^ n)  : Cn yX6_shyTogether cX6_shyTogether 4 (some .int) 1 [.ref o, .int (nI m)] h (z_eq (some (.int (shyI s m))) h) := by
  refine Cn.of (by decide) (Nat.le_of_ble_eq_true rfl) ?_
  refine Z.eqL (lv' := [(0, .ref o), (1, .int (nI m))]) rfl ?_
  refine Z.iconst (pc := 0) (v := (0)) dX6_shyTogether_0 (by decide) ?_
  refine Z.istore_n (pc := 1) (i := 2) dX6_shyTogether_1 rfl (by decide) rfl ?_
  refine Z.iconst (pc := 2) (v := (0)) dX6_shyTogether_2 (by decide) ?_
  refine Z.istore_n (pc := 3) (i := 3) dX6_shyTogether_3 rfl (by decide) rfl ?_
  exact l_X6_shyTogether ho hR m hm 8 0 0 rfl rfl
set_option maxRecDepth 100000 in
set_option maxHeartbeats 400000 in
theorem l_X6_whoCanGo {h : hp} {o n hr : Nat} {k s f : Nat → Int32} (ho : ro o) (hR : Rm h o n hr k s f) (m : Nat) (hm : m < 2 ^ n) : ∀ (r i : Nat) (a : Nat), i + r = 8 → a = orb (wcB k s f n hr m) i → Z yX6_whoCanGo cX6_whoCanGo 6 (some .int) 2 (z_eq (some (.int (nI (wcg k s f n hr m)))) h) 19 [(0, .ref o), (1, .int (nI m)), (2, .int (nI (m ||| gon n hr))), (3, .int (cntI k (m ||| gon n hr))), (4, .int (nI a)), (5, .int (nI i))] [] h := by
  obtain ⟨-, -, -, -, rfl, rfl, rfl⟩ := id hR
  have hn8 := hR.2.2.2.1.1
  intro r
  induction r with
  | zero =>
    intro i a hi ha
    obtain rfl : i = 8 := by omega
    refine Z.iload (pc := 19) (i := 5) dX6_whoCanGo_19 rfl ?_
    refine Z.bipush (pc := 21) (v := (nI 8)) dX6_whoCanGo_21 (by decide) ?_
    refine Z.icmp_ge_t (pc := 23) (tgt := 81) dX6_whoCanGo_23 (by decide) (nI_le (Nat.le_refl 8) (by decide)) ?_
    refine Z.iload (pc := 81) (i := 4) dX6_whoCanGo_81 rfl ?_
    refine Z.iret (pc := 83) (ty := .int) dX6_whoCanGo_83 rfl rfl ?_
    exact ⟨by rw [ha]; rfl, rfl⟩
  | succ r ih =>
    intro i a hi ha
    refine Z.iload (pc := 19) (i := 5) dX6_whoCanGo_19 rfl ?_
    refine Z.bipush (pc := 21) (v := (nI 8)) dX6_whoCanGo_21 (by decide) ?_
    refine Z.icmp_ge_f (pc := 23) (tgt := 81) dX6_whoCanGo_23 (by decide) (nI_ge (by omega) (by decide)) ?_
    refine Z.iload (pc := 26) (i := 5) dX6_whoCanGo_26 rfl ?_
    refine Z.iload_n (pc := 28) (i := 1) dX6_whoCanGo_28 rfl rfl ?_
    refine Z.callNi (pc := 29) dX6_whoCanGo_29 (c_X8_isAmong i m (by omega) (l31 hm hn8)) (Or.inl ⟨rfl, rfl⟩) zs_X8_isAmong rfl rfl (by decide) (by decide) (Nat.le_of_ble_eq_true rfl) ?_
    refine Z.if_eq_b (pc := 32) (tgt := 75) dX6_whoCanGo_32 (by decide) (fun c32 => ?_) (fun c32 => ?_)
    · refine Z.iinc (pc := 75) (i := 5) (v := (nI (i + 1))) dX6_whoCanGo_75 rfl (by exact ii_1 i) (by decide) rfl ?_
      refine Z.goto (pc := 78) (tgt := 19) dX6_whoCanGo_78 (by decide) ?_
      refine ih (i + 1) _ (by omega) ?_
      first
        | (refine orb_f ha ?_; simp [wcB, c32]; done)
        | (refine orb_f ha ?_; simp [wcB, canB, c42]; done)
        | (refine orb_f ha ?_; simp [wcB, canB, lt_nle c63]; done)
        | (refine orb_t ha ?_; simp [wcB, canB, c32, c42, nlt c63]; done)
    · have hin : i < n := tb_lt hm c32
      refine Z.aload_n (pc := 35) (i := 0) dX6_whoCanGo_35 rfl rfl ?_
      refine Z.iload (pc := 36) (i := 5) dX6_whoCanGo_36 rfl ?_
      refine Z.iload_n (pc := 38) (i := 2) dX6_whoCanGo_38 rfl rfl ?_
      refine Z.callVi (pc := 39) dX6_whoCanGo_39 (c_X6_hasFriendAmong ho hR i _ hin (or_lt hm (gon_lt n hr))) zm_X6_80 zv_X6_hasFriendAmong (ro_s ho) rfl rfl rfl (by decide) (by decide) (Nat.le_of_ble_eq_true rfl) ?_
      refine Z.if_eq_b (pc := 42) (tgt := 75) dX6_whoCanGo_42 (by decide) (fun c42 => ?_) (fun c42 => ?_)
      · refine Z.iinc (pc := 75) (i := 5) (v := (nI (i + 1))) dX6_whoCanGo_75 rfl (by exact ii_1 i) (by decide) rfl ?_
        refine Z.goto (pc := 78) (tgt := 19) dX6_whoCanGo_78 (by decide) ?_
        refine ih (i + 1) _ (by omega) ?_
        first
          | (refine orb_f ha ?_; simp [wcB, c32]; done)
          | (refine orb_f ha ?_; simp [wcB, canB, c42]; done)
          | (refine orb_f ha ?_; simp [wcB, canB, lt_nle c63]; done)
          | (refine orb_t ha ?_; simp [wcB, canB, c32, c42, nlt c63]; done)
      · refine Z.iload_n (pc := 45) (i := 3) dX6_whoCanGo_45 rfl rfl ?_
        refine Z.aload_n (pc := 46) (i := 0) dX6_whoCanGo_46 rfl rfl ?_
        refine Z.getR (pc := 47) dX6_whoCanGo_47 zf_X6_9 (ro_s ho) rfl ?_
        refine Z.iload (pc := 50) (i := 5) dX6_whoCanGo_50 rfl ?_
        refine Z.iald (pc := 52) dX6_whoCanGo_52 (ro_1 ho) (by omega) (by decide) ?_
        refine Z.callSi (pc := 53) dX6_whoCanGo_53 (c_X3_countsAs _) zm_X6_71 zs_X3_countsAs rfl rfl (by decide) (by decide) (Nat.le_of_ble_eq_true rfl) ?_
        refine Z.isub (pc := 56) dX6_whoCanGo_56 ?_
        refine Z.aload_n (pc := 57) (i := 0) dX6_whoCanGo_57 rfl rfl ?_
        refine Z.iload (pc := 58) (i := 5) dX6_whoCanGo_58 rfl ?_
        refine Z.callVi (pc := 60) dX6_whoCanGo_60 (c_X6_needsOf ho hR i hin) zm_X6_83 zv_X6_needsOf (ro_s ho) rfl rfl rfl (by decide) (by decide) (Nat.le_of_ble_eq_true rfl) ?_
        refine Z.icmp_lt (pc := 63) (tgt := 75) dX6_whoCanGo_63 (by decide) (fun c63 => ?_) (fun c63 => ?_)
        · refine Z.iinc (pc := 75) (i := 5) (v := (nI (i + 1))) dX6_whoCanGo_75 rfl (by exact ii_1 i) (by decide) rfl ?_
          refine Z.goto (pc := 78) (tgt := 19) dX6_whoCanGo_78 (by decide) ?_
          refine ih (i + 1) _ (by omega) ?_
          first
            | (refine orb_f ha ?_; simp [wcB, c32]; done)
            | (refine orb_f ha ?_; simp [wcB, canB, c42]; done)
            | (refine orb_f ha ?_; simp [wcB, canB, lt_nle c63]; done)
            | (refine orb_t ha ?_; simp [wcB, canB, c32, c42, nlt c63]; done)
        · refine Z.iload (pc := 66) (i := 4) dX6_whoCanGo_66 rfl ?_
          refine Z.iconst (pc := 68) (v := (nI 1)) dX6_whoCanGo_68 (by decide) ?_
          refine Z.iload (pc := 69) (i := 5) dX6_whoCanGo_69 rfl ?_
          refine Z.ishl (pc := 71) dX6_whoCanGo_71 ?_
          refine Z.top (nb_shl (by omega)) ?_
          refine Z.ior (pc := 72) dX6_whoCanGo_72 ?_
          refine Z.top (nb_or _ _) ?_
          refine Z.istore (pc := 73) (i := 4) dX6_whoCanGo_73 (by decide) rfl ?_
          refine Z.iinc (pc := 75) (i := 5) (v := (nI (i + 1))) dX6_whoCanGo_75 rfl (by exact ii_1 i) (by decide) rfl ?_
          refine Z.goto (pc := 78) (tgt := 19) dX6_whoCanGo_78 (by decide) ?_
          refine ih (i + 1) _ (by omega) ?_
          first
            | (refine orb_f ha ?_; simp [wcB, c32]; done)
            | (refine orb_f ha ?_; simp [wcB, canB, c42]; done)
            | (refine orb_f ha ?_; simp [wcB, canB, lt_nle c63]; done)
            | (refine orb_t ha ?_; simp [wcB, canB, c32, c42, nlt c63]; done)
set_option maxRecDepth 100000 in
set_option maxHeartbeats 400000 in
theorem c_X6_whoCanGo {h : hp} {o n hr : Nat} {k s f : Nat → Int32} (ho : ro o) (hR : Rm h o n hr k s f) (m : Nat) (hm : m < 2 ^ n)  : Cn yX6_whoCanGo cX6_whoCanGo 6 (some .int) 2 [.ref o, .int (nI m)] h (z_eq (some (.int (nI (wcg k s f n hr m)))) h) := by
  refine Cn.of (by decide) (Nat.le_of_ble_eq_true rfl) ?_
  refine Z.eqL (lv' := [(0, .ref o), (1, .int (nI m))]) rfl ?_
  refine Z.iload_n (pc := 0) (i := 1) dX6_whoCanGo_0 rfl rfl ?_
  refine Z.aload_n (pc := 1) (i := 0) dX6_whoCanGo_1 rfl rfl ?_
  refine Z.callVi (pc := 2) dX6_whoCanGo_2 (c_X6_gone ho hR) zm_X6_74 zv_X6_gone (ro_s ho) rfl rfl rfl (by decide) (by decide) (Nat.le_of_ble_eq_true rfl) ?_
  refine Z.ior (pc := 5) dX6_whoCanGo_5 ?_
  refine Z.top (nb_or _ _) ?_
  refine Z.istore_n (pc := 6) (i := 2) dX6_whoCanGo_6 rfl (by decide) rfl ?_
  refine Z.aload_n (pc := 7) (i := 0) dX6_whoCanGo_7 rfl rfl ?_
  refine Z.iload_n (pc := 8) (i := 2) dX6_whoCanGo_8 rfl rfl ?_
  refine Z.callVi (pc := 9) dX6_whoCanGo_9 (c_X6_countTogether ho hR _ (or_lt hm (gon_lt n hr))) zm_X6_77 zv_X6_countTogether (ro_s ho) rfl rfl rfl (by decide) (by decide) (Nat.le_of_ble_eq_true rfl) ?_
  refine Z.istore_n (pc := 12) (i := 3) dX6_whoCanGo_12 rfl (by decide) rfl ?_
  refine Z.iconst (pc := 13) (v := (nI 0)) dX6_whoCanGo_13 (by decide) ?_
  refine Z.istore (pc := 14) (i := 4) dX6_whoCanGo_14 (by decide) rfl ?_
  refine Z.iconst (pc := 16) (v := (nI 0)) dX6_whoCanGo_16 (by decide) ?_
  refine Z.istore (pc := 17) (i := 5) dX6_whoCanGo_17 (by decide) rfl ?_
  exact l_X6_whoCanGo ho hR m hm 8 0 0 rfl rfl
theorem wcg_lt {k s f : Nat → Int32} {n hr m : Nat} (hm : m < 2 ^ n) : wcg k s f n hr m < 2 ^ n := lt_bits (fun i hi => by unfold wcg wcB; rw [orb_bit, bit_lt hm hi]; simp)
set_option maxRecDepth 100000 in
set_option maxHeartbeats 400000 in
theorem l_X6_mostWhoRise {h : hp} {o n hr : Nat} {k s f : Nat → Int32} (ho : ro o) (hR : Rm h o n hr k s f) : ∀ (r i : Nat) (a : Nat), i + r = 8 → a = itN (wcg k s f n hr) i hr → a < 2 ^ n → Z yX6_mostWhoRise cX6_mostWhoRise 3 (some .int) 3 (z_eq (some (.int (nI (mst k s f n hr hr)))) h) 7 [(0, .ref o), (1, .int (nI a)), (2, .int (nI i))] [] h := by
  intro r
  induction r with
  | zero =>
    intro i a hi ha hal
    obtain rfl : i = 8 := by omega
    refine Z.iload_n (pc := 7) (i := 2) dX6_mostWhoRise_7 rfl rfl ?_
    refine Z.bipush (pc := 8) (v := (nI 8)) dX6_mostWhoRise_8 (by decide) ?_
    refine Z.icmp_ge_t (pc := 10) (tgt := 25) dX6_mostWhoRise_10 (by decide) (nI_le (Nat.le_refl 8) (by decide)) ?_
    refine Z.iload_n (pc := 25) (i := 1) dX6_mostWhoRise_25 rfl rfl ?_
    refine Z.iret (pc := 26) (ty := .int) dX6_mostWhoRise_26 rfl rfl ?_
    exact ⟨by rw [ha]; rfl, rfl⟩
  | succ r ih =>
    intro i a hi ha hal
    refine Z.iload_n (pc := 7) (i := 2) dX6_mostWhoRise_7 rfl rfl ?_
    refine Z.bipush (pc := 8) (v := (nI 8)) dX6_mostWhoRise_8 (by decide) ?_
    refine Z.icmp_ge_f (pc := 10) (tgt := 25) dX6_mostWhoRise_10 (by decide) (nI_ge (by omega) (by decide)) ?_
    refine Z.aload_n (pc := 13) (i := 0) dX6_mostWhoRise_13 rfl rfl ?_
    refine Z.iload_n (pc := 14) (i := 1) dX6_mostWhoRise_14 rfl rfl ?_
    refine Z.callVi (pc := 15) dX6_mostWhoRise_15 (c_X6_whoCanGo ho hR a hal) zm_X6_86 zv_X6_whoCanGo (ro_s ho) rfl rfl rfl (by decide) (by decide) (Nat.le_of_ble_eq_true rfl) ?_
    refine Z.istore_n (pc := 18) (i := 1) dX6_mostWhoRise_18 rfl (by decide) rfl ?_
    refine Z.iinc (pc := 19) (i := 2) (v := (nI (i + 1))) dX6_mostWhoRise_19 rfl (by exact ii_1 i) (by decide) rfl ?_
    refine Z.goto (pc := 22) (tgt := 7) dX6_mostWhoRise_22 (by decide) ?_
    exact ih (i + 1) _ (by omega) (by rw [ha]; exact itN_out _ i hr) (wcg_lt hal)
set_option maxRecDepth 100000 in
set_option maxHeartbeats 400000 in
theorem c_X6_mostWhoRise {h : hp} {o n hr : Nat} {k s f : Nat → Int32} (ho : ro o) (hR : Rm h o n hr k s f)  : Cn yX6_mostWhoRise cX6_mostWhoRise 3 (some .int) 3 [.ref o] h (z_eq (some (.int (nI (mst k s f n hr hr)))) h) := by
  refine Cn.of (by decide) (Nat.le_of_ble_eq_true rfl) ?_
  refine Z.eqL (lv' := [(0, .ref o)]) rfl ?_
  refine Z.aload_n (pc := 0) (i := 0) dX6_mostWhoRise_0 rfl rfl ?_
  refine Z.getIv (pc := 1) dX6_mostWhoRise_1 zf_X6_33 (ro_s ho) rfl hR.2.1 ?_
  refine Z.istore_n (pc := 4) (i := 1) dX6_mostWhoRise_4 rfl (by decide) rfl ?_
  refine Z.iconst (pc := 5) (v := (nI 0)) dX6_mostWhoRise_5 (by decide) ?_
  refine Z.istore_n (pc := 6) (i := 2) dX6_mostWhoRise_6 rfl (by decide) rfl ?_
  exact l_X6_mostWhoRise ho hR 8 0 hr rfl rfl hR.2.2.1
set_option maxRecDepth 100000 in
set_option maxHeartbeats 400000 in
theorem l_X6_whoCanGoAlone {h : hp} {o n hr : Nat} {k s f : Nat → Int32} (ho : ro o) (hR : Rm h o n hr k s f) : ∀ (r i : Nat) (a : Nat), i + r = 8 → a = orb (alB k s f n hr) i → Z yX6_whoCanGoAlone cX6_whoCanGoAlone 5 (some .int) 2 (z_eq (some (.int (nI (alo k s f n hr)))) h) 16 [(0, .ref o), (1, .int (nI (gon n hr))), (2, .int (cntI k (gon n hr))), (3, .int (nI a)), (4, .int (nI i))] [] h := by
  obtain ⟨-, -, -, -, rfl, rfl, rfl⟩ := id hR
  have hn8 := hR.2.2.2.1.1
  intro r
  induction r with
  | zero =>
    intro i a hi ha
    obtain rfl : i = 8 := by omega
    refine Z.iload (pc := 16) (i := 4) dX6_whoCanGoAlone_16 rfl ?_
    refine Z.bipush (pc := 18) (v := (nI 8)) dX6_whoCanGoAlone_18 (by decide) ?_
    refine Z.icmp_ge_t (pc := 20) (tgt := 65) dX6_whoCanGoAlone_20 (by decide) (nI_le (Nat.le_refl 8) (by decide)) ?_
    refine Z.iload_n (pc := 65) (i := 3) dX6_whoCanGoAlone_65 rfl rfl ?_
    refine Z.iret (pc := 66) (ty := .int) dX6_whoCanGoAlone_66 rfl rfl ?_
    exact ⟨by rw [ha]; rfl, rfl⟩
  | succ r ih =>
    intro i a hi ha
    refine Z.iload (pc := 16) (i := 4) dX6_whoCanGoAlone_16 rfl ?_
    refine Z.bipush (pc := 18) (v := (nI 8)) dX6_whoCanGoAlone_18 (by decide) ?_
    refine Z.icmp_ge_f (pc := 20) (tgt := 65) dX6_whoCanGoAlone_20 (by decide) (nI_ge (by omega) (by decide)) ?_
    refine Z.aload_n (pc := 23) (i := 0) dX6_whoCanGoAlone_23 rfl rfl ?_
    refine Z.iload (pc := 24) (i := 4) dX6_whoCanGoAlone_24 rfl ?_
    refine Z.callVi (pc := 26) dX6_whoCanGoAlone_26 (c_X6_isHere ho hR i (by omega)) zm_X6_89 zv_X6_isHere (ro_s ho) rfl rfl rfl (by decide) (by decide) (Nat.le_of_ble_eq_true rfl) ?_
    refine Z.if_eq_b (pc := 29) (tgt := 59) dX6_whoCanGoAlone_29 (by decide) (fun c29 => ?_) (fun c29 => ?_)
    · refine Z.iinc (pc := 59) (i := 4) (v := (nI (i + 1))) dX6_whoCanGoAlone_59 rfl (by exact ii_1 i) (by decide) rfl ?_
      refine Z.goto (pc := 62) (tgt := 16) dX6_whoCanGoAlone_62 (by decide) ?_
      refine ih (i + 1) _ (by omega) ?_
      first
        | (refine orb_f ha ?_; simp [alB, c29]; done)
        | (refine orb_f ha ?_; simp [alB, c39]; done)
        | (refine orb_f ha ?_; simp [alB, lt_nle c49]; done)
        | (refine orb_t ha ?_; simp [alB, c29, c39, nlt c49]; done)
    · have hin : i < n := tb_lt hR.2.2.1 c29
      refine Z.aload_n (pc := 32) (i := 0) dX6_whoCanGoAlone_32 rfl rfl ?_
      refine Z.iload (pc := 33) (i := 4) dX6_whoCanGoAlone_33 rfl ?_
      refine Z.iload_n (pc := 35) (i := 1) dX6_whoCanGoAlone_35 rfl rfl ?_
      refine Z.callVi (pc := 36) dX6_whoCanGoAlone_36 (c_X6_hasFriendAmong ho hR i _ hin (gon_lt n hr)) zm_X6_80 zv_X6_hasFriendAmong (ro_s ho) rfl rfl rfl (by decide) (by decide) (Nat.le_of_ble_eq_true rfl) ?_
      refine Z.if_eq_b (pc := 39) (tgt := 59) dX6_whoCanGoAlone_39 (by decide) (fun c39 => ?_) (fun c39 => ?_)
      · refine Z.iinc (pc := 59) (i := 4) (v := (nI (i + 1))) dX6_whoCanGoAlone_59 rfl (by exact ii_1 i) (by decide) rfl ?_
        refine Z.goto (pc := 62) (tgt := 16) dX6_whoCanGoAlone_62 (by decide) ?_
        refine ih (i + 1) _ (by omega) ?_
        first
          | (refine orb_f ha ?_; simp [alB, c29]; done)
          | (refine orb_f ha ?_; simp [alB, c39]; done)
          | (refine orb_f ha ?_; simp [alB, lt_nle c49]; done)
          | (refine orb_t ha ?_; simp [alB, c29, c39, nlt c49]; done)
      · refine Z.iload_n (pc := 42) (i := 2) dX6_whoCanGoAlone_42 rfl rfl ?_
        refine Z.aload_n (pc := 43) (i := 0) dX6_whoCanGoAlone_43 rfl rfl ?_
        refine Z.iload (pc := 44) (i := 4) dX6_whoCanGoAlone_44 rfl ?_
        refine Z.callVi (pc := 46) dX6_whoCanGoAlone_46 (c_X6_needsOf ho hR i hin) zm_X6_83 zv_X6_needsOf (ro_s ho) rfl rfl rfl (by decide) (by decide) (Nat.le_of_ble_eq_true rfl) ?_
        refine Z.icmp_lt (pc := 49) (tgt := 59) dX6_whoCanGoAlone_49 (by decide) (fun c49 => ?_) (fun c49 => ?_)
        · refine Z.iinc (pc := 59) (i := 4) (v := (nI (i + 1))) dX6_whoCanGoAlone_59 rfl (by exact ii_1 i) (by decide) rfl ?_
          refine Z.goto (pc := 62) (tgt := 16) dX6_whoCanGoAlone_62 (by decide) ?_
          refine ih (i + 1) _ (by omega) ?_
          first
            | (refine orb_f ha ?_; simp [alB, c29]; done)
            | (refine orb_f ha ?_; simp [alB, c39]; done)
            | (refine orb_f ha ?_; simp [alB, lt_nle c49]; done)
            | (refine orb_t ha ?_; simp [alB, c29, c39, nlt c49]; done)
        · refine Z.iload_n (pc := 52) (i := 3) dX6_whoCanGoAlone_52 rfl rfl ?_
          refine Z.iconst (pc := 53) (v := (nI 1)) dX6_whoCanGoAlone_53 (by decide) ?_
          refine Z.iload (pc := 54) (i := 4) dX6_whoCanGoAlone_54 rfl ?_
          refine Z.ishl (pc := 56) dX6_whoCanGoAlone_56 ?_
          refine Z.top (nb_shl (by omega)) ?_
          refine Z.ior (pc := 57) dX6_whoCanGoAlone_57 ?_
          refine Z.top (nb_or _ _) ?_
          refine Z.istore_n (pc := 58) (i := 3) dX6_whoCanGoAlone_58 rfl (by decide) rfl ?_
          refine Z.iinc (pc := 59) (i := 4) (v := (nI (i + 1))) dX6_whoCanGoAlone_59 rfl (by exact ii_1 i) (by decide) rfl ?_
          refine Z.goto (pc := 62) (tgt := 16) dX6_whoCanGoAlone_62 (by decide) ?_
          refine ih (i + 1) _ (by omega) ?_
          first
            | (refine orb_f ha ?_; simp [alB, c29]; done)
            | (refine orb_f ha ?_; simp [alB, c39]; done)
            | (refine orb_f ha ?_; simp [alB, lt_nle c49]; done)
            | (refine orb_t ha ?_; simp [alB, c29, c39, nlt c49]; done)
set_option maxRecDepth 100000 in
set_option maxHeartbeats 400000 in
theorem c_X6_whoCanGoAlone {h : hp} {o n hr : Nat} {k s f : Nat → Int32} (ho : ro o) (hR : Rm h o n hr k s f)  : Cn yX6_whoCanGoAlone cX6_whoCanGoAlone 5 (some .int) 2 [.ref o] h (z_eq (some (.int (nI (alo k s f n hr)))) h) := by
  refine Cn.of (by decide) (Nat.le_of_ble_eq_true rfl) ?_
  refine Z.eqL (lv' := [(0, .ref o)]) rfl ?_
  refine Z.aload_n (pc := 0) (i := 0) dX6_whoCanGoAlone_0 rfl rfl ?_
  refine Z.callVi (pc := 1) dX6_whoCanGoAlone_1 (c_X6_gone ho hR) zm_X6_74 zv_X6_gone (ro_s ho) rfl rfl rfl (by decide) (by decide) (Nat.le_of_ble_eq_true rfl) ?_
  refine Z.istore_n (pc := 4) (i := 1) dX6_whoCanGoAlone_4 rfl (by decide) rfl ?_
  refine Z.aload_n (pc := 5) (i := 0) dX6_whoCanGoAlone_5 rfl rfl ?_
  refine Z.iload_n (pc := 6) (i := 1) dX6_whoCanGoAlone_6 rfl rfl ?_
  refine Z.callVi (pc := 7) dX6_whoCanGoAlone_7 (c_X6_countTogether ho hR _ (gon_lt n hr)) zm_X6_77 zv_X6_countTogether (ro_s ho) rfl rfl rfl (by decide) (by decide) (Nat.le_of_ble_eq_true rfl) ?_
  refine Z.istore_n (pc := 10) (i := 2) dX6_whoCanGoAlone_10 rfl (by decide) rfl ?_
  refine Z.iconst (pc := 11) (v := (nI 0)) dX6_whoCanGoAlone_11 (by decide) ?_
  refine Z.istore_n (pc := 12) (i := 3) dX6_whoCanGoAlone_12 rfl (by decide) rfl ?_
  refine Z.iconst (pc := 13) (v := (nI 0)) dX6_whoCanGoAlone_13 (by decide) ?_
  refine Z.istore (pc := 14) (i := 4) dX6_whoCanGoAlone_14 (by decide) rfl ?_
  exact l_X6_whoCanGoAlone ho hR 8 0 0 rfl rfl
set_option maxRecDepth 100000 in
set_option maxHeartbeats 400000 in
theorem c_X6_makeLessShy {h : hp} {o n hr : Nat} {k s f : Nat → Int32} (ho : ro o) (hR : Rm h o n hr k s f) (g : Nat) (hg : g < n)  : Cn yX6_makeLessShy cX6_makeLessShy 2 none 1 [.ref o, .int (nI g)] h (z_eq none (z_up h (o + 2) g (lsI (s g)))) := by
  obtain ⟨-, -, -, -, rfl, rfl, rfl⟩ := id hR
  have hn8 := hR.2.2.2.1.1
  obtain ⟨a, ha, hsa⟩ := hR.2.2.2.1.2.2.1 g hg
  refine Cn.of (by decide) (Nat.le_of_ble_eq_true rfl) ?_
  refine Z.eqL (lv' := [(0, .ref o), (1, .int (nI g))]) rfl ?_
  refine Z.aload_n (pc := 0) (i := 0) dX6_makeLessShy_0 rfl rfl ?_
  refine Z.getR (pc := 1) dX6_makeLessShy_1 zf_X6_15 (ro_s ho) rfl ?_
  refine Z.iload_n (pc := 4) (i := 1) dX6_makeLessShy_4 rfl rfl ?_
  refine Z.iconst (pc := 5) (v := (0)) dX6_makeLessShy_5 (by decide) ?_
  refine Z.aload_n (pc := 6) (i := 0) dX6_makeLessShy_6 rfl rfl ?_
  refine Z.getR (pc := 7) dX6_makeLessShy_7 zf_X6_15 (ro_s ho) rfl ?_
  refine Z.iload_n (pc := 10) (i := 1) dX6_makeLessShy_10 rfl rfl ?_
  refine Z.iald (pc := 11) dX6_makeLessShy_11 (ro_2 ho) (by omega) (by decide) ?_
  refine Z.top (hsa) ?_
  refine Z.iconst (pc := 12) (v := (1)) dX6_makeLessShy_12 (by decide) ?_
  refine Z.isub (pc := 13) dX6_makeLessShy_13 ?_
  refine Z.mmax (pc := 14) dX6_makeLessShy_14 zm_X6_98 (by decide) (Nat.le_of_ble_eq_true rfl) ?_
  refine Z.top (show maxI 0 (nI a - 1) = lsI (h.1 (o + 2) g) from by rw [hsa, lsI_nI ha]; exact lsI_max a (by omega)) ?_
  refine Z.iast (pc := 17) dX6_makeLessShy_17 (ro_2 ho) (by omega) (by decide) ?_
  refine Z.vret (pc := 18) dX6_makeLessShy_18 rfl ?_
  exact ⟨rfl, rfl⟩
theorem Rm_row2 {h : hp} {o n hr : Nat} {k s f s' : Nat → Int32} (hR : Rm h o n hr k s f) (hK : Rk n k s' f) : Rm (z_row h (o + 2) s') o n hr k s' f := by
  obtain ⟨h1, h2, h3, h4, h5, h6, h7⟩ := hR
  refine ⟨?_, ?_, h3, hK, ?_, z_row_at _ _ _, ?_⟩
  · rw [z_row_ne (by omega)]; exact h1
  · rw [z_row_ne (by omega)]; exact h2
  · rw [z_row_ne (by omega)]; exact h5
  · rw [z_row_ne (by omega)]; exact h7
theorem Rm_here {h : hp} {o n hr a : Nat} {k s f : Nat → Int32} (hR : Rm h o n hr k s f) (ha : a < 2 ^ n) : Rm (z_up h o 4 (nI a)) o n a k s f := by
  obtain ⟨h1, h2, h3, h4, h5, h6, h7⟩ := hR
  refine ⟨?_, z_up_at _ _ _ _, ha, h4, ?_, ?_, ?_⟩
  · rw [z_up_nf (by decide)]; exact h1
  · rw [z_up_ne (by omega)]; exact h5
  · rw [z_up_ne (by omega)]; exact h6
  · rw [z_up_ne (by omega)]; exact h7
theorem Rm_up {h : hp} {o n hr j : Nat} {v : Int32} {k s f : Nat → Int32} (hR : Rm h o n hr k s f) (h3 : j ≠ 3) (h4 : j ≠ 4) : Rm (z_up h o j v) o n hr k s f := by
  obtain ⟨g1, g2, g3, g4, g5, g6, g7⟩ := hR
  refine ⟨?_, ?_, g3, g4, ?_, ?_, ?_⟩
  · rw [z_up_nf (Ne.symm h3)]; exact g1
  · rw [z_up_nf (Ne.symm h4)]; exact g2
  · rw [z_up_ne (by omega)]; exact g5
  · rw [z_up_ne (by omega)]; exact g6
  · rw [z_up_ne (by omega)]; exact g7
set_option maxRecDepth 100000 in
set_option maxHeartbeats 400000 in
theorem l_X6_makeAllLessShy {h : hp} {o n hr : Nat} {k s f : Nat → Int32} (ho : ro o) (hR : Rm h o n hr k s f) : ∀ (r i : Nat) , i + r = 8 → Z yX6_makeAllLessShy cX6_makeAllLessShy 2 none 2 (z_eq none (z_row h (o + 2) (lesR s hr 8))) 2 [(0, .ref o), (1, .int (nI i))] [] (z_row h (o + 2) (lesR s hr i)) := by
  have hn8 := hR.2.2.2.1.1
  intro r
  induction r with
  | zero =>
    intro i hi
    obtain rfl : i = 8 := by omega
    refine Z.iload_n (pc := 2) (i := 1) dX6_makeAllLessShy_2 rfl rfl ?_
    refine Z.bipush (pc := 3) (v := (nI 8)) dX6_makeAllLessShy_3 (by decide) ?_
    refine Z.icmp_ge_t (pc := 5) (tgt := 27) dX6_makeAllLessShy_5 (by decide) (nI_le (Nat.le_refl 8) (by decide)) ?_
    refine Z.vret (pc := 27) dX6_makeAllLessShy_27 rfl ?_
    exact ⟨rfl, rfl⟩
  | succ r ih =>
    intro i hi
    have hRi := Rm_row2 hR (Rk_les hR.2.2.2.1 hr i)
    refine Z.iload_n (pc := 2) (i := 1) dX6_makeAllLessShy_2 rfl rfl ?_
    refine Z.bipush (pc := 3) (v := (nI 8)) dX6_makeAllLessShy_3 (by decide) ?_
    refine Z.icmp_ge_f (pc := 5) (tgt := 27) dX6_makeAllLessShy_5 (by decide) (nI_ge (by omega) (by decide)) ?_
    refine Z.aload_n (pc := 8) (i := 0) dX6_makeAllLessShy_8 rfl rfl ?_
    refine Z.iload_n (pc := 9) (i := 1) dX6_makeAllLessShy_9 rfl rfl ?_
    refine Z.callVi (pc := 10) dX6_makeAllLessShy_10 (c_X6_isHere ho hRi i (by omega)) zm_X6_89 zv_X6_isHere (ro_s ho) rfl rfl rfl (by decide) (by decide) (Nat.le_of_ble_eq_true rfl) ?_
    refine Z.if_eq_b (pc := 13) (tgt := 21) dX6_makeAllLessShy_13 (by decide) (fun c13 => ?_) (fun c13 => ?_)
    · rw [lesR_f c13]
      refine Z.iinc (pc := 21) (i := 1) (v := (nI (i + 1))) dX6_makeAllLessShy_21 rfl (by exact ii_1 i) (by decide) rfl ?_
      refine Z.goto (pc := 24) (tgt := 2) dX6_makeAllLessShy_24 (by decide) ?_
      exact ih (i + 1) (by omega)
    · have hin : i < n := tb_lt hR.2.2.1 c13
      refine Z.aload_n (pc := 16) (i := 0) dX6_makeAllLessShy_16 rfl rfl ?_
      refine Z.iload_n (pc := 17) (i := 1) dX6_makeAllLessShy_17 rfl rfl ?_
      refine Z.callVv (pc := 18) dX6_makeAllLessShy_18 (c_X6_makeLessShy ho hRi i hin) zm_X6_109 zv_X6_makeLessShy (ro_s ho) rfl rfl rfl (by decide) (by decide) (Nat.le_of_ble_eq_true rfl) ?_
      rw [z_up_row, z_row_at, z_row_row, lesR_i, lesR_t c13]
      refine Z.iinc (pc := 21) (i := 1) (v := (nI (i + 1))) dX6_makeAllLessShy_21 rfl (by exact ii_1 i) (by decide) rfl ?_
      refine Z.goto (pc := 24) (tgt := 2) dX6_makeAllLessShy_24 (by decide) ?_
      exact ih (i + 1) (by omega)
set_option maxRecDepth 100000 in
set_option maxHeartbeats 400000 in
theorem c_X6_makeAllLessShy {h : hp} {o n hr : Nat} {k s f : Nat → Int32} (ho : ro o) (hR : Rm h o n hr k s f)  : Cn yX6_makeAllLessShy cX6_makeAllLessShy 2 none 2 [.ref o] h (z_eq none (z_row h (o + 2) (lesR s hr 8))) := by
  refine Cn.of (by decide) (Nat.le_of_ble_eq_true rfl) ?_
  refine Z.eqL (lv' := [(0, .ref o)]) rfl ?_
  refine Z.iconst (pc := 0) (v := (nI 0)) dX6_makeAllLessShy_0 (by decide) ?_
  refine Z.istore_n (pc := 1) (i := 1) dX6_makeAllLessShy_1 rfl (by decide) rfl ?_
  have e := l_X6_makeAllLessShy ho hR 8 0 rfl
  rw [lesR_0, ← hR.2.2.2.2.2.1, z_row_id] at e
  rw [hR.2.2.2.2.2.1] at e
  exact e
set_option maxRecDepth 100000 in
set_option maxHeartbeats 400000 in
theorem l_X6_goOneByOne {h : hp} {o n hr : Nat} {k s f : Nat → Int32} (ho : ro o) (hR : Rm h o n hr k s f) {X : Nat} : ∀ (r i : Nat) (a : Nat), i + r = 8 → a < 2 ^ n → goN k s f n r a = X → Z yX6_goOneByOne cX6_goOneByOne 4 none 3 (z_eq none (z_up h o 4 (nI X))) 7 [(0, .ref o), (1, .int (nI (alo k s f n a))), (2, .int (nI i))] [] (z_up h o 4 (nI a)) := by
  have hn8 := hR.2.2.2.1.1
  intro r
  induction r with
  | zero =>
    intro i a hi ha hX
    obtain rfl : i = 8 := by omega
    refine Z.iload_n (pc := 7) (i := 2) dX6_goOneByOne_7 rfl rfl ?_
    refine Z.bipush (pc := 8) (v := (nI 8)) dX6_goOneByOne_8 (by decide) ?_
    refine Z.icmp_ge_t (pc := 10) (tgt := 45) dX6_goOneByOne_10 (by decide) (nI_le (Nat.le_refl 8) (by decide)) ?_
    refine Z.vret (pc := 45) dX6_goOneByOne_45 rfl ?_
    exact ⟨rfl, by rw [← hX]; rfl⟩
  | succ r ih =>
    intro i a hi ha hX
    have hp := p8 hn8
    have hal := alo_lt (k := k) (s := s) (f := f) ha
    refine Z.iload_n (pc := 7) (i := 2) dX6_goOneByOne_7 rfl rfl ?_
    refine Z.bipush (pc := 8) (v := (nI 8)) dX6_goOneByOne_8 (by decide) ?_
    refine Z.icmp_ge_f (pc := 10) (tgt := 45) dX6_goOneByOne_10 (by decide) (nI_ge (by omega) (by decide)) ?_
    refine Z.iload_n (pc := 13) (i := 1) dX6_goOneByOne_13 rfl rfl ?_
    refine Z.if_eq (pc := 14) (tgt := 45) dX6_goOneByOne_14 (by decide) (fun c14 => ?_) (fun c14 => ?_)
    · have h0 : alo k s f n a = 0 := by rw [← nI_0] at c14; exact (nI_eq (by omega) (by decide)).mp c14
      have eX : a = X := by rw [← hX, goN, if_pos h0]
      subst eX
      refine Z.vret (pc := 45) dX6_goOneByOne_45 rfl ?_
      exact ⟨rfl, rfl⟩
    · have h0 : ¬ alo k s f n a = 0 := fun q => c14 (by rw [q]; rfl)
      refine Z.iload_n (pc := 17) (i := 1) dX6_goOneByOne_17 rfl rfl ?_
      refine Z.iload_n (pc := 18) (i := 1) dX6_goOneByOne_18 rfl rfl ?_
      refine Z.ineg (pc := 19) dX6_goOneByOne_19 ?_
      refine Z.iand (pc := 20) dX6_goOneByOne_20 ?_
      refine Z.top (low_all _ (by omega) h0) ?_
      refine Z.istore_n (pc := 21) (i := 3) dX6_goOneByOne_21 rfl (by decide) rfl ?_
      refine Z.aload_n (pc := 22) (i := 0) dX6_goOneByOne_22 rfl rfl ?_
      refine Z.dup (pc := 23) dX6_goOneByOne_23 rfl ?_
      refine Z.getIv (pc := 24) dX6_goOneByOne_24 zf_X6_33 (ro_s ho) rfl (z_up_at _ _ _ _) ?_
      refine Z.iload_n (pc := 27) (i := 3) dX6_goOneByOne_27 rfl rfl ?_
      refine Z.iconst (pc := 28) (v := (-1)) dX6_goOneByOne_28 (by decide) ?_
      refine Z.ixor (pc := 29) dX6_goOneByOne_29 ?_
      refine Z.iand (pc := 30) dX6_goOneByOne_30 ?_
      refine Z.top (nb_dif _ _) ?_
      refine Z.putI (pc := 31) dX6_goOneByOne_31 zp_X6_33 (ro_s ho) rfl rfl rfl ?_
      rw [z_up_up]
      refine Z.aload_n (pc := 34) (i := 0) dX6_goOneByOne_34 rfl rfl ?_
      refine Z.callVi (pc := 35) dX6_goOneByOne_35 (c_X6_whoCanGoAlone ho (Rm_here hR (dif_lt ha))) zm_X6_113 zv_X6_whoCanGoAlone (ro_s ho) rfl rfl rfl (by decide) (by decide) (Nat.le_of_ble_eq_true rfl) ?_
      refine Z.istore_n (pc := 38) (i := 1) dX6_goOneByOne_38 rfl (by decide) rfl ?_
      refine Z.iinc (pc := 39) (i := 2) (v := (nI (i + 1))) dX6_goOneByOne_39 rfl (by exact ii_1 i) (by decide) rfl ?_
      refine Z.goto (pc := 42) (tgt := 7) dX6_goOneByOne_42 (by decide) ?_
      refine Z.drop 3 ?_
      exact ih (i + 1) _ (by omega) (dif_lt ha) (by rw [← hX, goN, if_neg h0])
set_option maxRecDepth 100000 in
set_option maxHeartbeats 400000 in
theorem c_X6_goOneByOne {h : hp} {o n hr : Nat} {k s f : Nat → Int32} (ho : ro o) (hR : Rm h o n hr k s f)  : Cn yX6_goOneByOne cX6_goOneByOne 4 none 3 [.ref o] h (z_eq none (z_up h o 4 (nI (goN k s f n 8 hr)))) := by
  refine Cn.of (by decide) (Nat.le_of_ble_eq_true rfl) ?_
  refine Z.eqL (lv' := [(0, .ref o)]) rfl ?_
  refine Z.aload_n (pc := 0) (i := 0) dX6_goOneByOne_0 rfl rfl ?_
  refine Z.callVi (pc := 1) dX6_goOneByOne_1 (c_X6_whoCanGoAlone ho hR) zm_X6_113 zv_X6_whoCanGoAlone (ro_s ho) rfl rfl rfl (by decide) (by decide) (Nat.le_of_ble_eq_true rfl) ?_
  refine Z.istore_n (pc := 4) (i := 1) dX6_goOneByOne_4 rfl (by decide) rfl ?_
  refine Z.iconst (pc := 5) (v := (nI 0)) dX6_goOneByOne_5 (by decide) ?_
  refine Z.istore_n (pc := 6) (i := 2) dX6_goOneByOne_6 rfl (by decide) rfl ?_
  have e := l_X6_goOneByOne ho hR (X := goN k s f n 8 hr) 8 0 hr rfl hR.2.2.1 rfl
  rw [z_up_id hR.2.1] at e
  exact e
def cpX (h : hp) (o p : Nat) : hp := z_up (z_up (z_up (z_up (z_row (z_row (z_row h (o + 1) (h.1 (p + 1))) (o + 2) (h.1 (p + 2))) (o + 3) (h.1 (p + 3))) o 3 (h.1 p 3)) o 4 (h.1 p 4)) o 5 (h.1 p 5)) o 6 (h.1 p 6)
set_option maxRecDepth 100000 in
set_option maxHeartbeats 400000 in
theorem c_X6_copyFrom_19_3 {h : hp} (z1 : va_cpy (h.1 4) (h.1 20) 0 0 8 = h.1 4) (z2 : va_cpy (h.1 5) (h.1 21) 0 0 8 = h.1 5) (z3 : va_cpy (h.1 6) (h.1 22) 0 0 8 = h.1 6) : Cn yX6_copyFrom cX6_copyFrom 2 none 1 [.ref 19, .ref 3] h (z_eq none (cpX h 19 3)) := by
  refine Cn.of (by decide) (Nat.le_of_ble_eq_true rfl) ?_
  refine Z.eqL (lv' := [(0, .ref 19), (1, .ref 3)]) rfl ?_
  refine Z.aload_n (pc := 0) (i := 1) dX6_copyFrom_0 rfl rfl ?_
  refine Z.getR (pc := 1) dX6_copyFrom_1 zf_X6_9 rfl rfl ?_
  refine Z.iconst (pc := 4) (v := (0)) dX6_copyFrom_4 (by decide) ?_
  refine Z.aload_n (pc := 5) (i := 0) dX6_copyFrom_5 rfl rfl ?_
  refine Z.getR (pc := 6) dX6_copyFrom_6 zf_X6_9 rfl rfl ?_
  refine Z.iconst (pc := 9) (v := (0)) dX6_copyFrom_9 (by decide) ?_
  refine Z.bipush (pc := 10) (v := (8)) dX6_copyFrom_10 (by decide) ?_
  refine Z.copy8 (pc := 12) dX6_copyFrom_12 rfl rfl rfl (by decide) (Nat.le_of_ble_eq_true rfl) ?_
  refine Z.eqH (h' := (z_row h 20 (h.1 4))) (congrArg (z_row h 20) z1) ?_
  refine Z.aload_n (pc := 15) (i := 1) dX6_copyFrom_15 rfl rfl ?_
  refine Z.getR (pc := 16) dX6_copyFrom_16 zf_X6_15 rfl rfl ?_
  refine Z.iconst (pc := 19) (v := (0)) dX6_copyFrom_19 (by decide) ?_
  refine Z.aload_n (pc := 20) (i := 0) dX6_copyFrom_20 rfl rfl ?_
  refine Z.getR (pc := 21) dX6_copyFrom_21 zf_X6_15 rfl rfl ?_
  refine Z.iconst (pc := 24) (v := (0)) dX6_copyFrom_24 (by decide) ?_
  refine Z.bipush (pc := 25) (v := (8)) dX6_copyFrom_25 (by decide) ?_
  refine Z.copy8 (pc := 27) dX6_copyFrom_27 rfl rfl rfl (by decide) (Nat.le_of_ble_eq_true rfl) ?_
  refine Z.eqH (h' := (z_row (z_row h 20 (h.1 4)) 21 (h.1 5))) (congrArg (z_row (z_row h 20 (h.1 4)) 21) z2) ?_
  refine Z.aload_n (pc := 30) (i := 1) dX6_copyFrom_30 rfl rfl ?_
  refine Z.getR (pc := 31) dX6_copyFrom_31 zf_X6_18 rfl rfl ?_
  refine Z.iconst (pc := 34) (v := (0)) dX6_copyFrom_34 (by decide) ?_
  refine Z.aload_n (pc := 35) (i := 0) dX6_copyFrom_35 rfl rfl ?_
  refine Z.getR (pc := 36) dX6_copyFrom_36 zf_X6_18 rfl rfl ?_
  refine Z.iconst (pc := 39) (v := (0)) dX6_copyFrom_39 (by decide) ?_
  refine Z.bipush (pc := 40) (v := (8)) dX6_copyFrom_40 (by decide) ?_
  refine Z.copy8 (pc := 42) dX6_copyFrom_42 rfl rfl rfl (by decide) (Nat.le_of_ble_eq_true rfl) ?_
  refine Z.eqH (h' := (z_row (z_row (z_row h 20 (h.1 4)) 21 (h.1 5)) 22 (h.1 6))) (congrArg (z_row (z_row (z_row h 20 (h.1 4)) 21 (h.1 5)) 22) z3) ?_
  refine Z.aload_n (pc := 45) (i := 0) dX6_copyFrom_45 rfl rfl ?_
  refine Z.aload_n (pc := 46) (i := 1) dX6_copyFrom_46 rfl rfl ?_
  refine Z.getIv (pc := 47) dX6_copyFrom_47 zf_X6_27 rfl rfl (show _ = h.1 3 3 from rfl) ?_
  refine Z.putI (pc := 50) dX6_copyFrom_50 zp_X6_27 rfl rfl rfl rfl ?_
  refine Z.aload_n (pc := 53) (i := 0) dX6_copyFrom_53 rfl rfl ?_
  refine Z.aload_n (pc := 54) (i := 1) dX6_copyFrom_54 rfl rfl ?_
  refine Z.getIv (pc := 55) dX6_copyFrom_55 zf_X6_33 rfl rfl (show _ = h.1 3 4 from rfl) ?_
  refine Z.putI (pc := 58) dX6_copyFrom_58 zp_X6_33 rfl rfl rfl rfl ?_
  refine Z.aload_n (pc := 61) (i := 0) dX6_copyFrom_61 rfl rfl ?_
  refine Z.aload_n (pc := 62) (i := 1) dX6_copyFrom_62 rfl rfl ?_
  refine Z.getIv (pc := 63) dX6_copyFrom_63 zf_X6_40 rfl rfl (show _ = h.1 3 5 from rfl) ?_
  refine Z.putI (pc := 66) dX6_copyFrom_66 zp_X6_40 rfl rfl rfl rfl ?_
  refine Z.aload_n (pc := 69) (i := 0) dX6_copyFrom_69 rfl rfl ?_
  refine Z.aload_n (pc := 70) (i := 1) dX6_copyFrom_70 rfl rfl ?_
  refine Z.getIv (pc := 71) dX6_copyFrom_71 zf_X6_43 rfl rfl (show _ = h.1 3 6 from rfl) ?_
  refine Z.putI (pc := 74) dX6_copyFrom_74 zp_X6_43 rfl rfl rfl rfl ?_
  refine Z.vret (pc := 77) dX6_copyFrom_77 rfl ?_
  exact ⟨rfl, rfl⟩
set_option maxRecDepth 100000 in
set_option maxHeartbeats 400000 in
theorem c_X6_copyFrom_11_3 {h : hp} (z1 : va_cpy (h.1 4) (h.1 12) 0 0 8 = h.1 4) (z2 : va_cpy (h.1 5) (h.1 13) 0 0 8 = h.1 5) (z3 : va_cpy (h.1 6) (h.1 14) 0 0 8 = h.1 6) : Cn yX6_copyFrom cX6_copyFrom 2 none 1 [.ref 11, .ref 3] h (z_eq none (cpX h 11 3)) := by
  refine Cn.of (by decide) (Nat.le_of_ble_eq_true rfl) ?_
  refine Z.eqL (lv' := [(0, .ref 11), (1, .ref 3)]) rfl ?_
  refine Z.aload_n (pc := 0) (i := 1) dX6_copyFrom_0 rfl rfl ?_
  refine Z.getR (pc := 1) dX6_copyFrom_1 zf_X6_9 rfl rfl ?_
  refine Z.iconst (pc := 4) (v := (0)) dX6_copyFrom_4 (by decide) ?_
  refine Z.aload_n (pc := 5) (i := 0) dX6_copyFrom_5 rfl rfl ?_
  refine Z.getR (pc := 6) dX6_copyFrom_6 zf_X6_9 rfl rfl ?_
  refine Z.iconst (pc := 9) (v := (0)) dX6_copyFrom_9 (by decide) ?_
  refine Z.bipush (pc := 10) (v := (8)) dX6_copyFrom_10 (by decide) ?_
  refine Z.copy8 (pc := 12) dX6_copyFrom_12 rfl rfl rfl (by decide) (Nat.le_of_ble_eq_true rfl) ?_
  refine Z.eqH (h' := (z_row h 12 (h.1 4))) (congrArg (z_row h 12) z1) ?_
  refine Z.aload_n (pc := 15) (i := 1) dX6_copyFrom_15 rfl rfl ?_
  refine Z.getR (pc := 16) dX6_copyFrom_16 zf_X6_15 rfl rfl ?_
  refine Z.iconst (pc := 19) (v := (0)) dX6_copyFrom_19 (by decide) ?_
  refine Z.aload_n (pc := 20) (i := 0) dX6_copyFrom_20 rfl rfl ?_
  refine Z.getR (pc := 21) dX6_copyFrom_21 zf_X6_15 rfl rfl ?_
  refine Z.iconst (pc := 24) (v := (0)) dX6_copyFrom_24 (by decide) ?_
  refine Z.bipush (pc := 25) (v := (8)) dX6_copyFrom_25 (by decide) ?_
  refine Z.copy8 (pc := 27) dX6_copyFrom_27 rfl rfl rfl (by decide) (Nat.le_of_ble_eq_true rfl) ?_
  refine Z.eqH (h' := (z_row (z_row h 12 (h.1 4)) 13 (h.1 5))) (congrArg (z_row (z_row h 12 (h.1 4)) 13) z2) ?_
  refine Z.aload_n (pc := 30) (i := 1) dX6_copyFrom_30 rfl rfl ?_
  refine Z.getR (pc := 31) dX6_copyFrom_31 zf_X6_18 rfl rfl ?_
  refine Z.iconst (pc := 34) (v := (0)) dX6_copyFrom_34 (by decide) ?_
  refine Z.aload_n (pc := 35) (i := 0) dX6_copyFrom_35 rfl rfl ?_
  refine Z.getR (pc := 36) dX6_copyFrom_36 zf_X6_18 rfl rfl ?_
  refine Z.iconst (pc := 39) (v := (0)) dX6_copyFrom_39 (by decide) ?_
  refine Z.bipush (pc := 40) (v := (8)) dX6_copyFrom_40 (by decide) ?_
  refine Z.copy8 (pc := 42) dX6_copyFrom_42 rfl rfl rfl (by decide) (Nat.le_of_ble_eq_true rfl) ?_
  refine Z.eqH (h' := (z_row (z_row (z_row h 12 (h.1 4)) 13 (h.1 5)) 14 (h.1 6))) (congrArg (z_row (z_row (z_row h 12 (h.1 4)) 13 (h.1 5)) 14) z3) ?_
  refine Z.aload_n (pc := 45) (i := 0) dX6_copyFrom_45 rfl rfl ?_
  refine Z.aload_n (pc := 46) (i := 1) dX6_copyFrom_46 rfl rfl ?_
  refine Z.getIv (pc := 47) dX6_copyFrom_47 zf_X6_27 rfl rfl (show _ = h.1 3 3 from rfl) ?_
  refine Z.putI (pc := 50) dX6_copyFrom_50 zp_X6_27 rfl rfl rfl rfl ?_
  refine Z.aload_n (pc := 53) (i := 0) dX6_copyFrom_53 rfl rfl ?_
  refine Z.aload_n (pc := 54) (i := 1) dX6_copyFrom_54 rfl rfl ?_
  refine Z.getIv (pc := 55) dX6_copyFrom_55 zf_X6_33 rfl rfl (show _ = h.1 3 4 from rfl) ?_
  refine Z.putI (pc := 58) dX6_copyFrom_58 zp_X6_33 rfl rfl rfl rfl ?_
  refine Z.aload_n (pc := 61) (i := 0) dX6_copyFrom_61 rfl rfl ?_
  refine Z.aload_n (pc := 62) (i := 1) dX6_copyFrom_62 rfl rfl ?_
  refine Z.getIv (pc := 63) dX6_copyFrom_63 zf_X6_40 rfl rfl (show _ = h.1 3 5 from rfl) ?_
  refine Z.putI (pc := 66) dX6_copyFrom_66 zp_X6_40 rfl rfl rfl rfl ?_
  refine Z.aload_n (pc := 69) (i := 0) dX6_copyFrom_69 rfl rfl ?_
  refine Z.aload_n (pc := 70) (i := 1) dX6_copyFrom_70 rfl rfl ?_
  refine Z.getIv (pc := 71) dX6_copyFrom_71 zf_X6_43 rfl rfl (show _ = h.1 3 6 from rfl) ?_
  refine Z.putI (pc := 74) dX6_copyFrom_74 zp_X6_43 rfl rfl rfl rfl ?_
  refine Z.vret (pc := 77) dX6_copyFrom_77 rfl ?_
  exact ⟨rfl, rfl⟩
set_option maxRecDepth 100000 in
set_option maxHeartbeats 400000 in
theorem c_X6_copyFrom_3_11 {h : hp} (z1 : va_cpy (h.1 12) (h.1 4) 0 0 8 = h.1 12) (z2 : va_cpy (h.1 13) (h.1 5) 0 0 8 = h.1 13) (z3 : va_cpy (h.1 14) (h.1 6) 0 0 8 = h.1 14) : Cn yX6_copyFrom cX6_copyFrom 2 none 1 [.ref 3, .ref 11] h (z_eq none (cpX h 3 11)) := by
  refine Cn.of (by decide) (Nat.le_of_ble_eq_true rfl) ?_
  refine Z.eqL (lv' := [(0, .ref 3), (1, .ref 11)]) rfl ?_
  refine Z.aload_n (pc := 0) (i := 1) dX6_copyFrom_0 rfl rfl ?_
  refine Z.getR (pc := 1) dX6_copyFrom_1 zf_X6_9 rfl rfl ?_
  refine Z.iconst (pc := 4) (v := (0)) dX6_copyFrom_4 (by decide) ?_
  refine Z.aload_n (pc := 5) (i := 0) dX6_copyFrom_5 rfl rfl ?_
  refine Z.getR (pc := 6) dX6_copyFrom_6 zf_X6_9 rfl rfl ?_
  refine Z.iconst (pc := 9) (v := (0)) dX6_copyFrom_9 (by decide) ?_
  refine Z.bipush (pc := 10) (v := (8)) dX6_copyFrom_10 (by decide) ?_
  refine Z.copy8 (pc := 12) dX6_copyFrom_12 rfl rfl rfl (by decide) (Nat.le_of_ble_eq_true rfl) ?_
  refine Z.eqH (h' := (z_row h 4 (h.1 12))) (congrArg (z_row h 4) z1) ?_
  refine Z.aload_n (pc := 15) (i := 1) dX6_copyFrom_15 rfl rfl ?_
  refine Z.getR (pc := 16) dX6_copyFrom_16 zf_X6_15 rfl rfl ?_
  refine Z.iconst (pc := 19) (v := (0)) dX6_copyFrom_19 (by decide) ?_
  refine Z.aload_n (pc := 20) (i := 0) dX6_copyFrom_20 rfl rfl ?_
  refine Z.getR (pc := 21) dX6_copyFrom_21 zf_X6_15 rfl rfl ?_
  refine Z.iconst (pc := 24) (v := (0)) dX6_copyFrom_24 (by decide) ?_
  refine Z.bipush (pc := 25) (v := (8)) dX6_copyFrom_25 (by decide) ?_
  refine Z.copy8 (pc := 27) dX6_copyFrom_27 rfl rfl rfl (by decide) (Nat.le_of_ble_eq_true rfl) ?_
  refine Z.eqH (h' := (z_row (z_row h 4 (h.1 12)) 5 (h.1 13))) (congrArg (z_row (z_row h 4 (h.1 12)) 5) z2) ?_
  refine Z.aload_n (pc := 30) (i := 1) dX6_copyFrom_30 rfl rfl ?_
  refine Z.getR (pc := 31) dX6_copyFrom_31 zf_X6_18 rfl rfl ?_
  refine Z.iconst (pc := 34) (v := (0)) dX6_copyFrom_34 (by decide) ?_
  refine Z.aload_n (pc := 35) (i := 0) dX6_copyFrom_35 rfl rfl ?_
  refine Z.getR (pc := 36) dX6_copyFrom_36 zf_X6_18 rfl rfl ?_
  refine Z.iconst (pc := 39) (v := (0)) dX6_copyFrom_39 (by decide) ?_
  refine Z.bipush (pc := 40) (v := (8)) dX6_copyFrom_40 (by decide) ?_
  refine Z.copy8 (pc := 42) dX6_copyFrom_42 rfl rfl rfl (by decide) (Nat.le_of_ble_eq_true rfl) ?_
  refine Z.eqH (h' := (z_row (z_row (z_row h 4 (h.1 12)) 5 (h.1 13)) 6 (h.1 14))) (congrArg (z_row (z_row (z_row h 4 (h.1 12)) 5 (h.1 13)) 6) z3) ?_
  refine Z.aload_n (pc := 45) (i := 0) dX6_copyFrom_45 rfl rfl ?_
  refine Z.aload_n (pc := 46) (i := 1) dX6_copyFrom_46 rfl rfl ?_
  refine Z.getIv (pc := 47) dX6_copyFrom_47 zf_X6_27 rfl rfl (show _ = h.1 11 3 from rfl) ?_
  refine Z.putI (pc := 50) dX6_copyFrom_50 zp_X6_27 rfl rfl rfl rfl ?_
  refine Z.aload_n (pc := 53) (i := 0) dX6_copyFrom_53 rfl rfl ?_
  refine Z.aload_n (pc := 54) (i := 1) dX6_copyFrom_54 rfl rfl ?_
  refine Z.getIv (pc := 55) dX6_copyFrom_55 zf_X6_33 rfl rfl (show _ = h.1 11 4 from rfl) ?_
  refine Z.putI (pc := 58) dX6_copyFrom_58 zp_X6_33 rfl rfl rfl rfl ?_
  refine Z.aload_n (pc := 61) (i := 0) dX6_copyFrom_61 rfl rfl ?_
  refine Z.aload_n (pc := 62) (i := 1) dX6_copyFrom_62 rfl rfl ?_
  refine Z.getIv (pc := 63) dX6_copyFrom_63 zf_X6_40 rfl rfl (show _ = h.1 11 5 from rfl) ?_
  refine Z.putI (pc := 66) dX6_copyFrom_66 zp_X6_40 rfl rfl rfl rfl ?_
  refine Z.aload_n (pc := 69) (i := 0) dX6_copyFrom_69 rfl rfl ?_
  refine Z.aload_n (pc := 70) (i := 1) dX6_copyFrom_70 rfl rfl ?_
  refine Z.getIv (pc := 71) dX6_copyFrom_71 zf_X6_43 rfl rfl (show _ = h.1 11 6 from rfl) ?_
  refine Z.putI (pc := 74) dX6_copyFrom_74 zp_X6_43 rfl rfl rfl rfl ?_
  refine Z.vret (pc := 77) dX6_copyFrom_77 rfl ?_
  exact ⟨rfl, rfl⟩
set_option maxRecDepth 100000 in
set_option maxHeartbeats 400000 in
theorem c_X6_letHourPass {h : hp} {o n hr : Nat} {k s f : Nat → Int32} (ho : ro o) (hR : Rm h o n hr k s f) {fd : Nat} (hfd : h.1 o 5 = nI fd) (hf9 : fd ≤ 99)  : Cn yX6_letHourPass cX6_letHourPass 2 (some .int) 4 [.ref o] h (z_eq (some (.int (nI (pop hr) - nI (pop (hsH k s f n hr fd))))) (hrX h o (hsS s hr fd) (fd - pop hr) (hsH k s f n hr fd))) := by
  have hn8 := hR.2.2.2.1.1
  have hp8 := p8 hn8
  have hlt := hR.2.2.1
  have hR2 : Rm (z_up (z_up h o 6 (h.1 o 6 + 1)) o 5 (nI (fd - pop hr))) o n hr k s f := Rm_up (Rm_up hR (by decide) (by decide)) (by decide) (by decide)
  refine Cn.of (by decide) (Nat.le_of_ble_eq_true rfl) ?_
  refine Z.eqL (lv' := [(0, .ref o)]) rfl ?_
  refine Z.aload_n (pc := 0) (i := 0) dX6_letHourPass_0 rfl rfl ?_
  refine Z.getIv (pc := 1) dX6_letHourPass_1 zf_X6_33 (ro_s ho) rfl hR.2.1 ?_
  refine Z.callSi (pc := 4) dX6_letHourPass_4 (c_J6_bitCount_0f7a4 hr (by omega)) zm_X6_93 zs_J6_bitCount_0f7a4 rfl rfl (by decide) (by decide) (Nat.le_of_ble_eq_true rfl) ?_
  refine Z.istore_n (pc := 7) (i := 1) dX6_letHourPass_7 rfl (by decide) rfl ?_
  refine Z.aload_n (pc := 8) (i := 0) dX6_letHourPass_8 rfl rfl ?_
  refine Z.dup (pc := 9) dX6_letHourPass_9 rfl ?_
  refine Z.getI (pc := 10) dX6_letHourPass_10 zf_X6_43 (ro_s ho) rfl ?_
  refine Z.iconst (pc := 13) (v := (1)) dX6_letHourPass_13 (by decide) ?_
  refine Z.iadd (pc := 14) dX6_letHourPass_14 ?_
  refine Z.putI (pc := 15) dX6_letHourPass_15 zp_X6_43 (ro_s ho) rfl rfl rfl ?_
  refine Z.aload_n (pc := 18) (i := 0) dX6_letHourPass_18 rfl rfl ?_
  refine Z.iconst (pc := 19) (v := (0)) dX6_letHourPass_19 (by decide) ?_
  refine Z.aload_n (pc := 20) (i := 0) dX6_letHourPass_20 rfl rfl ?_
  refine Z.getIv (pc := 21) dX6_letHourPass_21 zf_X6_40 (ro_s ho) rfl (show _ = nI fd from by rw [z_up_nf (by decide)]; exact hfd) ?_
  refine Z.iload_n (pc := 24) (i := 1) dX6_letHourPass_24 rfl rfl ?_
  refine Z.isub (pc := 25) dX6_letHourPass_25 ?_
  refine Z.mmax (pc := 26) dX6_letHourPass_26 zm_X6_98 (by decide) (Nat.le_of_ble_eq_true rfl) ?_
  refine Z.top (max_sub (by omega) (by have := pop_le hr; omega)) ?_
  refine Z.putI (pc := 29) dX6_letHourPass_29 zp_X6_40 (ro_s ho) rfl rfl rfl ?_
  refine Z.aload_n (pc := 32) (i := 0) dX6_letHourPass_32 rfl rfl ?_
  refine Z.getIv (pc := 33) dX6_letHourPass_33 zf_X6_40 (ro_s ho) rfl (z_up_at _ _ _ _) ?_
  refine Z.if_ne (pc := 36) (tgt := 43) dX6_letHourPass_36 (by decide) (fun c36 => ?_) (fun c36 => ?_)
  · have e0 : ¬ fd - pop hr = 0 := fun q => c36 (by rw [q]; rfl)
    have eS : hsS s hr fd = s := by unfold hsS; rw [if_neg e0]
    have e3 : (z_up (z_up h o 6 (h.1 o 6 + 1)) o 5 (nI (fd - pop hr))) = z_row (z_up (z_up h o 6 (h.1 o 6 + 1)) o 5 (nI (fd - pop hr))) (o + 2) (hsS s hr fd) := by rw [eS]; have q := hR2.2.2.2.2.2.1; rw [← q, z_row_id]
    refine Z.eqH e3 ?_
    refine Z.aload_n (pc := 43) (i := 0) dX6_letHourPass_43 rfl rfl ?_
    refine Z.callVv (pc := 44) dX6_letHourPass_44 (c_X6_goOneByOne ho (Rm_row2 hR2 (Rk_hs hR.2.2.2.1 hr fd))) zm_X6_106 zv_X6_goOneByOne (ro_s ho) rfl rfl rfl (by decide) (by decide) (Nat.le_of_ble_eq_true rfl) ?_
    refine Z.iload_n (pc := 47) (i := 1) dX6_letHourPass_47 rfl rfl ?_
    refine Z.aload_n (pc := 48) (i := 0) dX6_letHourPass_48 rfl rfl ?_
    refine Z.getIv (pc := 49) dX6_letHourPass_49 zf_X6_33 (ro_s ho) rfl (z_up_at _ _ _ _) ?_
    refine Z.callSi (pc := 52) dX6_letHourPass_52 (c_J6_bitCount_0f7a4 _ (Nat.lt_of_lt_of_le (hsH_lt (s := s) hR.2.2.1) (by omega))) zm_X6_93 zs_J6_bitCount_0f7a4 rfl rfl (by decide) (by decide) (Nat.le_of_ble_eq_true rfl) ?_
    refine Z.isub (pc := 55) dX6_letHourPass_55 ?_
    refine Z.iret (pc := 56) (ty := .int) dX6_letHourPass_56 rfl rfl ?_
    exact ⟨rfl, rfl⟩
  · have e0 : fd - pop hr = 0 := by rw [← nI_0] at c36; exact (nI_eq (by omega) (by decide)).mp c36
    have eS : hsS s hr fd = lesR s hr 8 := by unfold hsS; rw [if_pos e0]
    refine Z.aload_n (pc := 39) (i := 0) dX6_letHourPass_39 rfl rfl ?_
    refine Z.callVv (pc := 40) dX6_letHourPass_40 (c_X6_makeAllLessShy ho hR2) zm_X6_103 zv_X6_makeAllLessShy (ro_s ho) rfl rfl rfl (by decide) (by decide) (Nat.le_of_ble_eq_true rfl) ?_
    rw [← eS]
    refine Z.aload_n (pc := 43) (i := 0) dX6_letHourPass_43 rfl rfl ?_
    refine Z.callVv (pc := 44) dX6_letHourPass_44 (c_X6_goOneByOne ho (Rm_row2 hR2 (Rk_hs hR.2.2.2.1 hr fd))) zm_X6_106 zv_X6_goOneByOne (ro_s ho) rfl rfl rfl (by decide) (by decide) (Nat.le_of_ble_eq_true rfl) ?_
    refine Z.iload_n (pc := 47) (i := 1) dX6_letHourPass_47 rfl rfl ?_
    refine Z.aload_n (pc := 48) (i := 0) dX6_letHourPass_48 rfl rfl ?_
    refine Z.getIv (pc := 49) dX6_letHourPass_49 zf_X6_33 (ro_s ho) rfl (z_up_at _ _ _ _) ?_
    refine Z.callSi (pc := 52) dX6_letHourPass_52 (c_J6_bitCount_0f7a4 _ (Nat.lt_of_lt_of_le (hsH_lt (s := s) hR.2.2.1) (by omega))) zm_X6_93 zs_J6_bitCount_0f7a4 rfl rfl (by decide) (by decide) (Nat.le_of_ble_eq_true rfl) ?_
    refine Z.isub (pc := 55) dX6_letHourPass_55 ?_
    refine Z.iret (pc := 56) (ty := .int) dX6_letHourPass_56 rfl rfl ?_
    exact ⟨rfl, rfl⟩
end
section
/-! the text "gchpk", the page -/
def chr (j : Nat) : Int32 := ([103, 99, 104, 112, 107] : List Int32).getD j 0
theorem chr_c : ∀ j, j < 5 → ((chr j &&& 255).toUInt32 % 65536).toInt32 = chr j := by decide +kernel
theorem chr_n : ∀ j, j < 5 → narrow .char (.int (chr j)) = .int (chr j) := by
  intro j hj
  rcases (show j = 0 ∨ j = 1 ∨ j = 2 ∨ j = 3 ∨ j = 4 by omega) with rfl | rfl | rfl | rfl | rfl <;> rfl
def kofI (c : Int32) : Int32 := if c = 103 then 0 else if c = 99 then 1 else if c = 104 then 2 else if c = 112 then 3 else if c = 107 then 4 else -1
theorem kof_chr : ∀ i, i < 5 → kofI (chr i) = nI i := by decide +kernel
theorem kof_none {c : Int32} (h : ∀ j, j < 5 → ¬ chr j = c) : kofI c = -1 := by
  have h0 := h 0 (by decide); have h1 := h 1 (by decide); have h2 := h 2 (by decide); have h3 := h 3 (by decide); have h4 := h 4 (by decide)
  have g0 : ¬ c = 103 := fun e => h0 (by rw [e]; rfl)
  have g1 : ¬ c = 99 := fun e => h1 (by rw [e]; rfl)
  have g2 : ¬ c = 104 := fun e => h2 (by rw [e]; rfl)
  have g3 : ¬ c = 112 := fun e => h3 (by rw [e]; rfl)
  have g4 : ¬ c = 107 := fun e => h4 (by rw [e]; rfl)
  simp [kofI, g0, g1, g2, g3, g4]
theorem kof_ok {c : Int32} (h : ¬ kofI c = -1) : okK (kofI c) := by
  unfold kofI at h ⊢
  unfold okK
  split
  · exact Or.inl rfl
  · split
    · exact Or.inr (Or.inl rfl)
    · split
      · exact Or.inr (Or.inr (Or.inl rfl))
      · split
        · exact Or.inr (Or.inr (Or.inr (Or.inl rfl)))
        · split
          · exact Or.inr (Or.inr (Or.inr (Or.inr rfl)))
          · rename_i a b c d e; simp [a, b, c, d, e] at h
def digB (c b : Int32) : Bool := decide (48 ≤ c ∧ c < 48 + b)
def fitG (g st : Nat) (c : Int32) : Bool := decide (g < 8) && (if st = 0 then decide (¬ kofI c = -1) else if st = 1 then digB c 10 else if st = 2 then (decide (c = 45) || digB c (nI g)) else (decide (c = 44) && decide (g < 7)))
def fitB (p : Nat) (c : Int32) : Bool := if p < 2 then digB c 10 else if p = 2 then decide (c = 59) else fitG ((p - 3) / 4) ((p - 3) % 4) c
def ffN (pg : Nat → Int32) (len : Nat) : Nat := fstB (fun p => !fitB p (pg p)) len 0
def isP (pg : Nat → Int32) (len : Nat) : Bool := decide (3 < len ∧ (len - 3) % 4 = 3) && (decide (2 ≤ (len - 2) / 4) && decide (ffN pg len = len))
/-- how many hints, from i on, till what he needs is no more than others count; none: -1 -/
def htI (k : Int32) (a : Nat) (ot : Int32) : Nat → Nat → Int32
  | 0, _ => -1
  | r + 1, i => if ndsI k (nI (a - i)) ≤ ot then nI i else htI k a ot r (i + 1)
def htT (k : Int32) (a : Nat) (ot : Int32) : Int32 := htI k a ot (a + 1) 0
def z_r3 (h : hp) (x : Nat) (a : Nat → Int32) (y : Nat) (b : Nat → Int32) (z : Nat) (c : Nat → Int32) : hp := z_row (z_row (z_row h x a) y b) z c
theorem z_r3_1 {h : hp} {x y z j : Nat} {a b c : Nat → Int32} {v : Int32} (h1 : x ≠ y) (h2 : x ≠ z) : z_up (z_r3 h x a y b z c) x j v = z_r3 h x (upd a j v) y b z c := by
  unfold z_r3
  rw [z_up_row, z_row_ne h2, z_row_ne h1, z_row_at, z_row_comm (Ne.symm h2), z_row_comm (Ne.symm h1), z_row_row]
theorem z_r3_2 {h : hp} {x y z j : Nat} {a b c : Nat → Int32} {v : Int32} (h3 : y ≠ z) : z_up (z_r3 h x a y b z c) y j v = z_r3 h x a y (upd b j v) z c := by
  unfold z_r3
  rw [z_up_row, z_row_ne h3, z_row_at, z_row_comm (Ne.symm h3), z_row_row]
theorem z_r3_3 {h : hp} {x y z j : Nat} {a b c : Nat → Int32} {v : Int32} : z_up (z_r3 h x a y b z c) z j v = z_r3 h x a y b z (upd c j v) := by
  unfold z_r3
  rw [z_up_row, z_row_at, z_row_row]
/-- a row filled from below -/
def rdR (f old : Nat → Int32) (i : Nat) : Nat → Int32 := fun g => if g < i then f g else old g
theorem rdR_0 (f old : Nat → Int32) : rdR f old 0 = old := by funext g; simp [rdR]
theorem rdR_s (f old : Nat → Int32) (i : Nat) : upd (rdR f old i) i (f i) = rdR f old (i + 1) := by
  funext g
  by_cases e : g = i
  · subst e; simp [upd, rdR]
  · have : (g < i + 1) ↔ g < i := by omega
    simp [upd, rdR, e, this]
def pgK (pg : Nat → Int32) (g : Nat) : Int32 := kofI (pg (3 + 4 * g))
def pgS (pg : Nat → Int32) (g : Nat) : Int32 := pg (3 + 4 * g + 1) - 48
def pgF (pg : Nat → Int32) (g : Nat) : Int32 := if pg (3 + 4 * g + 2) = 45 then -1 else pg (3 + 4 * g + 2) - 48
def pgD (pg : Nat → Int32) : Int32 := 10 * (pg 0 - 48) + (pg 1 - 48)
theorem nI_nle2 {a b : Nat} (h : b < a) (ha : a < 2 ^ 31) : ¬ nI a ≤ nI b := nI_ge h ha
theorem fst_le (c : Nat → Bool) : ∀ r i, fstB c r i ≤ i + r
  | 0, i => Nat.le_refl i
  | r + 1, i => by
    unfold fstB
    have := fst_le c r (i + 1)
    cases c i <;> simp <;> omega
theorem ff_le (pg : Nat → Int32) (len : Nat) : ffN pg len ≤ len := by have := fst_le (fun p => !fitB p (pg p)) len 0; unfold ffN; omega
end
section
set_option maxRecDepth 100000 in
set_option maxHeartbeats 400000 in
theorem c_J3_checkIndex_8e157 {h : hp} (j : Nat) (hj : j < 5) (vs : Value) (hvs : vs = .null ∨ vs = .ref 102)  : Cn yJ3_checkIndex_8e157 cJ3_checkIndex_8e157 3 (some .int) 0 [.int (nI j), .int 5, vs] h (z_eq (some (.int (nI j))) h) := by
  refine Cn.of (by decide) (by rcases hvs with rfl | rfl <;> exact Nat.le_of_ble_eq_true rfl) ?_
  refine Z.eqL (lv' := [(0, .int (nI j)), (1, .int 5), (2, vs)]) rfl ?_
  refine Z.iload_n (pc := 0) (i := 0) dJ3_checkIndex_8e157_0 rfl rfl ?_
  refine Z.if_lt_f (pc := 1) (tgt := 9) dJ3_checkIndex_8e157_1 (by decide) (nI_pos (by omega)) ?_
  refine Z.iload_n (pc := 4) (i := 0) dJ3_checkIndex_8e157_4 rfl rfl ?_
  refine Z.iload_n (pc := 5) (i := 1) dJ3_checkIndex_8e157_5 rfl rfl ?_
  refine Z.icmp_lt_t (pc := 6) (tgt := 16) dJ3_checkIndex_8e157_6 (by decide) (nI_lt (b := 5) hj (by decide)) ?_
  refine Z.iload_n (pc := 16) (i := 0) dJ3_checkIndex_8e157_16 rfl rfl ?_
  refine Z.iret (pc := 17) (ty := .int) dJ3_checkIndex_8e157_17 rfl rfl ?_
  exact ⟨rfl, rfl⟩
set_option maxRecDepth 100000 in
set_option maxHeartbeats 400000 in
theorem c_J0_checkIndex_df160 {h : hp} (j : Nat) (hj : j < 5)  : Cn yJ0_checkIndex_df160 cJ0_checkIndex_df160 2 none 1 [.int (nI j), .int 5] h (z_eq none (h)) := by
  refine Cn.of (by decide) (Nat.le_of_ble_eq_true rfl) ?_
  refine Z.eqL (lv' := [(0, .int (nI j)), (1, .int 5)]) rfl ?_
  refine Z.iload_n (pc := 0) (i := 0) dJ0_checkIndex_df160_0 rfl rfl ?_
  refine Z.iload_n (pc := 1) (i := 1) dJ0_checkIndex_df160_1 rfl rfl ?_
  refine Z.getsF (pc := 2) dJ0_checkIndex_df160_2 zg_J0_1053 (fun vs hvs => ?_)
  refine Z.callSi (pc := 5) dJ0_checkIndex_df160_5 (c_J3_checkIndex_8e157 j hj vs hvs) zm_J0_1059 zs_J3_checkIndex_8e157 rfl rfl (by decide) (by decide) (Nat.le_of_ble_eq_true rfl) ?_
  refine Z.pop (pc := 8) dJ0_checkIndex_df160_8 rfl ?_
  refine Z.vret (pc := 9) dJ0_checkIndex_df160_9 rfl ?_
  exact ⟨rfl, rfl⟩
set_option maxRecDepth 100000 in
set_option maxHeartbeats 400000 in
theorem c_J1_charAt_3b067 {h : hp} (j : Nat) (hj : j < 5)  : Cn yJ1_charAt_3b067 cJ1_charAt_3b067 2 (some .char) 2 [.ref 101, .int (nI j)] h (z_eq (some (.int (chr j))) h) := by
  refine Cn.of (by decide) (Nat.le_of_ble_eq_true rfl) ?_
  refine Z.eqL (lv' := [(0, .ref 101), (1, .int (nI j))]) rfl ?_
  refine Z.iload_n (pc := 0) (i := 1) dJ1_charAt_3b067_0 rfl rfl ?_
  refine Z.aload_n (pc := 1) (i := 0) dJ1_charAt_3b067_1 rfl rfl ?_
  refine Z.alenS (pc := 2) dJ1_charAt_3b067_2 ?_
  refine Z.callSv (pc := 3) dJ1_charAt_3b067_3 (c_J0_checkIndex_df160 j hj) zm_J1_9 zs_J0_checkIndex_df160 rfl rfl (by decide) (by decide) (Nat.le_of_ble_eq_true rfl) ?_
  refine Z.aload_n (pc := 6) (i := 0) dJ1_charAt_3b067_6 rfl rfl ?_
  refine Z.iload_n (pc := 7) (i := 1) dJ1_charAt_3b067_7 rfl rfl ?_
  refine Z.baldS (pc := 8) dJ1_charAt_3b067_8 hj ?_
  refine Z.sipush (pc := 9) (v := (255)) dJ1_charAt_3b067_9 (by decide) ?_
  refine Z.iand (pc := 12) dJ1_charAt_3b067_12 ?_
  refine Z.i2c (pc := 13) dJ1_charAt_3b067_13 ?_
  refine Z.top (chr_c j hj) ?_
  refine Z.iret (pc := 14) (ty := .char) dJ1_charAt_3b067_14 rfl (chr_n j hj) ?_
  exact ⟨rfl, rfl⟩
set_option maxRecDepth 100000 in
set_option maxHeartbeats 400000 in
theorem c_J0_isLatin1_aae02 {h : hp}  : Cn yJ0_isLatin1_aae02 cJ0_isLatin1_aae02 1 (some .boolean) 0 [.ref 100] h (z_eq (some (.int (zb (true)))) h) := by
  refine Cn.of (by decide) (Nat.le_of_ble_eq_true rfl) ?_
  refine Z.eqL (lv' := [(0, .ref 100)]) rfl ?_
  refine Z.getsC (pc := 0) dJ0_isLatin1_aae02_0 zg_J0_38 ?_
  refine Z.if_eq_f (pc := 3) (tgt := 17) dJ0_isLatin1_aae02_3 (by decide) (by decide) ?_
  refine Z.aload_n (pc := 6) (i := 0) dJ0_isLatin1_aae02_6 rfl rfl ?_
  refine Z.getS_c (pc := 7) dJ0_isLatin1_aae02_7 zg_J0_15 ?_
  refine Z.if_ne_f (pc := 10) (tgt := 17) dJ0_isLatin1_aae02_10 (by decide) (rfl) ?_
  refine Z.iconst (pc := 13) (v := (1)) dJ0_isLatin1_aae02_13 (by decide) ?_
  refine Z.goto (pc := 14) (tgt := 18) dJ0_isLatin1_aae02_14 (by decide) ?_
  refine Z.iret (pc := 18) (ty := .boolean) dJ0_isLatin1_aae02_18 rfl (by first | rfl | exact zb_nar _) ?_
  exact ⟨rfl, rfl⟩
set_option maxRecDepth 100000 in
set_option maxHeartbeats 400000 in
theorem c_J0_coder_7d493 {h : hp}  : Cn yJ0_coder_7d493 cJ0_coder_7d493 1 (some .byte) 0 [.ref 100] h (z_eq (some (.int (0))) h) := by
  refine Cn.of (by decide) (Nat.le_of_ble_eq_true rfl) ?_
  refine Z.eqL (lv' := [(0, .ref 100)]) rfl ?_
  refine Z.getsC (pc := 0) dJ0_coder_7d493_0 zg_J0_38 ?_
  refine Z.if_eq_f (pc := 3) (tgt := 13) dJ0_coder_7d493_3 (by decide) (by decide) ?_
  refine Z.aload_n (pc := 6) (i := 0) dJ0_coder_7d493_6 rfl rfl ?_
  refine Z.getS_c (pc := 7) dJ0_coder_7d493_7 zg_J0_15 ?_
  refine Z.goto (pc := 10) (tgt := 14) dJ0_coder_7d493_10 (by decide) ?_
  refine Z.iret (pc := 14) (ty := .byte) dJ0_coder_7d493_14 rfl (by first | rfl | decide) ?_
  exact ⟨rfl, rfl⟩
set_option maxRecDepth 100000 in
set_option maxHeartbeats 400000 in
theorem c_J0_length_8abf5 {h : hp}  : Cn yJ0_length_8abf5 cJ0_length_8abf5 1 (some .int) 1 [.ref 100] h (z_eq (some (.int (5))) h) := by
  refine Cn.of (by decide) (Nat.le_of_ble_eq_true rfl) ?_
  refine Z.eqL (lv' := [(0, .ref 100)]) rfl ?_
  refine Z.aload_n (pc := 0) (i := 0) dJ0_length_8abf5_0 rfl rfl ?_
  refine Z.getS_v (pc := 1) dJ0_length_8abf5_1 zg_J0_9 ?_
  refine Z.alenS (pc := 4) dJ0_length_8abf5_4 ?_
  refine Z.aload_n (pc := 5) (i := 0) dJ0_length_8abf5_5 rfl rfl ?_
  refine Z.callT (pc := 6) dJ0_length_8abf5_6 (c_J0_coder_7d493) rfl zm_J0_335 zv_J0_coder_7d493 rfl rfl (by decide) (by decide) (Nat.le_of_ble_eq_true rfl) ?_
  refine Z.ishr (pc := 9) dJ0_length_8abf5_9 ?_
  refine Z.top (show _ = (5 : Int32) from by decide) ?_
  refine Z.iret (pc := 10) (ty := .int) dJ0_length_8abf5_10 rfl rfl ?_
  exact ⟨rfl, rfl⟩
set_option maxRecDepth 100000 in
set_option maxHeartbeats 400000 in
theorem c_J0_charAt_5068e {h : hp} (j : Nat) (hj : j < 5)  : Cn yJ0_charAt_5068e cJ0_charAt_5068e 2 (some .char) 3 [.ref 100, .int (nI j)] h (z_eq (some (.int (chr j))) h) := by
  refine Cn.of (by decide) (Nat.le_of_ble_eq_true rfl) ?_
  refine Z.eqL (lv' := [(0, .ref 100), (1, .int (nI j))]) rfl ?_
  refine Z.aload_n (pc := 0) (i := 0) dJ0_charAt_5068e_0 rfl rfl ?_
  refine Z.callT (pc := 1) dJ0_charAt_5068e_1 (c_J0_isLatin1_aae02) rfl zm_J0_492 zv_J0_isLatin1_aae02 rfl rfl (by decide) (by decide) (Nat.le_of_ble_eq_true rfl) ?_
  refine Z.if_eq_bf (pc := 4) (tgt := 16) dJ0_charAt_5068e_4 (by decide) (rfl) ?_
  refine Z.aload_n (pc := 7) (i := 0) dJ0_charAt_5068e_7 rfl rfl ?_
  refine Z.getS_v (pc := 8) dJ0_charAt_5068e_8 zg_J0_9 ?_
  refine Z.iload_n (pc := 11) (i := 1) dJ0_charAt_5068e_11 rfl rfl ?_
  refine Z.callSi (pc := 12) dJ0_charAt_5068e_12 (c_J1_charAt_3b067 j hj) zm_J0_495 zs_J1_charAt_3b067 rfl rfl (by decide) (by decide) (Nat.le_of_ble_eq_true rfl) ?_
  refine Z.iret (pc := 15) (ty := .char) dJ0_charAt_5068e_15 rfl (chr_n j hj) ?_
  exact ⟨rfl, rfl⟩
set_option maxRecDepth 100000 in
set_option maxHeartbeats 400000 in
theorem l_X3_ofLetter {h : hp} (c : Int32) : ∀ (r i : Nat) , i + r = 5 → (∀ j, j < i → ¬ chr j = c) → Z yX3_ofLetter cX3_ofLetter 2 (some .int) 4 (z_eq (some (.int (kofI c))) h) 2 [(0, .int c), (1, .int (nI i))] [] h := by
  intro r
  induction r with
  | zero =>
    intro i hi hne
    obtain rfl : 5 = i := by omega
    refine Z.iload_n (pc := 2) (i := 1) dX3_ofLetter_2 rfl rfl ?_
    refine Z.ldcS (pc := 3) dX3_ofLetter_3 rfl ?_
    refine Z.callT (pc := 5) dX3_ofLetter_5 (c_J0_length_8abf5) rfl zm_X3_13 zv_J0_length_8abf5 rfl rfl (by decide) (by decide) (Nat.le_of_ble_eq_true rfl) ?_
    refine Z.icmp_ge_t (pc := 8) (tgt := 29) dX3_ofLetter_8 (by decide) (nI_le (a := 5) (Nat.le_refl 5) (by decide)) ?_
    refine Z.iconst (pc := 29) (v := (-1)) dX3_ofLetter_29 (by decide) ?_
    refine Z.iret (pc := 30) (ty := .int) dX3_ofLetter_30 rfl rfl ?_
    exact ⟨by rw [kof_none hne], rfl⟩
  | succ r ih =>
    intro i hi hne
    refine Z.iload_n (pc := 2) (i := 1) dX3_ofLetter_2 rfl rfl ?_
    refine Z.ldcS (pc := 3) dX3_ofLetter_3 rfl ?_
    refine Z.callT (pc := 5) dX3_ofLetter_5 (c_J0_length_8abf5) rfl zm_X3_13 zv_J0_length_8abf5 rfl rfl (by decide) (by decide) (Nat.le_of_ble_eq_true rfl) ?_
    refine Z.icmp_ge_f (pc := 8) (tgt := 29) dX3_ofLetter_8 (by decide) (nI_ge (b := 5) (by omega) (by decide)) ?_
    refine Z.ldcS (pc := 11) dX3_ofLetter_11 rfl ?_
    refine Z.iload_n (pc := 13) (i := 1) dX3_ofLetter_13 rfl rfl ?_
    refine Z.callT (pc := 14) dX3_ofLetter_14 (c_J0_charAt_5068e i (by omega)) rfl zm_X3_19 zv_J0_charAt_5068e rfl rfl (by decide) (by decide) (Nat.le_of_ble_eq_true rfl) ?_
    refine Z.iload_n (pc := 17) (i := 0) dX3_ofLetter_17 rfl rfl ?_
    refine Z.icmp_ne (pc := 18) (tgt := 23) dX3_ofLetter_18 (by decide) (fun c18 => ?_) (fun c18 => ?_)
    · refine Z.iinc (pc := 23) (i := 1) (v := (nI (i + 1))) dX3_ofLetter_23 rfl (by exact ii_1 i) (by decide) rfl ?_
      refine Z.goto (pc := 26) (tgt := 2) dX3_ofLetter_26 (by decide) ?_
      exact ih (i + 1) (by omega) (fun j hj => by rcases Nat.lt_succ_iff_lt_or_eq.mp hj with q | q; exact hne j q; exact q ▸ c18)
    · refine Z.iload_n (pc := 21) (i := 1) dX3_ofLetter_21 rfl rfl ?_
      refine Z.iret (pc := 22) (ty := .int) dX3_ofLetter_22 rfl rfl ?_
      exact ⟨by rw [← c18, kof_chr i (by omega)], rfl⟩
set_option maxRecDepth 100000 in
set_option maxHeartbeats 400000 in
theorem c_X3_ofLetter {h : hp} (c : Int32)  : Cn yX3_ofLetter cX3_ofLetter 2 (some .int) 4 [.int c] h (z_eq (some (.int (kofI c))) h) := by
  refine Cn.of (by decide) (Nat.le_of_ble_eq_true rfl) ?_
  refine Z.eqL (lv' := [(0, .int c)]) rfl ?_
  refine Z.iconst (pc := 0) (v := (nI 0)) dX3_ofLetter_0 (by decide) ?_
  refine Z.istore_n (pc := 1) (i := 1) dX3_ofLetter_1 rfl (by decide) rfl ?_
  exact l_X3_ofLetter c 5 0 rfl (fun j hj => absurd hj (Nat.not_lt_zero j))
set_option maxRecDepth 100000 in
set_option maxHeartbeats 400000 in
theorem l_X3_hintsTill {h : hp} (k ot : Int32) (a : Nat) (hk : okK k) (ha : a ≤ 9) : ∀ (r i : Nat) , i + r = a + 1 → htI k a ot r i = htT k a ot → Z yX3_hintsTill cX3_hintsTill 4 (some .int) 1 (z_eq (some (.int (htT k a ot))) h) 2 [(0, .int k), (1, .int (nI a)), (2, .int ot), (3, .int (nI i))] [] h := by
  intro r
  induction r with
  | zero =>
    intro i hi hX
    obtain rfl : a + 1 = i := by omega
    refine Z.iload_n (pc := 2) (i := 3) dX3_hintsTill_2 rfl rfl ?_
    refine Z.iload_n (pc := 3) (i := 1) dX3_hintsTill_3 rfl rfl ?_
    refine Z.icmp_gt_t (pc := 4) (tgt := 26) dX3_hintsTill_4 (by decide) (nI_lt (by omega) (by omega)) ?_
    refine Z.iconst (pc := 26) (v := (-1)) dX3_hintsTill_26 (by decide) ?_
    refine Z.iret (pc := 27) (ty := .int) dX3_hintsTill_27 rfl rfl ?_
    exact ⟨by rw [← hX]; rfl, rfl⟩
  | succ r ih =>
    intro i hi hX
    refine Z.iload_n (pc := 2) (i := 3) dX3_hintsTill_2 rfl rfl ?_
    refine Z.iload_n (pc := 3) (i := 1) dX3_hintsTill_3 rfl rfl ?_
    refine Z.icmp_gt_f (pc := 4) (tgt := 26) dX3_hintsTill_4 (by decide) (nI_nlt (by omega) (by omega)) ?_
    refine Z.iload_n (pc := 7) (i := 0) dX3_hintsTill_7 rfl rfl ?_
    refine Z.iload_n (pc := 8) (i := 1) dX3_hintsTill_8 rfl rfl ?_
    refine Z.iload_n (pc := 9) (i := 3) dX3_hintsTill_9 rfl rfl ?_
    refine Z.isub (pc := 10) dX3_hintsTill_10 ?_
    refine Z.top (pk_sub (by omega)) ?_
    refine Z.callSi (pc := 11) dX3_hintsTill_11 (c_X3_needs k _ hk) zm_X3_23 zs_X3_needs rfl rfl (by decide) (by decide) (Nat.le_of_ble_eq_true rfl) ?_
    refine Z.iload_n (pc := 14) (i := 2) dX3_hintsTill_14 rfl rfl ?_
    refine Z.icmp_gt (pc := 15) (tgt := 20) dX3_hintsTill_15 (by decide) (fun c15 => ?_) (fun c15 => ?_)
    · refine Z.iinc (pc := 20) (i := 3) (v := (nI (i + 1))) dX3_hintsTill_20 rfl (by exact ii_1 i) (by decide) rfl ?_
      refine Z.goto (pc := 23) (tgt := 2) dX3_hintsTill_23 (by decide) ?_
      exact ih (i + 1) (by omega) (by rw [← hX, htI, if_neg (lt_nle c15)])
    · refine Z.iload_n (pc := 18) (i := 3) dX3_hintsTill_18 rfl rfl ?_
      refine Z.iret (pc := 19) (ty := .int) dX3_hintsTill_19 rfl rfl ?_
      exact ⟨by rw [← hX, htI, if_pos (nlt c15)], rfl⟩
set_option maxRecDepth 100000 in
set_option maxHeartbeats 400000 in
theorem c_X3_hintsTill {h : hp} (k ot : Int32) (a : Nat) (hk : okK k) (ha : a ≤ 9)  : Cn yX3_hintsTill cX3_hintsTill 4 (some .int) 1 [.int k, .int (nI a), .int ot] h (z_eq (some (.int (htT k a ot))) h) := by
  refine Cn.of (by decide) (Nat.le_of_ble_eq_true rfl) ?_
  refine Z.eqL (lv' := [(0, .int k), (1, .int (nI a)), (2, .int ot)]) rfl ?_
  refine Z.iconst (pc := 0) (v := (nI 0)) dX3_hintsTill_0 (by decide) ?_
  refine Z.istore_n (pc := 1) (i := 3) dX3_hintsTill_1 rfl (by decide) rfl ?_
  exact l_X3_hintsTill k ot a hk ha (a + 1) 0 (by omega) rfl
set_option maxRecDepth 100000 in
set_option maxHeartbeats 400000 in
theorem c_X4_append {h : hp} {len : Nat} (hl : h.1 1 1 = nI len) (hl36 : len ≤ 36) (c : Int32) (hlt : len < 36)  : Cn yX4_append cX4_append 2 (some .int) 0 [.ref 1, .int c] h (z_eq (some (.int (nI (len + 1)))) (z_up (z_up h 2 len c) 1 1 (nI (len + 1)))) := by
  refine Cn.of (by decide) (Nat.le_of_ble_eq_true rfl) ?_
  refine Z.eqL (lv' := [(0, .ref 1), (1, .int c)]) rfl ?_
  refine Z.aload_n (pc := 0) (i := 0) dX4_append_0 rfl rfl ?_
  refine Z.getIv (pc := 1) dX4_append_1 zf_X4_15 rfl rfl hl ?_
  refine Z.bipush (pc := 4) (v := (nI 36)) dX4_append_4 (by decide) ?_
  refine Z.icmp_ge_f (pc := 6) (tgt := 29) dX4_append_6 (by decide) (nI_ge hlt (by decide)) ?_
  refine Z.aload_n (pc := 9) (i := 0) dX4_append_9 rfl rfl ?_
  refine Z.getR (pc := 10) dX4_append_10 zf_X4_9 rfl rfl ?_
  refine Z.aload_n (pc := 13) (i := 0) dX4_append_13 rfl rfl ?_
  refine Z.getIv (pc := 14) dX4_append_14 zf_X4_15 rfl rfl hl ?_
  refine Z.iload_n (pc := 17) (i := 1) dX4_append_17 rfl rfl ?_
  refine Z.iast (pc := 18) dX4_append_18 rfl hlt (by decide) ?_
  refine Z.aload_n (pc := 19) (i := 0) dX4_append_19 rfl rfl ?_
  refine Z.dup (pc := 20) dX4_append_20 rfl ?_
  refine Z.getIv (pc := 21) dX4_append_21 zf_X4_15 rfl rfl (show _ = nI len from hl) ?_
  refine Z.iconst (pc := 24) (v := (1)) dX4_append_24 (by decide) ?_
  refine Z.iadd (pc := 25) dX4_append_25 ?_
  refine Z.top (nI_1 len) ?_
  refine Z.putI (pc := 26) dX4_append_26 zp_X4_15 rfl rfl rfl rfl ?_
  refine Z.aload_n (pc := 29) (i := 0) dX4_append_29 rfl rfl ?_
  refine Z.getIv (pc := 30) dX4_append_30 zf_X4_15 rfl rfl (z_up_at _ _ _ _) ?_
  refine Z.iret (pc := 33) (ty := .int) dX4_append_33 rfl rfl ?_
  exact ⟨rfl, rfl⟩
set_option maxRecDepth 100000 in
set_option maxHeartbeats 400000 in
theorem c_X4_clear {h : hp} {len : Nat} (hl : h.1 1 1 = nI len) (hl36 : len ≤ 36)  : Cn yX4_clear cX4_clear 2 (some .int) 0 [.ref 1] h (z_eq (some (.int (nI len))) (z_up h 1 1 0)) := by
  refine Cn.of (by decide) (Nat.le_of_ble_eq_true rfl) ?_
  refine Z.eqL (lv' := [(0, .ref 1)]) rfl ?_
  refine Z.aload_n (pc := 0) (i := 0) dX4_clear_0 rfl rfl ?_
  refine Z.getIv (pc := 1) dX4_clear_1 zf_X4_15 rfl rfl hl ?_
  refine Z.istore_n (pc := 4) (i := 1) dX4_clear_4 rfl (by decide) rfl ?_
  refine Z.aload_n (pc := 5) (i := 0) dX4_clear_5 rfl rfl ?_
  refine Z.iconst (pc := 6) (v := (0)) dX4_clear_6 (by decide) ?_
  refine Z.putI (pc := 7) dX4_clear_7 zp_X4_15 rfl rfl rfl rfl ?_
  refine Z.iload_n (pc := 10) (i := 1) dX4_clear_10 rfl rfl ?_
  refine Z.iret (pc := 11) (ty := .int) dX4_clear_11 rfl rfl ?_
  exact ⟨rfl, rfl⟩
set_option maxRecDepth 100000 in
set_option maxHeartbeats 400000 in
theorem c_X4_at {h : hp} {len : Nat} (hl : h.1 1 1 = nI len) (hl36 : len ≤ 36) (p : Nat) (hp : p < len)  : Cn yX4_at cX4_at 2 (some .int) 0 [.ref 1, .int (nI p)] h (z_eq (some (.int (h.1 2 p))) h) := by
  refine Cn.of (by decide) (Nat.le_of_ble_eq_true rfl) ?_
  refine Z.eqL (lv' := [(0, .ref 1), (1, .int (nI p))]) rfl ?_
  refine Z.iload_n (pc := 0) (i := 1) dX4_at_0 rfl rfl ?_
  refine Z.if_lt_f (pc := 1) (tgt := 12) dX4_at_1 (by decide) (nI_pos (by omega)) ?_
  refine Z.iload_n (pc := 4) (i := 1) dX4_at_4 rfl rfl ?_
  refine Z.aload_n (pc := 5) (i := 0) dX4_at_5 rfl rfl ?_
  refine Z.getIv (pc := 6) dX4_at_6 zf_X4_15 rfl rfl hl ?_
  refine Z.icmp_lt_t (pc := 9) (tgt := 16) dX4_at_9 (by decide) (nI_lt hp (by omega)) ?_
  refine Z.aload_n (pc := 16) (i := 0) dX4_at_16 rfl rfl ?_
  refine Z.getR (pc := 17) dX4_at_17 zf_X4_9 rfl rfl ?_
  refine Z.iload_n (pc := 20) (i := 1) dX4_at_20 rfl rfl ?_
  refine Z.iald (pc := 21) dX4_at_21 rfl (by omega) (by decide) ?_
  refine Z.iret (pc := 22) (ty := .int) dX4_at_22 rfl rfl ?_
  exact ⟨rfl, rfl⟩
set_option maxRecDepth 100000 in
set_option maxHeartbeats 400000 in
theorem c_X4_digitAt {h : hp} {len : Nat} (hl : h.1 1 1 = nI len) (hl36 : len ≤ 36) (p : Nat) (hp : p < len)  : Cn yX4_digitAt cX4_digitAt 2 (some .int) 1 [.ref 1, .int (nI p)] h (z_eq (some (.int (h.1 2 p - 48))) h) := by
  refine Cn.of (by decide) (Nat.le_of_ble_eq_true rfl) ?_
  refine Z.eqL (lv' := [(0, .ref 1), (1, .int (nI p))]) rfl ?_
  refine Z.aload_n (pc := 0) (i := 0) dX4_digitAt_0 rfl rfl ?_
  refine Z.iload_n (pc := 1) (i := 1) dX4_digitAt_1 rfl rfl ?_
  refine Z.callVi (pc := 2) dX4_digitAt_2 (c_X4_at hl hl36 p hp) zm_X4_19 zv_X4_at rfl rfl rfl rfl (by decide) (by decide) (Nat.le_of_ble_eq_true rfl) ?_
  refine Z.bipush (pc := 5) (v := (48)) dX4_digitAt_5 (by decide) ?_
  refine Z.isub (pc := 7) dX4_digitAt_7 ?_
  refine Z.iret (pc := 8) (ty := .int) dX4_digitAt_8 rfl rfl ?_
  exact ⟨rfl, rfl⟩
set_option maxRecDepth 100000 in
set_option maxHeartbeats 400000 in
theorem c_X4_isDigitBelow {h : hp} (c b : Int32)  : Cn yX4_isDigitBelow cX4_isDigitBelow 2 (some .boolean) 0 [.int c, .int b] h (z_eq (some (.int (zb (digB c b)))) h) := by
  refine Cn.of (by decide) (Nat.le_of_ble_eq_true rfl) ?_
  refine Z.eqL (lv' := [(0, .int c), (1, .int b)]) rfl ?_
  refine Z.iload_n (pc := 0) (i := 0) dX4_isDigitBelow_0 rfl rfl ?_
  refine Z.bipush (pc := 1) (v := (48)) dX4_isDigitBelow_1 (by decide) ?_
  refine Z.icmp_lt (pc := 3) (tgt := 18) dX4_isDigitBelow_3 (by decide) (fun c3 => ?_) (fun c3 => ?_)
  · refine Z.iconst (pc := 18) (v := (0)) dX4_isDigitBelow_18 (by decide) ?_
    refine Z.iret (pc := 19) (ty := .boolean) dX4_isDigitBelow_19 rfl (by first | rfl | exact zb_nar _) ?_
    first | exact ⟨zb_f rfl (decide_eq_false (fun q => lt_nle c3 q.1)), rfl⟩ | exact ⟨zb_f rfl (decide_eq_false (fun q => lt_nle q.2 c11)), rfl⟩ | exact ⟨zb_t rfl (decide_eq_true ⟨nlt c3, nle c11⟩), rfl⟩
  · refine Z.iload_n (pc := 6) (i := 0) dX4_isDigitBelow_6 rfl rfl ?_
    refine Z.bipush (pc := 7) (v := (48)) dX4_isDigitBelow_7 (by decide) ?_
    refine Z.iload_n (pc := 9) (i := 1) dX4_isDigitBelow_9 rfl rfl ?_
    refine Z.iadd (pc := 10) dX4_isDigitBelow_10 ?_
    refine Z.icmp_ge (pc := 11) (tgt := 18) dX4_isDigitBelow_11 (by decide) (fun c11 => ?_) (fun c11 => ?_)
    · refine Z.iconst (pc := 18) (v := (0)) dX4_isDigitBelow_18 (by decide) ?_
      refine Z.iret (pc := 19) (ty := .boolean) dX4_isDigitBelow_19 rfl (by first | rfl | exact zb_nar _) ?_
      first | exact ⟨zb_f rfl (decide_eq_false (fun q => lt_nle c3 q.1)), rfl⟩ | exact ⟨zb_f rfl (decide_eq_false (fun q => lt_nle q.2 c11)), rfl⟩ | exact ⟨zb_t rfl (decide_eq_true ⟨nlt c3, nle c11⟩), rfl⟩
    · refine Z.iconst (pc := 14) (v := (1)) dX4_isDigitBelow_14 (by decide) ?_
      refine Z.goto (pc := 15) (tgt := 19) dX4_isDigitBelow_15 (by decide) ?_
      refine Z.iret (pc := 19) (ty := .boolean) dX4_isDigitBelow_19 rfl (by first | rfl | exact zb_nar _) ?_
      first | exact ⟨zb_f rfl (decide_eq_false (fun q => lt_nle c3 q.1)), rfl⟩ | exact ⟨zb_f rfl (decide_eq_false (fun q => lt_nle q.2 c11)), rfl⟩ | exact ⟨zb_t rfl (decide_eq_true ⟨nlt c3, nle c11⟩), rfl⟩
set_option maxRecDepth 100000 in
set_option maxHeartbeats 400000 in
theorem c_X4_fitsGuest_0 {h : hp} (g : Nat) (hg : g < 8) (c : Int32)  : Cn yX4_fitsGuest cX4_fitsGuest 3 (some .boolean) 5 [.int (nI g), .int (nI 0), .int c] h (z_eq (some (.int (zb (fitG g 0 c)))) h) := by
  refine Cn.of (by decide) (Nat.le_of_ble_eq_true rfl) ?_
  refine Z.eqL (lv' := [(0, .int (nI g)), (1, .int (nI 0)), (2, .int c)]) rfl ?_
  refine Z.iload_n (pc := 0) (i := 0) dX4_fitsGuest_0 rfl rfl ?_
  refine Z.bipush (pc := 1) (v := (nI 8)) dX4_fitsGuest_1 (by decide) ?_
  refine Z.icmp_lt_t (pc := 3) (tgt := 8) dX4_fitsGuest_3 (by decide) (nI_lt hg (by decide)) ?_
  refine Z.iload_n (pc := 8) (i := 1) dX4_fitsGuest_8 rfl rfl ?_
  refine Z.tableIn (pc := 9) (off := 27) (tgt := 36) dX4_fitsGuest_9 (by decide) (by decide) (by decide) (by decide) ?_
  refine Z.iload_n (pc := 36) (i := 2) dX4_fitsGuest_36 rfl rfl ?_
  refine Z.callSi (pc := 37) dX4_fitsGuest_37 (c_X3_ofLetter c) zm_X4_41 zs_X3_ofLetter rfl rfl (by decide) (by decide) (Nat.le_of_ble_eq_true rfl) ?_
  refine Z.iconst (pc := 40) (v := (-1)) dX4_fitsGuest_40 (by decide) ?_
  refine Z.icmp_eq (pc := 41) (tgt := 48) dX4_fitsGuest_41 (by decide) (fun c41 => ?_) (fun c41 => ?_)
  · refine Z.iconst (pc := 48) (v := (0)) dX4_fitsGuest_48 (by decide) ?_
    refine Z.iret (pc := 49) (ty := .boolean) dX4_fitsGuest_49 rfl (by first | rfl | exact zb_nar _) ?_
    refine ⟨?_, rfl⟩
    first | (refine zb_f rfl ?_; simp [fitG, c41]; done) | (refine zb_t rfl ?_; simp [fitG, c41, hg]; done)
  · refine Z.iconst (pc := 44) (v := (1)) dX4_fitsGuest_44 (by decide) ?_
    refine Z.goto (pc := 45) (tgt := 49) dX4_fitsGuest_45 (by decide) ?_
    refine Z.iret (pc := 49) (ty := .boolean) dX4_fitsGuest_49 rfl (by first | rfl | exact zb_nar _) ?_
    refine ⟨?_, rfl⟩
    first | (refine zb_f rfl ?_; simp [fitG, c41]; done) | (refine zb_t rfl ?_; simp [fitG, c41, hg]; done)
set_option maxRecDepth 100000 in
set_option maxHeartbeats 400000 in
theorem c_X4_fitsGuest_1 {h : hp} (g : Nat) (hg : g < 8) (c : Int32)  : Cn yX4_fitsGuest cX4_fitsGuest 3 (some .boolean) 5 [.int (nI g), .int (nI 1), .int c] h (z_eq (some (.int (zb (fitG g 1 c)))) h) := by
  refine Cn.of (by decide) (Nat.le_of_ble_eq_true rfl) ?_
  refine Z.eqL (lv' := [(0, .int (nI g)), (1, .int (nI 1)), (2, .int c)]) rfl ?_
  refine Z.iload_n (pc := 0) (i := 0) dX4_fitsGuest_0 rfl rfl ?_
  refine Z.bipush (pc := 1) (v := (nI 8)) dX4_fitsGuest_1 (by decide) ?_
  refine Z.icmp_lt_t (pc := 3) (tgt := 8) dX4_fitsGuest_3 (by decide) (nI_lt hg (by decide)) ?_
  refine Z.iload_n (pc := 8) (i := 1) dX4_fitsGuest_8 rfl rfl ?_
  refine Z.tableIn (pc := 9) (off := 41) (tgt := 50) dX4_fitsGuest_9 (by decide) (by decide) (by decide) (by decide) ?_
  refine Z.iload_n (pc := 50) (i := 2) dX4_fitsGuest_50 rfl rfl ?_
  refine Z.bipush (pc := 51) (v := (10)) dX4_fitsGuest_51 (by decide) ?_
  refine Z.callSi (pc := 53) dX4_fitsGuest_53 (c_X4_isDigitBelow _ _) zm_X4_34 zs_X4_isDigitBelow rfl rfl (by decide) (by decide) (Nat.le_of_ble_eq_true rfl) ?_
  refine Z.iret (pc := 56) (ty := .boolean) dX4_fitsGuest_56 rfl (by first | rfl | exact zb_nar _) ?_
  refine ⟨?_, rfl⟩
  simp [fitG, hg]
set_option maxRecDepth 100000 in
set_option maxHeartbeats 400000 in
theorem c_X4_fitsGuest_2 {h : hp} (g : Nat) (hg : g < 8) (c : Int32)  : Cn yX4_fitsGuest cX4_fitsGuest 3 (some .boolean) 5 [.int (nI g), .int (nI 2), .int c] h (z_eq (some (.int (zb (fitG g 2 c)))) h) := by
  refine Cn.of (by decide) (Nat.le_of_ble_eq_true rfl) ?_
  refine Z.eqL (lv' := [(0, .int (nI g)), (1, .int (nI 2)), (2, .int c)]) rfl ?_
  refine Z.iload_n (pc := 0) (i := 0) dX4_fitsGuest_0 rfl rfl ?_
  refine Z.bipush (pc := 1) (v := (nI 8)) dX4_fitsGuest_1 (by decide) ?_
  refine Z.icmp_lt_t (pc := 3) (tgt := 8) dX4_fitsGuest_3 (by decide) (nI_lt hg (by decide)) ?_
  refine Z.iload_n (pc := 8) (i := 1) dX4_fitsGuest_8 rfl rfl ?_
  refine Z.tableIn (pc := 9) (off := 48) (tgt := 57) dX4_fitsGuest_9 (by decide) (by decide) (by decide) (by decide) ?_
  refine Z.iload_n (pc := 57) (i := 2) dX4_fitsGuest_57 rfl rfl ?_
  refine Z.bipush (pc := 58) (v := (45)) dX4_fitsGuest_58 (by decide) ?_
  refine Z.icmp_eq (pc := 60) (tgt := 71) dX4_fitsGuest_60 (by decide) (fun c60 => ?_) (fun c60 => ?_)
  · refine Z.iconst (pc := 71) (v := (1)) dX4_fitsGuest_71 (by decide) ?_
    refine Z.goto (pc := 72) (tgt := 76) dX4_fitsGuest_72 (by decide) ?_
    refine Z.iret (pc := 76) (ty := .boolean) dX4_fitsGuest_76 rfl (by first | rfl | exact zb_nar _) ?_
    refine ⟨?_, rfl⟩
    first | (refine zb_t rfl ?_; simp [fitG, c60, hg]; done) | (refine zb_t rfl ?_; simp [fitG, c68, hg]; done) | (refine zb_f rfl ?_; simp [fitG, c60, c68]; done)
  · refine Z.iload_n (pc := 63) (i := 2) dX4_fitsGuest_63 rfl rfl ?_
    refine Z.iload_n (pc := 64) (i := 0) dX4_fitsGuest_64 rfl rfl ?_
    refine Z.callSi (pc := 65) dX4_fitsGuest_65 (c_X4_isDigitBelow _ _) zm_X4_34 zs_X4_isDigitBelow rfl rfl (by decide) (by decide) (Nat.le_of_ble_eq_true rfl) ?_
    refine Z.if_eq_b (pc := 68) (tgt := 75) dX4_fitsGuest_68 (by decide) (fun c68 => ?_) (fun c68 => ?_)
    · refine Z.iconst (pc := 75) (v := (0)) dX4_fitsGuest_75 (by decide) ?_
      refine Z.iret (pc := 76) (ty := .boolean) dX4_fitsGuest_76 rfl (by first | rfl | exact zb_nar _) ?_
      refine ⟨?_, rfl⟩
      first | (refine zb_t rfl ?_; simp [fitG, c60, hg]; done) | (refine zb_t rfl ?_; simp [fitG, c68, hg]; done) | (refine zb_f rfl ?_; simp [fitG, c60, c68]; done)
    · refine Z.iconst (pc := 71) (v := (1)) dX4_fitsGuest_71 (by decide) ?_
      refine Z.goto (pc := 72) (tgt := 76) dX4_fitsGuest_72 (by decide) ?_
      refine Z.iret (pc := 76) (ty := .boolean) dX4_fitsGuest_76 rfl (by first | rfl | exact zb_nar _) ?_
      refine ⟨?_, rfl⟩
      first | (refine zb_t rfl ?_; simp [fitG, c60, hg]; done) | (refine zb_t rfl ?_; simp [fitG, c68, hg]; done) | (refine zb_f rfl ?_; simp [fitG, c60, c68]; done)
set_option maxRecDepth 100000 in
set_option maxHeartbeats 400000 in
theorem c_X4_fitsGuest_3 {h : hp} (g : Nat) (hg : g < 8) (c : Int32)  : Cn yX4_fitsGuest cX4_fitsGuest 3 (some .boolean) 5 [.int (nI g), .int (nI 3), .int c] h (z_eq (some (.int (zb (fitG g 3 c)))) h) := by
  refine Cn.of (by decide) (Nat.le_of_ble_eq_true rfl) ?_
  refine Z.eqL (lv' := [(0, .int (nI g)), (1, .int (nI 3)), (2, .int c)]) rfl ?_
  refine Z.iload_n (pc := 0) (i := 0) dX4_fitsGuest_0 rfl rfl ?_
  refine Z.bipush (pc := 1) (v := (nI 8)) dX4_fitsGuest_1 (by decide) ?_
  refine Z.icmp_lt_t (pc := 3) (tgt := 8) dX4_fitsGuest_3 (by decide) (nI_lt hg (by decide)) ?_
  refine Z.iload_n (pc := 8) (i := 1) dX4_fitsGuest_8 rfl rfl ?_
  refine Z.tableOut (pc := 9) (tgt := 77) dX4_fitsGuest_9 (by decide) (by decide) ?_
  refine Z.iload_n (pc := 77) (i := 2) dX4_fitsGuest_77 rfl rfl ?_
  refine Z.bipush (pc := 78) (v := (44)) dX4_fitsGuest_78 (by decide) ?_
  refine Z.icmp_ne (pc := 80) (tgt := 93) dX4_fitsGuest_80 (by decide) (fun c80 => ?_) (fun c80 => ?_)
  · refine Z.iconst (pc := 93) (v := (0)) dX4_fitsGuest_93 (by decide) ?_
    refine Z.iret (pc := 94) (ty := .boolean) dX4_fitsGuest_94 rfl (by first | rfl | exact zb_nar _) ?_
    refine ⟨?_, rfl⟩
    first | (refine zb_f rfl ?_; simp [fitG, c80]; done) | (refine zb_t rfl ?_; have : g < 7 := Nat.not_le.mp (fun q => c86 (nI_le q (by omega))); simp [fitG, c80, this]; omega) | (refine zb_f rfl ?_; have : ¬ g < 7 := fun q => nI_ge q (by decide) c86; simp [fitG, this]; done)
  · refine Z.iload_n (pc := 83) (i := 0) dX4_fitsGuest_83 rfl rfl ?_
    refine Z.bipush (pc := 84) (v := (nI 7)) dX4_fitsGuest_84 (by decide) ?_
    refine Z.icmp_ge (pc := 86) (tgt := 93) dX4_fitsGuest_86 (by decide) (fun c86 => ?_) (fun c86 => ?_)
    · refine Z.iconst (pc := 93) (v := (0)) dX4_fitsGuest_93 (by decide) ?_
      refine Z.iret (pc := 94) (ty := .boolean) dX4_fitsGuest_94 rfl (by first | rfl | exact zb_nar _) ?_
      refine ⟨?_, rfl⟩
      first | (refine zb_f rfl ?_; simp [fitG, c80]; done) | (refine zb_t rfl ?_; have : g < 7 := Nat.not_le.mp (fun q => c86 (nI_le q (by omega))); simp [fitG, c80, this]; omega) | (refine zb_f rfl ?_; have : ¬ g < 7 := fun q => nI_ge q (by decide) c86; simp [fitG, this]; done)
    · refine Z.iconst (pc := 89) (v := (1)) dX4_fitsGuest_89 (by decide) ?_
      refine Z.goto (pc := 90) (tgt := 94) dX4_fitsGuest_90 (by decide) ?_
      refine Z.iret (pc := 94) (ty := .boolean) dX4_fitsGuest_94 rfl (by first | rfl | exact zb_nar _) ?_
      refine ⟨?_, rfl⟩
      first | (refine zb_f rfl ?_; simp [fitG, c80]; done) | (refine zb_t rfl ?_; have : g < 7 := Nat.not_le.mp (fun q => c86 (nI_le q (by omega))); simp [fitG, c80, this]; omega) | (refine zb_f rfl ?_; have : ¬ g < 7 := fun q => nI_ge q (by decide) c86; simp [fitG, this]; done)
set_option maxRecDepth 100000 in
set_option maxHeartbeats 400000 in
theorem c_X4_fitsGuest_8 {h : hp} (g st : Nat) (hg : 8 ≤ g) (hg2 : g ≤ 8) (c : Int32)  : Cn yX4_fitsGuest cX4_fitsGuest 3 (some .boolean) 5 [.int (nI g), .int (nI st), .int c] h (z_eq (some (.int (zb (fitG g st c)))) h) := by
  refine Cn.of (by decide) (Nat.le_of_ble_eq_true rfl) ?_
  refine Z.eqL (lv' := [(0, .int (nI g)), (1, .int (nI st)), (2, .int c)]) rfl ?_
  refine Z.iload_n (pc := 0) (i := 0) dX4_fitsGuest_0 rfl rfl ?_
  refine Z.bipush (pc := 1) (v := (nI 8)) dX4_fitsGuest_1 (by decide) ?_
  refine Z.icmp_lt_f (pc := 3) (tgt := 8) dX4_fitsGuest_3 (by decide) (nI_nlt hg (by omega)) ?_
  refine Z.iconst (pc := 6) (v := (0)) dX4_fitsGuest_6 (by decide) ?_
  refine Z.iret (pc := 7) (ty := .boolean) dX4_fitsGuest_7 rfl (by first | rfl | exact zb_nar _) ?_
  refine ⟨zb_f rfl ?_, rfl⟩
  have : ¬ g < 8 := by omega
  simp [fitG, this]
theorem c_X4_fitsGuest {h : hp} (g st : Nat) (hg : g ≤ 8) (hs : st < 4) (c : Int32) : Cn yX4_fitsGuest cX4_fitsGuest 3 (some .boolean) 5 [.int (nI g), .int (nI st), .int c] h (z_eq (some (.int (zb (fitG g st c)))) h) := by
  rcases Nat.lt_or_ge g 8 with q | q
  · rcases (show st = 0 ∨ st = 1 ∨ st = 2 ∨ st = 3 by omega) with rfl | rfl | rfl | rfl
    · exact c_X4_fitsGuest_0 g q c
    · exact c_X4_fitsGuest_1 g q c
    · exact c_X4_fitsGuest_2 g q c
    · exact c_X4_fitsGuest_3 g q c
  · exact c_X4_fitsGuest_8 g st q hg c
set_option maxRecDepth 100000 in
set_option maxHeartbeats 400000 in
theorem c_X4_fits {h : hp} (p : Nat) (hp : p < 36) (c : Int32)  : Cn yX4_fits cX4_fits 2 (some .boolean) 6 [.int (nI p), .int c] h (z_eq (some (.int (zb (fitB p c)))) h) := by
  refine Cn.of (by decide) (Nat.le_of_ble_eq_true rfl) ?_
  refine Z.eqL (lv' := [(0, .int (nI p)), (1, .int c)]) rfl ?_
  refine Z.iload_n (pc := 0) (i := 0) dX4_fits_0 rfl rfl ?_
  refine Z.iconst (pc := 1) (v := (nI 2)) dX4_fits_1 (by decide) ?_
  refine Z.icmp_ge (pc := 2) (tgt := 12) dX4_fits_2 (by decide) (fun c2 => ?_) (fun c2 => ?_)
  · have p2 : ¬ p < 2 := fun q => nI_ge q (by decide) c2
    refine Z.iload_n (pc := 12) (i := 0) dX4_fits_12 rfl rfl ?_
    refine Z.iconst (pc := 13) (v := (nI 2)) dX4_fits_13 (by decide) ?_
    refine Z.icmp_ne (pc := 14) (tgt := 29) dX4_fits_14 (by decide) (fun c14 => ?_) (fun c14 => ?_)
    · have p3 : ¬ p = 2 := fun q => c14 (by rw [q])
      refine Z.iload_n (pc := 29) (i := 0) dX4_fits_29 rfl rfl ?_
      refine Z.iconst (pc := 30) (v := (nI 3)) dX4_fits_30 (by decide) ?_
      refine Z.isub (pc := 31) dX4_fits_31 ?_
      refine Z.top (pk_sub (by omega)) ?_
      refine Z.iconst (pc := 32) (v := (nI 4)) dX4_fits_32 (by decide) ?_
      refine Z.idiv (pc := 33) dX4_fits_33 (by decide) ?_
      refine Z.top (pk_div (by omega) (by decide) (by decide)) ?_
      refine Z.iload_n (pc := 34) (i := 0) dX4_fits_34 rfl rfl ?_
      refine Z.iconst (pc := 35) (v := (nI 3)) dX4_fits_35 (by decide) ?_
      refine Z.isub (pc := 36) dX4_fits_36 ?_
      refine Z.top (pk_sub (by omega)) ?_
      refine Z.iconst (pc := 37) (v := (nI 4)) dX4_fits_37 (by decide) ?_
      refine Z.irem (pc := 38) dX4_fits_38 (by decide) ?_
      refine Z.top (pk_rem (by omega) (by decide) (by decide)) ?_
      refine Z.iload_n (pc := 39) (i := 1) dX4_fits_39 rfl rfl ?_
      refine Z.callSi (pc := 40) dX4_fits_40 (c_X4_fitsGuest _ _ (by omega) (Nat.mod_lt _ (by decide)) c) zm_X4_37 zs_X4_fitsGuest rfl rfl (by decide) (by decide) (Nat.le_of_ble_eq_true rfl) ?_
      refine Z.iret (pc := 43) (ty := .boolean) dX4_fits_43 rfl (by first | rfl | exact zb_nar _) ?_
      exact ⟨by simp [fitB, p2, p3], rfl⟩
    · have p3 : p = 2 := (nI_eq (by omega) (by decide)).mp c14
      refine Z.iload_n (pc := 17) (i := 1) dX4_fits_17 rfl rfl ?_
      refine Z.bipush (pc := 18) (v := (59)) dX4_fits_18 (by decide) ?_
      refine Z.icmp_ne (pc := 20) (tgt := 27) dX4_fits_20 (by decide) (fun c20 => ?_) (fun c20 => ?_)
      · refine Z.iconst (pc := 27) (v := (0)) dX4_fits_27 (by decide) ?_
        refine Z.iret (pc := 28) (ty := .boolean) dX4_fits_28 rfl (by first | rfl | exact zb_nar _) ?_
        refine ⟨?_, rfl⟩
        first | (refine zb_f rfl ?_; simp [fitB, p2, p3, c20]; done) | (refine zb_t rfl ?_; simp [fitB, p3, c20]; done)
      · refine Z.iconst (pc := 23) (v := (1)) dX4_fits_23 (by decide) ?_
        refine Z.goto (pc := 24) (tgt := 28) dX4_fits_24 (by decide) ?_
        refine Z.iret (pc := 28) (ty := .boolean) dX4_fits_28 rfl (by first | rfl | exact zb_nar _) ?_
        refine ⟨?_, rfl⟩
        first | (refine zb_f rfl ?_; simp [fitB, p2, p3, c20]; done) | (refine zb_t rfl ?_; simp [fitB, p3, c20]; done)
  · have p2 : p < 2 := Nat.not_le.mp (fun q => c2 (nI_le q (by omega)))
    refine Z.iload_n (pc := 5) (i := 1) dX4_fits_5 rfl rfl ?_
    refine Z.bipush (pc := 6) (v := (10)) dX4_fits_6 (by decide) ?_
    refine Z.callSi (pc := 8) dX4_fits_8 (c_X4_isDigitBelow _ _) zm_X4_34 zs_X4_isDigitBelow rfl rfl (by decide) (by decide) (Nat.le_of_ble_eq_true rfl) ?_
    refine Z.iret (pc := 11) (ty := .boolean) dX4_fits_11 rfl (by first | rfl | exact zb_nar _) ?_
    exact ⟨by simp [fitB, p2], rfl⟩
set_option maxRecDepth 100000 in
set_option maxHeartbeats 400000 in
theorem l_X4_firstFault {h : hp} {len : Nat} (hl : h.1 1 1 = nI len) (hl36 : len ≤ 36) : ∀ (r i : Nat) , i + r = len → fstB (fun p => !fitB p (h.1 2 p)) r i = ffN (h.1 2) len → Z yX4_firstFault cX4_firstFault 2 (some .int) 7 (z_eq (some (.int (nI (ffN (h.1 2) len)))) h) 2 [(0, .ref 1), (1, .int (nI i))] [] h := by
  intro r
  induction r with
  | zero =>
    intro i hi hX
    obtain rfl : len = i := by omega
    refine Z.iload_n (pc := 2) (i := 1) dX4_firstFault_2 rfl rfl ?_
    refine Z.aload_n (pc := 3) (i := 0) dX4_firstFault_3 rfl rfl ?_
    refine Z.getIv (pc := 4) dX4_firstFault_4 zf_X4_15 rfl rfl hl ?_
    refine Z.icmp_ge_t (pc := 7) (tgt := 37) dX4_firstFault_7 (by decide) (nI_le (Nat.le_refl _) (by omega)) ?_
    refine Z.aload_n (pc := 37) (i := 0) dX4_firstFault_37 rfl rfl ?_
    refine Z.getIv (pc := 38) dX4_firstFault_38 zf_X4_15 rfl rfl hl ?_
    refine Z.iret (pc := 41) (ty := .int) dX4_firstFault_41 rfl rfl ?_
    exact ⟨by rw [← hX]; rfl, rfl⟩
  | succ r ih =>
    intro i hi hX
    refine Z.iload_n (pc := 2) (i := 1) dX4_firstFault_2 rfl rfl ?_
    refine Z.aload_n (pc := 3) (i := 0) dX4_firstFault_3 rfl rfl ?_
    refine Z.getIv (pc := 4) dX4_firstFault_4 zf_X4_15 rfl rfl hl ?_
    refine Z.icmp_ge_f (pc := 7) (tgt := 37) dX4_firstFault_7 (by decide) (nI_ge (by omega) (by omega)) ?_
    refine Z.iload_n (pc := 10) (i := 1) dX4_firstFault_10 rfl rfl ?_
    refine Z.bipush (pc := 11) (v := (nI 36)) dX4_firstFault_11 (by decide) ?_
    refine Z.icmp_ge_f (pc := 13) (tgt := 37) dX4_firstFault_13 (by decide) (nI_ge (by omega) (by decide)) ?_
    refine Z.iload_n (pc := 16) (i := 1) dX4_firstFault_16 rfl rfl ?_
    refine Z.aload_n (pc := 17) (i := 0) dX4_firstFault_17 rfl rfl ?_
    refine Z.getR (pc := 18) dX4_firstFault_18 zf_X4_9 rfl rfl ?_
    refine Z.iload_n (pc := 21) (i := 1) dX4_firstFault_21 rfl rfl ?_
    refine Z.iald (pc := 22) dX4_firstFault_22 rfl (by omega) (by decide) ?_
    refine Z.callSi (pc := 23) dX4_firstFault_23 (c_X4_fits i (by omega) _) zm_X4_23 zs_X4_fits rfl rfl (by decide) (by decide) (Nat.le_of_ble_eq_true rfl) ?_
    refine Z.if_ne_b (pc := 26) (tgt := 31) dX4_firstFault_26 (by decide) (fun c26 => ?_) (fun c26 => ?_)
    · refine Z.iinc (pc := 31) (i := 1) (v := (nI (i + 1))) dX4_firstFault_31 rfl (by exact ii_1 i) (by decide) rfl ?_
      refine Z.goto (pc := 34) (tgt := 2) dX4_firstFault_34 (by decide) ?_
      exact ih (i + 1) (by omega) (by rw [← hX]; simp [fstB, c26])
    · refine Z.iload_n (pc := 29) (i := 1) dX4_firstFault_29 rfl rfl ?_
      refine Z.iret (pc := 30) (ty := .int) dX4_firstFault_30 rfl rfl ?_
      exact ⟨by rw [← hX]; simp [fstB, c26], rfl⟩
set_option maxRecDepth 100000 in
set_option maxHeartbeats 400000 in
theorem c_X4_firstFault {h : hp} {len : Nat} (hl : h.1 1 1 = nI len) (hl36 : len ≤ 36)  : Cn yX4_firstFault cX4_firstFault 2 (some .int) 7 [.ref 1] h (z_eq (some (.int (nI (ffN (h.1 2) len)))) h) := by
  refine Cn.of (by decide) (Nat.le_of_ble_eq_true rfl) ?_
  refine Z.eqL (lv' := [(0, .ref 1)]) rfl ?_
  refine Z.iconst (pc := 0) (v := (nI 0)) dX4_firstFault_0 (by decide) ?_
  refine Z.istore_n (pc := 1) (i := 1) dX4_firstFault_1 rfl (by decide) rfl ?_
  exact l_X4_firstFault hl hl36 len 0 (by omega) rfl
set_option maxRecDepth 100000 in
set_option maxHeartbeats 400000 in
theorem c_X4_guests {h : hp} {len : Nat} (hl : h.1 1 1 = nI len) (hl36 : len ≤ 36) (h3 : 3 ≤ len)  : Cn yX4_guests cX4_guests 1 (some .int) 0 [.ref 1] h (z_eq (some (.int (nI ((len - 2) / 4)))) h) := by
  refine Cn.of (by decide) (Nat.le_of_ble_eq_true rfl) ?_
  refine Z.eqL (lv' := [(0, .ref 1)]) rfl ?_
  refine Z.aload_n (pc := 0) (i := 0) dX4_guests_0 rfl rfl ?_
  refine Z.getIv (pc := 1) dX4_guests_1 zf_X4_15 rfl rfl hl ?_
  refine Z.iconst (pc := 4) (v := (nI 3)) dX4_guests_4 (by decide) ?_
  refine Z.isub (pc := 5) dX4_guests_5 ?_
  refine Z.top (pk_sub h3) ?_
  refine Z.iconst (pc := 6) (v := (nI 1)) dX4_guests_6 (by decide) ?_
  refine Z.iadd (pc := 7) dX4_guests_7 ?_
  refine Z.top ((nI_add _ _).trans (congrArg nI (show len - 3 + 1 = len - 2 by omega))) ?_
  refine Z.iconst (pc := 8) (v := (nI 4)) dX4_guests_8 (by decide) ?_
  refine Z.idiv (pc := 9) dX4_guests_9 (by decide) ?_
  refine Z.top (pk_div (by omega) (by decide) (by decide)) ?_
  refine Z.iret (pc := 10) (ty := .int) dX4_guests_10 rfl rfl ?_
  exact ⟨rfl, rfl⟩
set_option maxRecDepth 100000 in
set_option maxHeartbeats 400000 in
theorem c_X4_placeOf {h : hp} (g : Nat)  : Cn yX4_placeOf cX4_placeOf 1 (some .int) 0 [.int (nI g)] h (z_eq (some (.int (nI (3 + 4 * g)))) h) := by
  refine Cn.of (by decide) (Nat.le_of_ble_eq_true rfl) ?_
  refine Z.eqL (lv' := [(0, .int (nI g))]) rfl ?_
  refine Z.iconst (pc := 0) (v := (nI 3)) dX4_placeOf_0 (by decide) ?_
  refine Z.iconst (pc := 1) (v := (nI 4)) dX4_placeOf_1 (by decide) ?_
  refine Z.iload_n (pc := 2) (i := 0) dX4_placeOf_2 rfl rfl ?_
  refine Z.imul (pc := 3) dX4_placeOf_3 ?_
  refine Z.top (pk_mul _ _) ?_
  refine Z.iadd (pc := 4) dX4_placeOf_4 ?_
  refine Z.top (nI_add _ _) ?_
  refine Z.iret (pc := 5) (ty := .int) dX4_placeOf_5 rfl rfl ?_
  exact ⟨rfl, rfl⟩
set_option maxRecDepth 100000 in
set_option maxHeartbeats 400000 in
theorem c_X4_isParty {h : hp} {len : Nat} (hl : h.1 1 1 = nI len) (hl36 : len ≤ 36)  : Cn yX4_isParty cX4_isParty 2 (some .boolean) 8 [.ref 1] h (z_eq (some (.int (zb (isP (h.1 2) len)))) h) := by
  refine Cn.of (by decide) (Nat.le_of_ble_eq_true rfl) ?_
  refine Z.eqL (lv' := [(0, .ref 1)]) rfl ?_
  refine Z.aload_n (pc := 0) (i := 0) dX4_isParty_0 rfl rfl ?_
  refine Z.getIv (pc := 1) dX4_isParty_1 zf_X4_15 rfl rfl hl ?_
  refine Z.iconst (pc := 4) (v := (nI 3)) dX4_isParty_4 (by decide) ?_
  refine Z.icmp_le (pc := 5) (tgt := 24) dX4_isParty_5 (by decide) (fun c5 => ?_) (fun c5 => ?_)
  · have q1 : ¬ 3 < len := fun q => nI_nle2 q (by omega) c5
    refine Z.iconst (pc := 24) (v := (0)) dX4_isParty_24 (by decide) ?_
    refine Z.istore_n (pc := 25) (i := 1) dX4_isParty_25 rfl (by decide) rfl ?_
    refine Z.iload_n (pc := 26) (i := 1) dX4_isParty_26 rfl rfl ?_
    refine Z.if_eq_t (pc := 27) (tgt := 53) dX4_isParty_27 (by decide) (by decide) ?_
    refine Z.iconst (pc := 53) (v := (0)) dX4_isParty_53 (by decide) ?_
    refine Z.iret (pc := 54) (ty := .boolean) dX4_isParty_54 rfl (by first | rfl | exact zb_nar _) ?_
    refine ⟨?_, rfl⟩
    first | (refine zb_f rfl ?_; simp [isP, *]; done) | (refine zb_t rfl ?_; simp [isP, *]; done)
  · have q1 : 3 < len := Nat.not_le.mp (fun q => c5 (nI_le q (by omega)))
    refine Z.aload_n (pc := 8) (i := 0) dX4_isParty_8 rfl rfl ?_
    refine Z.getIv (pc := 9) dX4_isParty_9 zf_X4_15 rfl rfl hl ?_
    refine Z.iconst (pc := 12) (v := (nI 3)) dX4_isParty_12 (by decide) ?_
    refine Z.isub (pc := 13) dX4_isParty_13 ?_
    refine Z.top (pk_sub (by omega)) ?_
    refine Z.iconst (pc := 14) (v := (nI 4)) dX4_isParty_14 (by decide) ?_
    refine Z.irem (pc := 15) dX4_isParty_15 (by decide) ?_
    refine Z.top (pk_rem (by omega) (by decide) (by decide)) ?_
    refine Z.iconst (pc := 16) (v := (nI 3)) dX4_isParty_16 (by decide) ?_
    refine Z.icmp_ne (pc := 17) (tgt := 24) dX4_isParty_17 (by decide) (fun c17 => ?_) (fun c17 => ?_)
    · have q2 : ¬ (len - 3) % 4 = 3 := fun q => c17 (by rw [q])
      refine Z.iconst (pc := 24) (v := (0)) dX4_isParty_24 (by decide) ?_
      refine Z.istore_n (pc := 25) (i := 1) dX4_isParty_25 rfl (by decide) rfl ?_
      refine Z.iload_n (pc := 26) (i := 1) dX4_isParty_26 rfl rfl ?_
      refine Z.if_eq_t (pc := 27) (tgt := 53) dX4_isParty_27 (by decide) (by decide) ?_
      refine Z.iconst (pc := 53) (v := (0)) dX4_isParty_53 (by decide) ?_
      refine Z.iret (pc := 54) (ty := .boolean) dX4_isParty_54 rfl (by first | rfl | exact zb_nar _) ?_
      refine ⟨?_, rfl⟩
      first | (refine zb_f rfl ?_; simp [isP, *]; done) | (refine zb_t rfl ?_; simp [isP, *]; done)
    · have q2 : (len - 3) % 4 = 3 := (nI_eq (by omega) (by decide)).mp c17
      refine Z.iconst (pc := 20) (v := (1)) dX4_isParty_20 (by decide) ?_
      refine Z.goto (pc := 21) (tgt := 25) dX4_isParty_21 (by decide) ?_
      refine Z.istore_n (pc := 25) (i := 1) dX4_isParty_25 rfl (by decide) rfl ?_
      refine Z.iload_n (pc := 26) (i := 1) dX4_isParty_26 rfl rfl ?_
      refine Z.if_eq_f (pc := 27) (tgt := 53) dX4_isParty_27 (by decide) (by decide) ?_
      refine Z.aload_n (pc := 30) (i := 0) dX4_isParty_30 rfl rfl ?_
      refine Z.callVi (pc := 31) dX4_isParty_31 (c_X4_guests hl hl36 (by omega)) zm_X4_27 zv_X4_guests rfl rfl rfl rfl (by decide) (by decide) (Nat.le_of_ble_eq_true rfl) ?_
      refine Z.iconst (pc := 34) (v := (nI 2)) dX4_isParty_34 (by decide) ?_
      refine Z.icmp_lt (pc := 35) (tgt := 53) dX4_isParty_35 (by decide) (fun c35 => ?_) (fun c35 => ?_)
      · have q3 : ¬ 2 ≤ (len - 2) / 4 := fun q => nI_nlt q (by omega) c35
        refine Z.iconst (pc := 53) (v := (0)) dX4_isParty_53 (by decide) ?_
        refine Z.iret (pc := 54) (ty := .boolean) dX4_isParty_54 rfl (by first | rfl | exact zb_nar _) ?_
        refine ⟨?_, rfl⟩
        first | (refine zb_f rfl ?_; simp [isP, *]; done) | (refine zb_t rfl ?_; simp [isP, *]; done)
      · have q3 : 2 ≤ (len - 2) / 4 := Nat.not_lt.mp (fun q => c35 (nI_lt q (by omega)))
        refine Z.aload_n (pc := 38) (i := 0) dX4_isParty_38 rfl rfl ?_
        refine Z.callVi (pc := 39) dX4_isParty_39 (c_X4_firstFault hl hl36) zm_X4_31 zv_X4_firstFault rfl rfl rfl rfl (by decide) (by decide) (Nat.le_of_ble_eq_true rfl) ?_
        refine Z.aload_n (pc := 42) (i := 0) dX4_isParty_42 rfl rfl ?_
        refine Z.getIv (pc := 43) dX4_isParty_43 zf_X4_15 rfl rfl hl ?_
        refine Z.icmp_ne (pc := 46) (tgt := 53) dX4_isParty_46 (by decide) (fun c46 => ?_) (fun c46 => ?_)
        · have q4 : ¬ ffN (h.1 2) len = len := fun q => c46 (by rw [q])
          refine Z.iconst (pc := 53) (v := (0)) dX4_isParty_53 (by decide) ?_
          refine Z.iret (pc := 54) (ty := .boolean) dX4_isParty_54 rfl (by first | rfl | exact zb_nar _) ?_
          refine ⟨?_, rfl⟩
          first | (refine zb_f rfl ?_; simp [isP, *]; done) | (refine zb_t rfl ?_; simp [isP, *]; done)
        · have q4 : ffN (h.1 2) len = len := (nI_eq (Nat.lt_of_le_of_lt (ff_le _ _) (by omega)) (by omega)).mp c46
          refine Z.iconst (pc := 49) (v := (1)) dX4_isParty_49 (by decide) ?_
          refine Z.goto (pc := 50) (tgt := 54) dX4_isParty_50 (by decide) ?_
          refine Z.iret (pc := 54) (ty := .boolean) dX4_isParty_54 rfl (by first | rfl | exact zb_nar _) ?_
          refine ⟨?_, rfl⟩
          first | (refine zb_f rfl ?_; simp [isP, *]; done) | (refine zb_t rfl ?_; simp [isP, *]; done)
end
section
def rdB (h : hp) (n : Nat) : hp := z_up (z_up (z_up (z_up h 3 3 (nI n)) 3 4 (nI (2 ^ n - 1))) 3 5 (pgD (h.1 2))) 3 6 0
def rdH (h : hp) (n : Nat) : hp := z_r3 (rdB h n) 4 (rdR (pgK (h.1 2)) (h.1 4) n) 5 (rdR (pgS (h.1 2)) (h.1 5) n) 6 (rdR (pgF (h.1 2)) (h.1 6) n)
/-! what is seen -/
theorem nar_zb (b : Bool) : vp_nar .boolean (zb b) = zb b := by cases b <;> rfl
def stg (k ot : Int32) : Nat := orb (fun a => decide (ndsI k (nI a) ≤ ot)) 10
theorem stg_lt (k ot : Int32) : stg k ot < 1024 := orb_lt _ 10
def shF (sg so se : Nat → Int32) (g k : Int32) : Nat → Nat
  | 0 => 1023
  | i + 1 => if sg i = g then (if se i = 0 then dif (shF sg so se g k i) (stg k (so i)) else shF sg so se g k i &&& stg k (so i)) else shF sg so se g k i
theorem shF_lt (sg so se : Nat → Int32) (g k : Int32) : ∀ i, shF sg so se g k i < 1024
  | 0 => by show 1023 < 1024; decide
  | i + 1 => by
    have ih := shF_lt sg so se g k i
    unfold shF
    split
    · split
      · exact dif_lt (n := 10) ih
      · exact and_lt (n := 10) ih
    · exact ih
def asL (k : Int32) (m i : Nat) : Nat := max (pop (m &&& stg k (nI i))) (pop (dif m (m &&& stg k (nI i))))
def asF (k : Int32) (m : Nat) : Nat → Int32 × Nat
  | 0 => (-1, 11)
  | i + 1 => if asL k m i < (asF k m i).2 then (nI i, asL k m i) else asF k m i
def askI (k : Int32) (m : Nat) : Int32 := if m = 0 then -1 else (asF k m 17).1
theorem max_nI {a b : Nat} (ha : a < 2 ^ 31) (hb : b < 2 ^ 31) : maxI (nI a) (nI b) = nI (max a b) := by
  unfold maxI
  rcases Nat.lt_or_ge a b with q | q
  · rw [if_pos (nI_lt q hb), Nat.max_eq_right (by omega)]
  · rw [if_neg (nI_nlt q ha), Nat.max_eq_left q]
theorem asL_le (k : Int32) (m i : Nat) : asL k m i ≤ 10 := Nat.max_le.mpr ⟨pop_le _, pop_le _⟩
theorem asF_le (k : Int32) (m : Nat) : ∀ i, (asF k m i).2 ≤ 11
  | 0 => Nat.le_refl 11
  | i + 1 => by
    unfold asF
    split
    · have := asL_le k m i; show asL k m i ≤ 11; omega
    · exact asF_le k m i
/-! draws -/
def sdN (s : Nat) : Nat := (1103515245 * s + 12345) % 2147483648
theorem sdN_lt (s : Nat) : sdN s < 2 ^ 31 := Nat.mod_lt _ (by decide)
/-! who rises: the table of the most -/
def chB (hr m : Nat) : Bool := decide (dif m hr = 0)
theorem dif_le (m b : Nat) : dif m b ≤ m := by
  have h : dif m b = m &&& dif m b := by
    apply Nat.eq_of_testBit_eq
    intro i
    rw [Nat.testBit_and, dif_bit]
    cases m.testBit i <;> simp
  rw [h]; exact Nat.and_le_left
theorem ch_bit {hr m : Nat} (h : dif m hr = 0) {i : Nat} (hb : m.testBit i = true) : hr.testBit i = true := by
  have e := dif_bit m hr i
  rw [h, hb] at e
  cases q : hr.testBit i with
  | true => rfl
  | false => rw [q] at e; simp at e
theorem ch_of {hr m : Nat} (h : ∀ i, m.testBit i = true → hr.testBit i = true) : dif m hr = 0 := by
  apply Nat.eq_of_testBit_eq
  intro i
  rw [dif_bit, Nat.zero_testBit]
  cases q : m.testBit i with
  | true => rw [h i q]; rfl
  | false => rfl
theorem ch_le {hr m : Nat} (h : dif m hr = 0) : m ≤ hr := by
  have e : m = m &&& hr := by
    apply Nat.eq_of_testBit_eq
    intro i
    rw [Nat.testBit_and]
    cases q : m.testBit i with
    | true => rw [ch_bit h q]; rfl
    | false => rfl
  rw [e]; exact Nat.and_le_right
def lsF (c : Nat → Bool) : Nat → Nat
  | 0 => 0
  | i + 1 => if (c (i + 1) && (decide (lsF c i = 0) || decide (pop (i + 1) < pop (lsF c i)))) = true then i + 1 else lsF c i
theorem lsF_le (c : Nat → Bool) : ∀ i, lsF c i ≤ i
  | 0 => Nat.le_refl 0
  | i + 1 => by
    have := lsF_le c i
    unfold lsF
    split <;> omega
/-- rising: who is left is among them, and from eight rounds on nothing changes -/
theorem wcg_sub {k s f : Nat → Int32} {n hr m i : Nat} (h : (wcg k s f n hr m).testBit i = true) : m.testBit i = true := by
  unfold wcg wcB at h
  rw [orb_bit] at h
  simp only [Bool.and_eq_true] at h
  exact h.2.1
theorem sub_le {a b : Nat} (h : ∀ i, a.testBit i = true → b.testBit i = true) : a ≤ b := ch_le (ch_of h)
theorem cntB_mono {c c' : Nat → Bool} : ∀ {n : Nat}, (∀ i, i < n → c i = true → c' i = true) → cntB c n ≤ cntB c' n
  | 0, _ => Nat.le_refl 0
  | n + 1, h => by
    have ih := cntB_mono (n := n) (fun i hi => h i (by omega))
    have h2 := h n (by omega)
    unfold cntB
    cases hc : c n with
    | false => simp; omega
    | true => rw [h2 hc]; simp; omega
theorem cntB_strict {c c' : Nat → Bool} : ∀ {n : Nat}, (∀ i, i < n → c i = true → c' i = true) → (∃ i, i < n ∧ c i = false ∧ c' i = true) → cntB c n < cntB c' n
  | 0, _, ⟨i, h, _⟩ => absurd h (Nat.not_lt_zero i)
  | n + 1, h, ⟨i, hi, hc, hc'⟩ => by
    by_cases e : i = n
    · subst e
      have ih := cntB_mono (n := i) (fun j hj => h j (by omega))
      unfold cntB
      rw [hc, hc']; simp; omega
    · have ih := cntB_strict (n := n) (fun j hj => h j (by omega)) ⟨i, by omega, hc, hc'⟩
      have h2 := h n (by omega)
      unfold cntB
      cases q : c n with
      | false => simp; omega
      | true => rw [h2 q]; simp; omega
theorem pop_strict {a b : Nat} (hb : b < 1024) (h : ∀ i, a.testBit i = true → b.testBit i = true) (hne : a ≠ b) : pop a < pop b := by
  refine cntB_strict (fun i _ => h i) ?_
  rcases Classical.em (∃ i, i < 10 ∧ a.testBit i = false ∧ b.testBit i = true) with q | q
  · exact q
  · refine absurd ?_ hne
    apply Nat.eq_of_testBit_eq
    intro i
    cases hbi : b.testBit i with
    | false =>
      cases hai : a.testBit i with
      | false => rfl
      | true => rw [h i hai] at hbi; cases hbi
    | true =>
      cases hai : a.testBit i with
      | true => rfl
      | false => exact absurd ⟨i, tb_lt (n := 10) hb hbi, hai, hbi⟩ q
theorem itN_sub {F : Nat → Nat} (hF : ∀ m i, (F m).testBit i = true → m.testBit i = true) : ∀ (r m i : Nat), (itN F r m).testBit i = true → m.testBit i = true
  | 0, _, _, h => h
  | r + 1, m, i, h => hF m i (itN_sub hF r (F m) i h)
theorem itN_pop {F : Nat → Nat} (hF : ∀ m i, (F m).testBit i = true → m.testBit i = true) {m : Nat} (hm : m < 1024) : ∀ r, F (itN F r m) = itN F r m ∨ pop (itN F r m) + r ≤ pop m
  | 0 => Or.inr (Nat.le_refl _)
  | r + 1 => by
    rw [← itN_out]
    rcases itN_pop hF hm r with q | q
    · left; rw [q, q]
    · by_cases e : F (itN F r m) = itN F r m
      · left; rw [e, e]
      · right
        have hlt : itN F r m < 1024 := Nat.lt_of_le_of_lt (sub_le (itN_sub hF r m)) hm
        have := pop_strict hlt (hF _) e
        omega
theorem pop_0 : pop 0 = 0 := by decide
theorem pop_pos {m : Nat} (hm : m < 1024) (h : m ≠ 0) : 0 < pop m := by
  have := pop_strict (a := 0) hm (fun i hi => by rw [Nat.zero_testBit] at hi; cases hi) (Ne.symm h)
  omega
theorem pop8 {m : Nat} (hm : m < 256) : pop m ≤ 8 := by
  have h : cntB m.testBit 10 = cntB m.testBit 8 := by
    show cntB m.testBit 8 + (m.testBit 8).toNat + (m.testBit 9).toNat = _
    rw [bit_lt (n := 8) hm (by decide), bit_lt (n := 8) hm (by decide)]
    rfl
  unfold pop
  rw [h]
  exact cntB_le _ 8
theorem itN_fix {F : Nat → Nat} (hF : ∀ m i, (F m).testBit i = true → m.testBit i = true) {m : Nat} (hm : m < 256) : F (itN F 8 m) = itN F 8 m := by
  rcases itN_pop hF (Nat.lt_trans hm (by decide)) 8 with q | q
  · exact q
  · have h8 := pop8 hm
    have hlt : itN F 8 m < 1024 := Nat.lt_of_le_of_lt (sub_le (itN_sub hF 8 m)) (Nat.lt_trans hm (by decide))
    have hz : itN F 8 m = 0 := by
      rcases Nat.eq_zero_or_pos (itN F 8 m) with z | z
      · exact z
      · have := pop_pos hlt (by omega); omega
    rw [hz]
    apply Nat.eq_of_testBit_eq
    intro i
    rw [Nat.zero_testBit]
    cases e : (F 0).testBit i with
    | false => rfl
    | true => have := hF 0 i e; rw [Nat.zero_testBit] at this; cases this
theorem mst_fix {k s f : Nat → Int32} {n hr m : Nat} (hm : m < 256) : wcg k s f n hr (mst k s f n hr m) = mst k s f n hr m := itN_fix (fun _ _ h => wcg_sub h) hm
theorem mst_step {k s f : Nat → Int32} {n hr m : Nat} (hm : m < 256) : mst k s f n hr (wcg k s f n hr m) = mst k s f n hr m := by
  have h := mst_fix (k := k) (s := s) (f := f) (n := n) (hr := hr) hm
  exact (itN_out (wcg k s f n hr) 8 m).symm.trans h
theorem itN_id {F : Nat → Nat} {m : Nat} (h : F m = m) : ∀ r, itN F r m = m
  | 0 => rfl
  | r + 1 => by unfold itN; rw [h]; exact itN_id h r
theorem mst_id {k s f : Nat → Int32} {n hr m : Nat} (h : wcg k s f n hr m = m) : mst k s f n hr m = m := itN_id h 8
theorem mst_iff {k s f : Nat → Int32} {n hr m : Nat} (hm : m < 256) : mst k s f n hr m = m ↔ wcg k s f n hr m = m := by
  refine ⟨fun h => ?_, mst_id⟩
  have := mst_fix (k := k) (s := s) (f := f) (n := n) (hr := hr) hm
  rw [h] at this
  exact this
theorem mst_sub {k s f : Nat → Int32} {n hr m i : Nat} (h : (mst k s f n hr m).testBit i = true) : m.testBit i = true := itN_sub (fun _ _ h => wcg_sub h) 8 m i h
def riB (k s f : Nat → Int32) (n hr m : Nat) : Bool := chB hr m && decide (wcg k s f n hr m = m)
/-- the table holds the most of each choice -/
def TB (k s f : Nat → Int32) (n hr i : Nat) (t : Nat → Int32) : Prop := ∀ m, m < i → dif m hr = 0 → t m = nI (mst k s f n hr m)
/-! chances -/
def pwI (b : Int32) : Nat → Int32
  | 0 => 1
  | e + 1 => pwI b e * b
theorem pwI_nI (b : Nat) : ∀ e, pwI (nI b) e = nI (b ^ e)
  | 0 => rfl
  | e + 1 => by unfold pwI; rw [pwI_nI b e, pk_mul, Nat.pow_succ]
def wtN (ot tn a : Nat) : Nat := (10 - tn) ^ a * tn ^ (ot - a)
def sumN (f : Nat → Nat) : Nat → Nat
  | 0 => 0
  | n + 1 => sumN f n + f n
def abB (k s f : Nat → Int32) (n hr g m : Nat) : Bool := chB hr m && (mst k s f n hr m).testBit g
def abN (k s f : Nat → Int32) (n hr g tn : Nat) : Nat → Nat := sumN (fun m => cond (abB k s f n hr g m) (wtN (pop hr - 1) tn (pop m - 1)) 0)
theorem wtN_le {ot tn a : Nat} (ho : ot ≤ 7) (ht : tn ≤ 10) (ha : a ≤ ot) : wtN ot tn a ≤ 10 ^ 7 := by
  unfold wtN
  have h1 : (10 - tn) ^ a ≤ 10 ^ a := Nat.pow_le_pow_left (by omega) a
  have h2 : tn ^ (ot - a) ≤ 10 ^ (ot - a) := Nat.pow_le_pow_left ht _
  have h3 : (10 - tn) ^ a * tn ^ (ot - a) ≤ 10 ^ a * 10 ^ (ot - a) := Nat.mul_le_mul h1 h2
  rw [← Nat.pow_add] at h3
  exact Nat.le_trans h3 (Nat.pow_le_pow_right (by decide) (by omega))
theorem sumN_le {f : Nat → Nat} {c : Nat → Bool} {B : Nat} : ∀ {n : Nat}, (∀ i, i < n → f i ≤ (c i).toNat * B) → sumN f n ≤ cntB c n * B
  | 0, _ => by simp [sumN]
  | n + 1, h => by
    have ih := sumN_le (n := n) (fun i hi => h i (by omega))
    have h2 := h n (by omega)
    show sumN f n + f n ≤ (cntB c n + (c n).toNat) * B
    rw [Nat.add_mul]
    omega
theorem cnt128 : ∀ g, g < 8 → cntB (fun m => m.testBit g) 256 = 128 := by decide +kernel
theorem cntB_le2 (c : Nat → Bool) : ∀ {a b : Nat}, a ≤ b → cntB c a ≤ cntB c b
  | a, 0, h => by obtain rfl : a = 0 := by omega
                  exact Nat.le_refl _
  | a, b + 1, h => by
    by_cases e : a = b + 1
    · subst e; exact Nat.le_refl _
    · have := cntB_le2 c (a := a) (b := b) (by omega)
      show _ ≤ cntB c b + (c b).toNat
      omega
theorem pop_sub {a b : Nat} (h : ∀ i, a.testBit i = true → b.testBit i = true) : pop a ≤ pop b := cntB_mono (fun i _ => h i)
theorem abN_le {k s f : Nat → Int32} {n hr g tn i : Nat} (hh : hr < 256) (hg : g < 8) (ht : tn ≤ 10) (hi : i ≤ 256) : abN k s f n hr g tn i ≤ 1280000000 := by
  have h1 : abN k s f n hr g tn i ≤ cntB (fun m => m.testBit g) i * 10 ^ 7 := by
    refine sumN_le (fun m hm => ?_)
    cases hb : abB k s f n hr g m with
    | false => exact Nat.zero_le _
    | true =>
      unfold abB at hb
      simp only [Bool.and_eq_true] at hb
      have hmg := mst_sub hb.2
      have hch : dif m hr = 0 := of_decide_eq_true hb.1
      simp only [hmg, cond_true, Bool.toNat_true, Nat.one_mul]
      have hp := pop_sub (fun i => ch_bit (hr := hr) hch)
      exact wtN_le (by have := pop8 hh; omega) ht (by omega)
  have h2 := cntB_le2 (fun m => m.testBit g) hi
  rw [cnt128 g hg] at h2
  have h3 : cntB (fun m => m.testBit g) i * 10 ^ 7 ≤ 128 * 10 ^ 7 := Nat.mul_le_mul_right _ h2
  omega
/-! homes -/
def hiR (k s f : Nat → Int32) (c m : Nat) : Nat → Nat → Int32 → Int32
  | 0, _, acc => acc
  | r + 1, i, acc => if m.testBit i = true then (if htT (k i) (s i).toNatClampNeg (cntI k c - ctsI (k i)) = -1 ∨ frB f c i = false then -1 else hiR k s f c m r (i + 1) (acc + htT (k i) (s i).toNatClampNeg (cntI k c - ctsI (k i)))) else hiR k s f c m r (i + 1) acc
def hiT (k s f : Nat → Int32) (n hr m : Nat) : Int32 := hiR k s f (m ||| gon n hr) m 8 0 0
def nfR (t : Nat → Int32) (m : Nat) (nd : Int32) (j : Nat) : Nat → Int32 := fun i => if i < j ∧ m.testBit i = true ∧ (t i = -1 ∨ nd < t i) then nd else t i
theorem nfR_0 (t : Nat → Int32) (m : Nat) (nd : Int32) : nfR t m nd 0 = t := by funext i; simp [nfR]
theorem nfR_t {t : Nat → Int32} {m j : Nat} {nd : Int32} (hb : m.testBit j = true) (hc : t j = -1 ∨ nd < t j) : upd (nfR t m nd j) j nd = nfR t m nd (j + 1) := by
  funext i
  by_cases e : i = j
  · subst e; simp [upd, nfR, hb, hc]
  · have : (i < j + 1) ↔ i < j := by omega
    simp [upd, nfR, e, this]
theorem nfR_f {t : Nat → Int32} {m j : Nat} {nd : Int32} (hc : ¬ (m.testBit j = true ∧ (t j = -1 ∨ nd < t j))) : nfR t m nd j = nfR t m nd (j + 1) := by
  funext i
  by_cases e : i = j
  · subst e
    unfold nfR
    rw [if_neg (by omega), if_neg (fun q => hc q.2)]
  · have : (i < j + 1) ↔ i < j := by omega
    simp [nfR, this]
theorem nfR_at (t : Nat → Int32) (m : Nat) (nd : Int32) (j : Nat) : nfR t m nd j j = t j := by simp [nfR]
def noteR (t : Nat → Int32) (m : Nat) (nd : Int32) : Nat → Int32 := if nd = -1 then t else nfR t m nd 8
def hoR (k s f : Nat → Int32) (n hr : Nat) (t : Nat → Int32) : Nat → Nat → Int32
  | 0 => t
  | i + 1 => if dif (i + 1) hr = 0 then noteR (hoR k s f n hr t i) (i + 1) (hiT k s f n hr (i + 1)) else hoR k s f n hr t i
end
section
set_option maxRecDepth 100000 in
set_option maxHeartbeats 400000 in
theorem l_X6_readFrom {h : hp} {len n : Nat} (hl : h.1 1 1 = nI len) (hl36 : len ≤ 36) (hn : len = 4 * n + 2) (hn8 : n ≤ 8) : ∀ (r i : Nat) , i + r = n → Z yX6_readFrom cX6_readFrom 4 none 5 (z_eq none (rdH h n)) 41 [(0, .ref 3), (1, .ref 1), (2, .int (nI i))] [] (z_r3 (rdB h n) 4 (rdR (pgK (h.1 2)) (h.1 4) i) 5 (rdR (pgS (h.1 2)) (h.1 5) i) 6 (rdR (pgF (h.1 2)) (h.1 6) i)) := by
  intro r
  induction r with
  | zero =>
    intro i hi
    obtain rfl : n = i := by omega
    refine Z.iload_n (pc := 41) (i := 2) dX6_readFrom_41 rfl rfl ?_
    refine Z.aload_n (pc := 42) (i := 0) dX6_readFrom_42 rfl rfl ?_
    refine Z.getIv (pc := 43) dX6_readFrom_43 zf_X6_27 rfl rfl (show _ = nI n from rfl) ?_
    refine Z.icmp_ge_t (pc := 46) (tgt := 122) dX6_readFrom_46 (by decide) (nI_le (Nat.le_refl _) (by omega)) ?_
    refine Z.vret (pc := 122) dX6_readFrom_122 rfl ?_
    exact ⟨rfl, rfl⟩
  | succ r ih =>
    intro i hi
    refine Z.iload_n (pc := 41) (i := 2) dX6_readFrom_41 rfl rfl ?_
    refine Z.aload_n (pc := 42) (i := 0) dX6_readFrom_42 rfl rfl ?_
    refine Z.getIv (pc := 43) dX6_readFrom_43 zf_X6_27 rfl rfl (show _ = nI n from rfl) ?_
    refine Z.icmp_ge_f (pc := 46) (tgt := 122) dX6_readFrom_46 (by decide) (nI_ge (by omega) (by omega)) ?_
    refine Z.iload_n (pc := 49) (i := 2) dX6_readFrom_49 rfl rfl ?_
    refine Z.bipush (pc := 50) (v := (nI 8)) dX6_readFrom_50 (by decide) ?_
    refine Z.icmp_ge_f (pc := 52) (tgt := 122) dX6_readFrom_52 (by decide) (nI_ge (by omega) (by decide)) ?_
    refine Z.iload_n (pc := 55) (i := 2) dX6_readFrom_55 rfl rfl ?_
    refine Z.callSi (pc := 56) dX6_readFrom_56 (c_X4_placeOf i) zm_X6_46 zs_X4_placeOf rfl rfl (by decide) (by decide) (Nat.le_of_ble_eq_true rfl) ?_
    refine Z.istore_n (pc := 59) (i := 3) dX6_readFrom_59 rfl (by decide) rfl ?_
    refine Z.aload_n (pc := 60) (i := 0) dX6_readFrom_60 rfl rfl ?_
    refine Z.getR (pc := 61) dX6_readFrom_61 zf_X6_9 rfl rfl ?_
    refine Z.iload_n (pc := 64) (i := 2) dX6_readFrom_64 rfl rfl ?_
    refine Z.aload_n (pc := 65) (i := 1) dX6_readFrom_65 rfl rfl ?_
    refine Z.iload_n (pc := 66) (i := 3) dX6_readFrom_66 rfl rfl ?_
    refine Z.callVi (pc := 67) dX6_readFrom_67 (c_X4_at (by exact hl) hl36 _ (by omega)) zm_X6_49 zv_X4_at rfl rfl rfl rfl (by decide) (by decide) (Nat.le_of_ble_eq_true rfl) ?_
    refine Z.top (show _ = h.1 2 (3 + 4 * i) from rfl) ?_
    refine Z.callSi (pc := 70) dX6_readFrom_70 (c_X3_ofLetter _) zm_X6_52 zs_X3_ofLetter rfl rfl (by decide) (by decide) (Nat.le_of_ble_eq_true rfl) ?_
    refine Z.top (show _ = pgK (h.1 2) i from rfl) ?_
    refine Z.iast (pc := 73) dX6_readFrom_73 rfl (by omega) (by decide) ?_
    rw [z_r3_1 (by decide) (by decide), rdR_s (pgK (h.1 2)) (h.1 4) i]
    refine Z.aload_n (pc := 74) (i := 0) dX6_readFrom_74 rfl rfl ?_
    refine Z.getR (pc := 75) dX6_readFrom_75 zf_X6_15 rfl rfl ?_
    refine Z.iload_n (pc := 78) (i := 2) dX6_readFrom_78 rfl rfl ?_
    refine Z.aload_n (pc := 79) (i := 1) dX6_readFrom_79 rfl rfl ?_
    refine Z.iload_n (pc := 80) (i := 3) dX6_readFrom_80 rfl rfl ?_
    refine Z.iconst (pc := 81) (v := (nI 1)) dX6_readFrom_81 (by decide) ?_
    refine Z.iadd (pc := 82) dX6_readFrom_82 ?_
    refine Z.top (nI_add _ _) ?_
    refine Z.callVi (pc := 83) dX6_readFrom_83 (c_X4_digitAt (by exact hl) hl36 _ (by omega)) zm_X6_36 zv_X4_digitAt rfl rfl rfl rfl (by decide) (by decide) (Nat.le_of_ble_eq_true rfl) ?_
    refine Z.top (show _ = pgS (h.1 2) i from rfl) ?_
    refine Z.iast (pc := 86) dX6_readFrom_86 rfl (by omega) (by decide) ?_
    rw [z_r3_2 (by decide), rdR_s (pgS (h.1 2)) (h.1 5) i]
    refine Z.aload_n (pc := 87) (i := 0) dX6_readFrom_87 rfl rfl ?_
    refine Z.getR (pc := 88) dX6_readFrom_88 zf_X6_18 rfl rfl ?_
    refine Z.iload_n (pc := 91) (i := 2) dX6_readFrom_91 rfl rfl ?_
    refine Z.aload_n (pc := 92) (i := 1) dX6_readFrom_92 rfl rfl ?_
    refine Z.iload_n (pc := 93) (i := 3) dX6_readFrom_93 rfl rfl ?_
    refine Z.iconst (pc := 94) (v := (nI 2)) dX6_readFrom_94 (by decide) ?_
    refine Z.iadd (pc := 95) dX6_readFrom_95 ?_
    refine Z.top (nI_add _ _) ?_
    refine Z.callVi (pc := 96) dX6_readFrom_96 (c_X4_at (by exact hl) hl36 _ (by omega)) zm_X6_49 zv_X4_at rfl rfl rfl rfl (by decide) (by decide) (Nat.le_of_ble_eq_true rfl) ?_
    refine Z.top (show _ = h.1 2 (3 + 4 * i + 2) from rfl) ?_
    refine Z.bipush (pc := 99) (v := (45)) dX6_readFrom_99 (by decide) ?_
    refine Z.icmp_ne (pc := 101) (tgt := 108) dX6_readFrom_101 (by decide) (fun c101 => ?_) (fun c101 => ?_)
    · refine Z.aload_n (pc := 108) (i := 1) dX6_readFrom_108 rfl rfl ?_
      refine Z.iload_n (pc := 109) (i := 3) dX6_readFrom_109 rfl rfl ?_
      refine Z.iconst (pc := 110) (v := (nI 2)) dX6_readFrom_110 (by decide) ?_
      refine Z.iadd (pc := 111) dX6_readFrom_111 ?_
      refine Z.top (nI_add _ _) ?_
      refine Z.callVi (pc := 112) dX6_readFrom_112 (c_X4_digitAt (by exact hl) hl36 _ (by omega)) zm_X6_36 zv_X4_digitAt rfl rfl rfl rfl (by decide) (by decide) (Nat.le_of_ble_eq_true rfl) ?_
      refine Z.top (show _ = h.1 2 (3 + 4 * i + 2) - 48 from rfl) ?_
      refine Z.top (x' := pgF (h.1 2) i) (by simp [pgF, c101]) ?_
      refine Z.iast (pc := 115) dX6_readFrom_115 rfl (by omega) (by decide) ?_
      rw [z_r3_3, rdR_s (pgF (h.1 2)) (h.1 6) i]
      refine Z.iinc (pc := 116) (i := 2) (v := (nI (i + 1))) dX6_readFrom_116 rfl (by exact ii_1 i) (by decide) rfl ?_
      refine Z.goto (pc := 119) (tgt := 41) dX6_readFrom_119 (by decide) ?_
      refine Z.drop 3 ?_
      exact ih (i + 1) (by omega)
    · refine Z.iconst (pc := 104) (v := (-1)) dX6_readFrom_104 (by decide) ?_
      refine Z.goto (pc := 105) (tgt := 115) dX6_readFrom_105 (by decide) ?_
      refine Z.top (x' := pgF (h.1 2) i) (by simp [pgF, c101]) ?_
      refine Z.iast (pc := 115) dX6_readFrom_115 rfl (by omega) (by decide) ?_
      rw [z_r3_3, rdR_s (pgF (h.1 2)) (h.1 6) i]
      refine Z.iinc (pc := 116) (i := 2) (v := (nI (i + 1))) dX6_readFrom_116 rfl (by exact ii_1 i) (by decide) rfl ?_
      refine Z.goto (pc := 119) (tgt := 41) dX6_readFrom_119 (by decide) ?_
      refine Z.drop 3 ?_
      exact ih (i + 1) (by omega)
set_option maxRecDepth 100000 in
set_option maxHeartbeats 400000 in
theorem c_X6_readFrom {h : hp} {len n : Nat} (hl : h.1 1 1 = nI len) (hl36 : len ≤ 36) (hn : len = 4 * n + 2) (hn8 : n ≤ 8) (hn1 : 1 ≤ n)  : Cn yX6_readFrom cX6_readFrom 4 none 5 [.ref 3, .ref 1] h (z_eq none (rdH h n)) := by
  refine Cn.of (by decide) (Nat.le_of_ble_eq_true rfl) ?_
  refine Z.eqL (lv' := [(0, .ref 3), (1, .ref 1)]) rfl ?_
  refine Z.aload_n (pc := 0) (i := 0) dX6_readFrom_0 rfl rfl ?_
  refine Z.aload_n (pc := 1) (i := 1) dX6_readFrom_1 rfl rfl ?_
  refine Z.callVi (pc := 2) dX6_readFrom_2 (c_X4_guests hl hl36 (by omega)) zm_X6_21 zv_X4_guests rfl rfl rfl rfl (by decide) (by decide) (Nat.le_of_ble_eq_true rfl) ?_
  refine Z.top (congrArg nI (show (len - 2) / 4 = n by omega)) ?_
  refine Z.putI (pc := 5) dX6_readFrom_5 zp_X6_27 rfl rfl rfl rfl ?_
  refine Z.aload_n (pc := 8) (i := 0) dX6_readFrom_8 rfl rfl ?_
  refine Z.aload_n (pc := 9) (i := 0) dX6_readFrom_9 rfl rfl ?_
  refine Z.callVi (pc := 10) dX6_readFrom_10 (c_X6_everyone0 (Or.inl rfl) (by exact rfl) hn8) zm_X6_30 zv_X6_everyone rfl rfl rfl rfl (by decide) (by decide) (Nat.le_of_ble_eq_true rfl) ?_
  refine Z.putI (pc := 13) dX6_readFrom_13 zp_X6_33 rfl rfl rfl rfl ?_
  refine Z.aload_n (pc := 16) (i := 0) dX6_readFrom_16 rfl rfl ?_
  refine Z.bipush (pc := 17) (v := (10)) dX6_readFrom_17 (by decide) ?_
  refine Z.aload_n (pc := 19) (i := 1) dX6_readFrom_19 rfl rfl ?_
  refine Z.iconst (pc := 20) (v := (nI 0)) dX6_readFrom_20 (by decide) ?_
  refine Z.callVi (pc := 21) dX6_readFrom_21 (c_X4_digitAt (by exact hl) hl36 _ (by omega)) zm_X6_36 zv_X4_digitAt rfl rfl rfl rfl (by decide) (by decide) (Nat.le_of_ble_eq_true rfl) ?_
  refine Z.top (show _ = h.1 2 0 - 48 from rfl) ?_
  refine Z.imul (pc := 24) dX6_readFrom_24 ?_
  refine Z.aload_n (pc := 25) (i := 1) dX6_readFrom_25 rfl rfl ?_
  refine Z.iconst (pc := 26) (v := (nI 1)) dX6_readFrom_26 (by decide) ?_
  refine Z.callVi (pc := 27) dX6_readFrom_27 (c_X4_digitAt (by exact hl) hl36 _ (by omega)) zm_X6_36 zv_X4_digitAt rfl rfl rfl rfl (by decide) (by decide) (Nat.le_of_ble_eq_true rfl) ?_
  refine Z.top (show _ = h.1 2 1 - 48 from rfl) ?_
  refine Z.iadd (pc := 30) dX6_readFrom_30 ?_
  refine Z.top (show _ = pgD (h.1 2) from rfl) ?_
  refine Z.putI (pc := 31) dX6_readFrom_31 zp_X6_40 rfl rfl rfl rfl ?_
  refine Z.aload_n (pc := 34) (i := 0) dX6_readFrom_34 rfl rfl ?_
  refine Z.iconst (pc := 35) (v := (0)) dX6_readFrom_35 (by decide) ?_
  refine Z.putI (pc := 36) dX6_readFrom_36 zp_X6_43 rfl rfl rfl rfl ?_
  refine Z.iconst (pc := 39) (v := (nI 0)) dX6_readFrom_39 (by decide) ?_
  refine Z.istore_n (pc := 40) (i := 2) dX6_readFrom_40 rfl (by decide) rfl ?_
  have e := l_X6_readFrom hl hl36 hn hn8 n 0 (by omega)
  rw [rdR_0, rdR_0, rdR_0] at e
  have e2 : z_r3 (rdB h n) 4 (h.1 4) 5 (h.1 5) 6 (h.1 6) = rdB h n := by
    unfold z_r3
    rw [show h.1 4 = (rdB h n).1 4 from rfl, z_row_id, show h.1 5 = (rdB h n).1 5 from rfl, z_row_id, show h.1 6 = (rdB h n).1 6 from rfl, z_row_id]
  rw [e2] at e
  exact e
set_option maxRecDepth 100000 in
set_option maxHeartbeats 400000 in
theorem c_X7_add {h : hp} {sz : Nat} (hz : h.1 7 3 = nI sz) (hz6 : sz ≤ 6) (g ot : Int32) (b : Bool) (hlt : sz < 6)  : Cn yX7_add cX7_add 4 (some .int) 0 [.ref 7, .int g, .int ot, .int (zb b)] h (z_eq (some (.int (nI (sz + 1)))) (z_up (z_up (z_up (z_up h 8 sz g) 9 sz ot) 10 sz (zb b)) 7 3 (nI (sz + 1)))) := by
  refine Cn.of (by decide) (Nat.le_of_ble_eq_true rfl) ?_
  refine Z.eqL (lv' := [(0, .ref 7), (1, .int g), (2, .int ot), (3, .int (zb b))]) rfl ?_
  refine Z.aload_n (pc := 0) (i := 0) dX7_add_0 rfl rfl ?_
  refine Z.getIv (pc := 1) dX7_add_1 zf_X7_22 rfl rfl hz ?_
  refine Z.bipush (pc := 4) (v := (nI 6)) dX7_add_4 (by decide) ?_
  refine Z.icmp_ge_f (pc := 6) (tgt := 49) dX7_add_6 (by decide) (nI_ge hlt (by decide)) ?_
  refine Z.aload_n (pc := 9) (i := 0) dX7_add_9 rfl rfl ?_
  refine Z.getR (pc := 10) dX7_add_10 zf_X7_9 rfl rfl ?_
  refine Z.aload_n (pc := 13) (i := 0) dX7_add_13 rfl rfl ?_
  refine Z.getIv (pc := 14) dX7_add_14 zf_X7_22 rfl rfl hz ?_
  refine Z.iload_n (pc := 17) (i := 1) dX7_add_17 rfl rfl ?_
  refine Z.iast (pc := 18) dX7_add_18 rfl hlt (by decide) ?_
  refine Z.aload_n (pc := 19) (i := 0) dX7_add_19 rfl rfl ?_
  refine Z.getR (pc := 20) dX7_add_20 zf_X7_15 rfl rfl ?_
  refine Z.aload_n (pc := 23) (i := 0) dX7_add_23 rfl rfl ?_
  refine Z.getIv (pc := 24) dX7_add_24 zf_X7_22 rfl rfl (show _ = nI sz from hz) ?_
  refine Z.iload_n (pc := 27) (i := 2) dX7_add_27 rfl rfl ?_
  refine Z.iast (pc := 28) dX7_add_28 rfl hlt (by decide) ?_
  refine Z.aload_n (pc := 29) (i := 0) dX7_add_29 rfl rfl ?_
  refine Z.getR (pc := 30) dX7_add_30 zf_X7_18 rfl rfl ?_
  refine Z.aload_n (pc := 33) (i := 0) dX7_add_33 rfl rfl ?_
  refine Z.getIv (pc := 34) dX7_add_34 zf_X7_22 rfl rfl (show _ = nI sz from hz) ?_
  refine Z.iload_n (pc := 37) (i := 3) dX7_add_37 rfl rfl ?_
  refine Z.zast (pc := 38) dX7_add_38 rfl hlt (by decide) ?_
  rw [nar_zb]
  refine Z.aload_n (pc := 39) (i := 0) dX7_add_39 rfl rfl ?_
  refine Z.dup (pc := 40) dX7_add_40 rfl ?_
  refine Z.getIv (pc := 41) dX7_add_41 zf_X7_22 rfl rfl (show _ = nI sz from hz) ?_
  refine Z.iconst (pc := 44) (v := (1)) dX7_add_44 (by decide) ?_
  refine Z.iadd (pc := 45) dX7_add_45 ?_
  refine Z.top (nI_1 sz) ?_
  refine Z.putI (pc := 46) dX7_add_46 zp_X7_22 rfl rfl rfl rfl ?_
  refine Z.aload_n (pc := 49) (i := 0) dX7_add_49 rfl rfl ?_
  refine Z.getIv (pc := 50) dX7_add_50 zf_X7_22 rfl rfl (z_up_at _ _ _ _) ?_
  refine Z.iret (pc := 53) (ty := .int) dX7_add_53 rfl rfl ?_
  exact ⟨rfl, rfl⟩
set_option maxRecDepth 100000 in
set_option maxHeartbeats 400000 in
theorem c_X7_clear {h : hp} {sz : Nat} (hz : h.1 7 3 = nI sz) (hz6 : sz ≤ 6)  : Cn yX7_clear cX7_clear 2 (some .int) 0 [.ref 7] h (z_eq (some (.int (nI sz))) (z_up h 7 3 0)) := by
  refine Cn.of (by decide) (Nat.le_of_ble_eq_true rfl) ?_
  refine Z.eqL (lv' := [(0, .ref 7)]) rfl ?_
  refine Z.aload_n (pc := 0) (i := 0) dX7_clear_0 rfl rfl ?_
  refine Z.getIv (pc := 1) dX7_clear_1 zf_X7_22 rfl rfl hz ?_
  refine Z.istore_n (pc := 4) (i := 1) dX7_clear_4 rfl (by decide) rfl ?_
  refine Z.aload_n (pc := 5) (i := 0) dX7_clear_5 rfl rfl ?_
  refine Z.iconst (pc := 6) (v := (0)) dX7_clear_6 (by decide) ?_
  refine Z.putI (pc := 7) dX7_clear_7 zp_X7_22 rfl rfl rfl rfl ?_
  refine Z.iload_n (pc := 10) (i := 1) dX7_clear_10 rfl rfl ?_
  refine Z.iret (pc := 11) (ty := .int) dX7_clear_11 rfl rfl ?_
  exact ⟨rfl, rfl⟩
set_option maxRecDepth 100000 in
set_option maxHeartbeats 400000 in
theorem l_X7_copyFrom_15 {h : hp} (hb : ∀ i, i < 6 → vp_nar .boolean (h.1 10 i) = h.1 10 i) : ∀ (r i : Nat) , i + r = 6 → Z yX7_copyFrom cX7_copyFrom 3 none 0 (z_eq none ((z_r3 (z_up h 15 3 (h.1 7 3)) 16 (rdR (h.1 8) (h.1 16) 6) 17 (rdR (h.1 9) (h.1 17) 6) 18 (rdR (h.1 10) (h.1 18) 6)))) 10 [(0, .ref 15), (1, .ref 7), (2, .int (nI i))] [] (z_r3 (z_up h 15 3 (h.1 7 3)) 16 (rdR (h.1 8) (h.1 16) i) 17 (rdR (h.1 9) (h.1 17) i) 18 (rdR (h.1 10) (h.1 18) i)) := by
  intro r
  induction r with
  | zero =>
    intro i hi
    obtain rfl : 6 = i := by omega
    refine Z.iload_n (pc := 10) (i := 2) dX7_copyFrom_10 rfl rfl ?_
    refine Z.bipush (pc := 11) (v := (nI 6)) dX7_copyFrom_11 (by decide) ?_
    refine Z.icmp_ge_t (pc := 13) (tgt := 58) dX7_copyFrom_13 (by decide) (nI_le (Nat.le_refl 6) (by decide)) ?_
    refine Z.vret (pc := 58) dX7_copyFrom_58 rfl ?_
    exact ⟨rfl, rfl⟩
  | succ r ih =>
    intro i hi
    refine Z.iload_n (pc := 10) (i := 2) dX7_copyFrom_10 rfl rfl ?_
    refine Z.bipush (pc := 11) (v := (nI 6)) dX7_copyFrom_11 (by decide) ?_
    refine Z.icmp_ge_f (pc := 13) (tgt := 58) dX7_copyFrom_13 (by decide) (nI_ge (by omega) (by decide)) ?_
    refine Z.aload_n (pc := 16) (i := 0) dX7_copyFrom_16 rfl rfl ?_
    refine Z.getR (pc := 17) dX7_copyFrom_17 zf_X7_9 rfl rfl ?_
    refine Z.iload_n (pc := 20) (i := 2) dX7_copyFrom_20 rfl rfl ?_
    refine Z.aload_n (pc := 21) (i := 1) dX7_copyFrom_21 rfl rfl ?_
    refine Z.getR (pc := 22) dX7_copyFrom_22 zf_X7_9 rfl rfl ?_
    refine Z.iload_n (pc := 25) (i := 2) dX7_copyFrom_25 rfl rfl ?_
    refine Z.iald (pc := 26) dX7_copyFrom_26 rfl (by omega) (by decide) ?_
    refine Z.top (show _ = h.1 8 i from rfl) ?_
    refine Z.iast (pc := 27) dX7_copyFrom_27 rfl (by omega) (by decide) ?_
    rw [z_r3_1 (by decide) (by decide), rdR_s (h.1 8) (h.1 16) i]
    refine Z.aload_n (pc := 28) (i := 0) dX7_copyFrom_28 rfl rfl ?_
    refine Z.getR (pc := 29) dX7_copyFrom_29 zf_X7_15 rfl rfl ?_
    refine Z.iload_n (pc := 32) (i := 2) dX7_copyFrom_32 rfl rfl ?_
    refine Z.aload_n (pc := 33) (i := 1) dX7_copyFrom_33 rfl rfl ?_
    refine Z.getR (pc := 34) dX7_copyFrom_34 zf_X7_15 rfl rfl ?_
    refine Z.iload_n (pc := 37) (i := 2) dX7_copyFrom_37 rfl rfl ?_
    refine Z.iald (pc := 38) dX7_copyFrom_38 rfl (by omega) (by decide) ?_
    refine Z.top (show _ = h.1 9 i from rfl) ?_
    refine Z.iast (pc := 39) dX7_copyFrom_39 rfl (by omega) (by decide) ?_
    rw [z_r3_2 (by decide), rdR_s (h.1 9) (h.1 17) i]
    refine Z.aload_n (pc := 40) (i := 0) dX7_copyFrom_40 rfl rfl ?_
    refine Z.getR (pc := 41) dX7_copyFrom_41 zf_X7_18 rfl rfl ?_
    refine Z.iload_n (pc := 44) (i := 2) dX7_copyFrom_44 rfl rfl ?_
    refine Z.aload_n (pc := 45) (i := 1) dX7_copyFrom_45 rfl rfl ?_
    refine Z.getR (pc := 46) dX7_copyFrom_46 zf_X7_18 rfl rfl ?_
    refine Z.iload_n (pc := 49) (i := 2) dX7_copyFrom_49 rfl rfl ?_
    refine Z.zald (pc := 50) dX7_copyFrom_50 rfl (by omega) (by decide) ?_
    refine Z.top (show _ = h.1 10 i from rfl) ?_
    refine Z.zast (pc := 51) dX7_copyFrom_51 rfl (by omega) (by decide) ?_
    rw [hb i (by omega), z_r3_3, rdR_s (h.1 10) (h.1 18) i]
    refine Z.iinc (pc := 52) (i := 2) (v := (nI (i + 1))) dX7_copyFrom_52 rfl (by exact ii_1 i) (by decide) rfl ?_
    refine Z.goto (pc := 55) (tgt := 10) dX7_copyFrom_55 (by decide) ?_
    exact ih (i + 1) (by omega)
set_option maxRecDepth 100000 in
set_option maxHeartbeats 400000 in
theorem c_X7_copyFrom_15_7 {h : hp} (hb : ∀ i, i < 6 → vp_nar .boolean (h.1 10 i) = h.1 10 i)  : Cn yX7_copyFrom cX7_copyFrom 3 none 0 [.ref 15, .ref 7] h (z_eq none ((z_r3 (z_up h 15 3 (h.1 7 3)) 16 (rdR (h.1 8) (h.1 16) 6) 17 (rdR (h.1 9) (h.1 17) 6) 18 (rdR (h.1 10) (h.1 18) 6)))) := by
  refine Cn.of (by decide) (Nat.le_of_ble_eq_true rfl) ?_
  refine Z.eqL (lv' := [(0, .ref 15), (1, .ref 7)]) rfl ?_
  refine Z.aload_n (pc := 0) (i := 0) dX7_copyFrom_0 rfl rfl ?_
  refine Z.aload_n (pc := 1) (i := 1) dX7_copyFrom_1 rfl rfl ?_
  refine Z.getI (pc := 2) dX7_copyFrom_2 zf_X7_22 rfl rfl ?_
  refine Z.putI (pc := 5) dX7_copyFrom_5 zp_X7_22 rfl rfl rfl rfl ?_
  refine Z.iconst (pc := 8) (v := (nI 0)) dX7_copyFrom_8 (by decide) ?_
  refine Z.istore_n (pc := 9) (i := 2) dX7_copyFrom_9 rfl (by decide) rfl ?_
  have e := l_X7_copyFrom_15 hb 6 0 rfl
  rw [rdR_0, rdR_0, rdR_0] at e
  have e2 : z_r3 (z_up h 15 3 (h.1 7 3)) 16 (h.1 16) 17 (h.1 17) 18 (h.1 18) = z_up h 15 3 (h.1 7 3) := by
    unfold z_r3
    rw [show h.1 16 = (z_up h 15 3 (h.1 7 3)).1 16 from rfl, z_row_id, show h.1 17 = (z_up h 15 3 (h.1 7 3)).1 17 from rfl, z_row_id, show h.1 18 = (z_up h 15 3 (h.1 7 3)).1 18 from rfl, z_row_id]
  rw [e2] at e
  exact e
set_option maxRecDepth 100000 in
set_option maxHeartbeats 400000 in
theorem l_X7_copyFrom_7 {h : hp} (hb : ∀ i, i < 6 → vp_nar .boolean (h.1 18 i) = h.1 18 i) : ∀ (r i : Nat) , i + r = 6 → Z yX7_copyFrom cX7_copyFrom 3 none 0 (z_eq none ((z_r3 (z_up h 7 3 (h.1 15 3)) 8 (rdR (h.1 16) (h.1 8) 6) 9 (rdR (h.1 17) (h.1 9) 6) 10 (rdR (h.1 18) (h.1 10) 6)))) 10 [(0, .ref 7), (1, .ref 15), (2, .int (nI i))] [] (z_r3 (z_up h 7 3 (h.1 15 3)) 8 (rdR (h.1 16) (h.1 8) i) 9 (rdR (h.1 17) (h.1 9) i) 10 (rdR (h.1 18) (h.1 10) i)) := by
  intro r
  induction r with
  | zero =>
    intro i hi
    obtain rfl : 6 = i := by omega
    refine Z.iload_n (pc := 10) (i := 2) dX7_copyFrom_10 rfl rfl ?_
    refine Z.bipush (pc := 11) (v := (nI 6)) dX7_copyFrom_11 (by decide) ?_
    refine Z.icmp_ge_t (pc := 13) (tgt := 58) dX7_copyFrom_13 (by decide) (nI_le (Nat.le_refl 6) (by decide)) ?_
    refine Z.vret (pc := 58) dX7_copyFrom_58 rfl ?_
    exact ⟨rfl, rfl⟩
  | succ r ih =>
    intro i hi
    refine Z.iload_n (pc := 10) (i := 2) dX7_copyFrom_10 rfl rfl ?_
    refine Z.bipush (pc := 11) (v := (nI 6)) dX7_copyFrom_11 (by decide) ?_
    refine Z.icmp_ge_f (pc := 13) (tgt := 58) dX7_copyFrom_13 (by decide) (nI_ge (by omega) (by decide)) ?_
    refine Z.aload_n (pc := 16) (i := 0) dX7_copyFrom_16 rfl rfl ?_
    refine Z.getR (pc := 17) dX7_copyFrom_17 zf_X7_9 rfl rfl ?_
    refine Z.iload_n (pc := 20) (i := 2) dX7_copyFrom_20 rfl rfl ?_
    refine Z.aload_n (pc := 21) (i := 1) dX7_copyFrom_21 rfl rfl ?_
    refine Z.getR (pc := 22) dX7_copyFrom_22 zf_X7_9 rfl rfl ?_
    refine Z.iload_n (pc := 25) (i := 2) dX7_copyFrom_25 rfl rfl ?_
    refine Z.iald (pc := 26) dX7_copyFrom_26 rfl (by omega) (by decide) ?_
    refine Z.top (show _ = h.1 16 i from rfl) ?_
    refine Z.iast (pc := 27) dX7_copyFrom_27 rfl (by omega) (by decide) ?_
    rw [z_r3_1 (by decide) (by decide), rdR_s (h.1 16) (h.1 8) i]
    refine Z.aload_n (pc := 28) (i := 0) dX7_copyFrom_28 rfl rfl ?_
    refine Z.getR (pc := 29) dX7_copyFrom_29 zf_X7_15 rfl rfl ?_
    refine Z.iload_n (pc := 32) (i := 2) dX7_copyFrom_32 rfl rfl ?_
    refine Z.aload_n (pc := 33) (i := 1) dX7_copyFrom_33 rfl rfl ?_
    refine Z.getR (pc := 34) dX7_copyFrom_34 zf_X7_15 rfl rfl ?_
    refine Z.iload_n (pc := 37) (i := 2) dX7_copyFrom_37 rfl rfl ?_
    refine Z.iald (pc := 38) dX7_copyFrom_38 rfl (by omega) (by decide) ?_
    refine Z.top (show _ = h.1 17 i from rfl) ?_
    refine Z.iast (pc := 39) dX7_copyFrom_39 rfl (by omega) (by decide) ?_
    rw [z_r3_2 (by decide), rdR_s (h.1 17) (h.1 9) i]
    refine Z.aload_n (pc := 40) (i := 0) dX7_copyFrom_40 rfl rfl ?_
    refine Z.getR (pc := 41) dX7_copyFrom_41 zf_X7_18 rfl rfl ?_
    refine Z.iload_n (pc := 44) (i := 2) dX7_copyFrom_44 rfl rfl ?_
    refine Z.aload_n (pc := 45) (i := 1) dX7_copyFrom_45 rfl rfl ?_
    refine Z.getR (pc := 46) dX7_copyFrom_46 zf_X7_18 rfl rfl ?_
    refine Z.iload_n (pc := 49) (i := 2) dX7_copyFrom_49 rfl rfl ?_
    refine Z.zald (pc := 50) dX7_copyFrom_50 rfl (by omega) (by decide) ?_
    refine Z.top (show _ = h.1 18 i from rfl) ?_
    refine Z.zast (pc := 51) dX7_copyFrom_51 rfl (by omega) (by decide) ?_
    rw [hb i (by omega), z_r3_3, rdR_s (h.1 18) (h.1 10) i]
    refine Z.iinc (pc := 52) (i := 2) (v := (nI (i + 1))) dX7_copyFrom_52 rfl (by exact ii_1 i) (by decide) rfl ?_
    refine Z.goto (pc := 55) (tgt := 10) dX7_copyFrom_55 (by decide) ?_
    exact ih (i + 1) (by omega)
set_option maxRecDepth 100000 in
set_option maxHeartbeats 400000 in
theorem c_X7_copyFrom_7_15 {h : hp} (hb : ∀ i, i < 6 → vp_nar .boolean (h.1 18 i) = h.1 18 i)  : Cn yX7_copyFrom cX7_copyFrom 3 none 0 [.ref 7, .ref 15] h (z_eq none ((z_r3 (z_up h 7 3 (h.1 15 3)) 8 (rdR (h.1 16) (h.1 8) 6) 9 (rdR (h.1 17) (h.1 9) 6) 10 (rdR (h.1 18) (h.1 10) 6)))) := by
  refine Cn.of (by decide) (Nat.le_of_ble_eq_true rfl) ?_
  refine Z.eqL (lv' := [(0, .ref 7), (1, .ref 15)]) rfl ?_
  refine Z.aload_n (pc := 0) (i := 0) dX7_copyFrom_0 rfl rfl ?_
  refine Z.aload_n (pc := 1) (i := 1) dX7_copyFrom_1 rfl rfl ?_
  refine Z.getI (pc := 2) dX7_copyFrom_2 zf_X7_22 rfl rfl ?_
  refine Z.putI (pc := 5) dX7_copyFrom_5 zp_X7_22 rfl rfl rfl rfl ?_
  refine Z.iconst (pc := 8) (v := (nI 0)) dX7_copyFrom_8 (by decide) ?_
  refine Z.istore_n (pc := 9) (i := 2) dX7_copyFrom_9 rfl (by decide) rfl ?_
  have e := l_X7_copyFrom_7 hb 6 0 rfl
  rw [rdR_0, rdR_0, rdR_0] at e
  have e2 : z_r3 (z_up h 7 3 (h.1 15 3)) 8 (h.1 8) 9 (h.1 9) 10 (h.1 10) = z_up h 7 3 (h.1 15 3) := by
    unfold z_r3
    rw [show h.1 8 = (z_up h 7 3 (h.1 15 3)).1 8 from rfl, z_row_id, show h.1 9 = (z_up h 7 3 (h.1 15 3)).1 9 from rfl, z_row_id, show h.1 10 = (z_up h 7 3 (h.1 15 3)).1 10 from rfl, z_row_id]
  rw [e2] at e
  exact e
set_option maxRecDepth 100000 in
set_option maxHeartbeats 400000 in
theorem l_X7_shynessThatGoes {h : hp} (k ot : Int32) (hk : okK k) : ∀ (r i : Nat) (a : Nat), i + r = 10 → a = orb (fun a => decide (ndsI k (nI a) ≤ ot)) i → Z yX7_shynessThatGoes cX7_shynessThatGoes 4 (some .int) 1 (z_eq (some (.int (nI (stg k ot)))) h) 4 [(0, .int k), (1, .int ot), (2, .int (nI a)), (3, .int (nI i))] [] h := by
  intro r
  induction r with
  | zero =>
    intro i a hi ha
    obtain rfl : 10 = i := by omega
    refine Z.iload_n (pc := 4) (i := 3) dX7_shynessThatGoes_4 rfl rfl ?_
    refine Z.bipush (pc := 5) (v := (nI 9)) dX7_shynessThatGoes_5 (by decide) ?_
    refine Z.icmp_gt_t (pc := 7) (tgt := 31) dX7_shynessThatGoes_7 (by decide) (nI_lt (by omega) (by omega)) ?_
    refine Z.iload_n (pc := 31) (i := 2) dX7_shynessThatGoes_31 rfl rfl ?_
    refine Z.iret (pc := 32) (ty := .int) dX7_shynessThatGoes_32 rfl rfl ?_
    exact ⟨by rw [ha]; rfl, rfl⟩
  | succ r ih =>
    intro i a hi ha
    refine Z.iload_n (pc := 4) (i := 3) dX7_shynessThatGoes_4 rfl rfl ?_
    refine Z.bipush (pc := 5) (v := (nI 9)) dX7_shynessThatGoes_5 (by decide) ?_
    refine Z.icmp_gt_f (pc := 7) (tgt := 31) dX7_shynessThatGoes_7 (by decide) (nI_nlt (by omega) (by decide)) ?_
    refine Z.iload_n (pc := 10) (i := 0) dX7_shynessThatGoes_10 rfl rfl ?_
    refine Z.iload_n (pc := 11) (i := 3) dX7_shynessThatGoes_11 rfl rfl ?_
    refine Z.callSi (pc := 12) dX7_shynessThatGoes_12 (c_X3_needs k _ hk) zm_X7_41 zs_X3_needs rfl rfl (by decide) (by decide) (Nat.le_of_ble_eq_true rfl) ?_
    refine Z.iload_n (pc := 15) (i := 1) dX7_shynessThatGoes_15 rfl rfl ?_
    refine Z.icmp_gt (pc := 16) (tgt := 25) dX7_shynessThatGoes_16 (by decide) (fun c16 => ?_) (fun c16 => ?_)
    · refine Z.iinc (pc := 25) (i := 3) (v := (nI (i + 1))) dX7_shynessThatGoes_25 rfl (by exact ii_1 i) (by decide) rfl ?_
      refine Z.goto (pc := 28) (tgt := 4) dX7_shynessThatGoes_28 (by decide) ?_
      refine ih (i + 1) _ (by omega) ?_
      first
        | (refine orb_f ha ?_; simp [lt_nle c16]; done)
        | (refine orb_t ha ?_; simp [nlt c16]; done)
    · refine Z.iload_n (pc := 19) (i := 2) dX7_shynessThatGoes_19 rfl rfl ?_
      refine Z.iconst (pc := 20) (v := (nI 1)) dX7_shynessThatGoes_20 (by decide) ?_
      refine Z.iload_n (pc := 21) (i := 3) dX7_shynessThatGoes_21 rfl rfl ?_
      refine Z.ishl (pc := 22) dX7_shynessThatGoes_22 ?_
      refine Z.top (nb_shl (by omega)) ?_
      refine Z.ior (pc := 23) dX7_shynessThatGoes_23 ?_
      refine Z.top (nb_or _ _) ?_
      refine Z.istore_n (pc := 24) (i := 2) dX7_shynessThatGoes_24 rfl (by decide) rfl ?_
      refine Z.iinc (pc := 25) (i := 3) (v := (nI (i + 1))) dX7_shynessThatGoes_25 rfl (by exact ii_1 i) (by decide) rfl ?_
      refine Z.goto (pc := 28) (tgt := 4) dX7_shynessThatGoes_28 (by decide) ?_
      refine ih (i + 1) _ (by omega) ?_
      first
        | (refine orb_f ha ?_; simp [lt_nle c16]; done)
        | (refine orb_t ha ?_; simp [nlt c16]; done)
set_option maxRecDepth 100000 in
set_option maxHeartbeats 400000 in
theorem c_X7_shynessThatGoes {h : hp} (k ot : Int32) (hk : okK k)  : Cn yX7_shynessThatGoes cX7_shynessThatGoes 4 (some .int) 1 [.int k, .int ot] h (z_eq (some (.int (nI (stg k ot)))) h) := by
  refine Cn.of (by decide) (Nat.le_of_ble_eq_true rfl) ?_
  refine Z.eqL (lv' := [(0, .int k), (1, .int ot)]) rfl ?_
  refine Z.iconst (pc := 0) (v := (nI 0)) dX7_shynessThatGoes_0 (by decide) ?_
  refine Z.istore_n (pc := 1) (i := 2) dX7_shynessThatGoes_1 rfl (by decide) rfl ?_
  refine Z.iconst (pc := 2) (v := (nI 0)) dX7_shynessThatGoes_2 (by decide) ?_
  refine Z.istore_n (pc := 3) (i := 3) dX7_shynessThatGoes_3 rfl (by decide) rfl ?_
  exact l_X7_shynessThatGoes k ot hk 10 0 0 rfl rfl
set_option maxRecDepth 100000 in
set_option maxHeartbeats 400000 in
theorem l_X7_shynessOf {h : hp} {sz : Nat} (hz : h.1 7 3 = nI sz) (hz6 : sz ≤ 6) (g k : Int32) (hk : okK k) : ∀ (r i : Nat) , i + r = sz → Z yX7_shynessOf cX7_shynessOf 6 (some .int) 2 (z_eq (some (.int (nI (shF (h.1 8) (h.1 9) (h.1 10) g k sz)))) h) 7 [(0, .ref 7), (1, .int g), (2, .int k), (3, .int (nI (shF (h.1 8) (h.1 9) (h.1 10) g k i))), (4, .int (nI i))] [] h := by
  intro r
  induction r with
  | zero =>
    intro i hi
    obtain rfl : sz = i := by omega
    refine Z.iload (pc := 7) (i := 4) dX7_shynessOf_7 rfl ?_
    refine Z.aload_n (pc := 9) (i := 0) dX7_shynessOf_9 rfl rfl ?_
    refine Z.getIv (pc := 10) dX7_shynessOf_10 zf_X7_22 rfl rfl hz ?_
    refine Z.icmp_ge_t (pc := 13) (tgt := 75) dX7_shynessOf_13 (by decide) (nI_le (Nat.le_refl _) (by omega)) ?_
    refine Z.iload_n (pc := 75) (i := 3) dX7_shynessOf_75 rfl rfl ?_
    refine Z.iret (pc := 76) (ty := .int) dX7_shynessOf_76 rfl rfl ?_
    exact ⟨rfl, rfl⟩
  | succ r ih =>
    intro i hi
    refine Z.iload (pc := 7) (i := 4) dX7_shynessOf_7 rfl ?_
    refine Z.aload_n (pc := 9) (i := 0) dX7_shynessOf_9 rfl rfl ?_
    refine Z.getIv (pc := 10) dX7_shynessOf_10 zf_X7_22 rfl rfl hz ?_
    refine Z.icmp_ge_f (pc := 13) (tgt := 75) dX7_shynessOf_13 (by decide) (nI_ge (by omega) (by omega)) ?_
    refine Z.iload (pc := 16) (i := 4) dX7_shynessOf_16 rfl ?_
    refine Z.bipush (pc := 18) (v := (nI 6)) dX7_shynessOf_18 (by decide) ?_
    refine Z.icmp_ge_f (pc := 20) (tgt := 75) dX7_shynessOf_20 (by decide) (nI_ge (by omega) (by decide)) ?_
    refine Z.aload_n (pc := 23) (i := 0) dX7_shynessOf_23 rfl rfl ?_
    refine Z.getR (pc := 24) dX7_shynessOf_24 zf_X7_9 rfl rfl ?_
    refine Z.iload (pc := 27) (i := 4) dX7_shynessOf_27 rfl ?_
    refine Z.iald (pc := 29) dX7_shynessOf_29 rfl (by omega) (by decide) ?_
    refine Z.iload_n (pc := 30) (i := 1) dX7_shynessOf_30 rfl rfl ?_
    refine Z.icmp_ne (pc := 31) (tgt := 69) dX7_shynessOf_31 (by decide) (fun c31 => ?_) (fun c31 => ?_)
    · have eS : shF (h.1 8) (h.1 9) (h.1 10) g k (i + 1) = shF (h.1 8) (h.1 9) (h.1 10) g k i := by simp [shF, c31]
      rw [← eS]
      refine Z.iinc (pc := 69) (i := 4) (v := (nI (i + 1))) dX7_shynessOf_69 rfl (by exact ii_1 i) (by decide) rfl ?_
      refine Z.goto (pc := 72) (tgt := 7) dX7_shynessOf_72 (by decide) ?_
      refine Z.drop 5 ?_
      exact ih (i + 1) (by omega)
    · refine Z.iload_n (pc := 34) (i := 2) dX7_shynessOf_34 rfl rfl ?_
      refine Z.aload_n (pc := 35) (i := 0) dX7_shynessOf_35 rfl rfl ?_
      refine Z.getR (pc := 36) dX7_shynessOf_36 zf_X7_15 rfl rfl ?_
      refine Z.iload (pc := 39) (i := 4) dX7_shynessOf_39 rfl ?_
      refine Z.iald (pc := 41) dX7_shynessOf_41 rfl (by omega) (by decide) ?_
      refine Z.callSi (pc := 42) dX7_shynessOf_42 (c_X7_shynessThatGoes k _ hk) zm_X7_26 zs_X7_shynessThatGoes rfl rfl (by decide) (by decide) (Nat.le_of_ble_eq_true rfl) ?_
      refine Z.istore (pc := 45) (i := 5) dX7_shynessOf_45 (by decide) rfl ?_
      refine Z.iload_n (pc := 47) (i := 3) dX7_shynessOf_47 rfl rfl ?_
      refine Z.aload_n (pc := 48) (i := 0) dX7_shynessOf_48 rfl rfl ?_
      refine Z.getR (pc := 49) dX7_shynessOf_49 zf_X7_18 rfl rfl ?_
      refine Z.iload (pc := 52) (i := 4) dX7_shynessOf_52 rfl ?_
      refine Z.zald (pc := 54) dX7_shynessOf_54 rfl (by omega) (by decide) ?_
      refine Z.if_eq (pc := 55) (tgt := 63) dX7_shynessOf_55 (by decide) (fun c55 => ?_) (fun c55 => ?_)
      · refine Z.iload (pc := 63) (i := 5) dX7_shynessOf_63 rfl ?_
        refine Z.iconst (pc := 65) (v := (-1)) dX7_shynessOf_65 (by decide) ?_
        refine Z.ixor (pc := 66) dX7_shynessOf_66 ?_
        refine Z.iand (pc := 67) dX7_shynessOf_67 ?_
        first | refine Z.top (nb_dif _ _) ?_ | refine Z.top (nb_and _ _) ?_
        refine Z.top (x' := nI (shF (h.1 8) (h.1 9) (h.1 10) g k (i + 1))) (congrArg nI (by simp [shF, c31, c55])) ?_
        refine Z.istore_n (pc := 68) (i := 3) dX7_shynessOf_68 rfl (by decide) rfl ?_
        refine Z.iinc (pc := 69) (i := 4) (v := (nI (i + 1))) dX7_shynessOf_69 rfl (by exact ii_1 i) (by decide) rfl ?_
        refine Z.goto (pc := 72) (tgt := 7) dX7_shynessOf_72 (by decide) ?_
        refine Z.drop 5 ?_
        exact ih (i + 1) (by omega)
      · refine Z.iload (pc := 58) (i := 5) dX7_shynessOf_58 rfl ?_
        refine Z.goto (pc := 60) (tgt := 67) dX7_shynessOf_60 (by decide) ?_
        refine Z.iand (pc := 67) dX7_shynessOf_67 ?_
        first | refine Z.top (nb_dif _ _) ?_ | refine Z.top (nb_and _ _) ?_
        refine Z.top (x' := nI (shF (h.1 8) (h.1 9) (h.1 10) g k (i + 1))) (congrArg nI (by simp [shF, c31, c55])) ?_
        refine Z.istore_n (pc := 68) (i := 3) dX7_shynessOf_68 rfl (by decide) rfl ?_
        refine Z.iinc (pc := 69) (i := 4) (v := (nI (i + 1))) dX7_shynessOf_69 rfl (by exact ii_1 i) (by decide) rfl ?_
        refine Z.goto (pc := 72) (tgt := 7) dX7_shynessOf_72 (by decide) ?_
        refine Z.drop 5 ?_
        exact ih (i + 1) (by omega)
set_option maxRecDepth 100000 in
set_option maxHeartbeats 400000 in
theorem c_X7_shynessOf {h : hp} {sz : Nat} (hz : h.1 7 3 = nI sz) (hz6 : sz ≤ 6) (g k : Int32) (hk : okK k)  : Cn yX7_shynessOf cX7_shynessOf 6 (some .int) 2 [.ref 7, .int g, .int k] h (z_eq (some (.int (nI (shF (h.1 8) (h.1 9) (h.1 10) g k sz)))) h) := by
  refine Cn.of (by decide) (Nat.le_of_ble_eq_true rfl) ?_
  refine Z.eqL (lv' := [(0, .ref 7), (1, .int g), (2, .int k)]) rfl ?_
  refine Z.sipush (pc := 0) (v := (nI 1023)) dX7_shynessOf_0 (by decide) ?_
  refine Z.istore_n (pc := 3) (i := 3) dX7_shynessOf_3 rfl (by decide) rfl ?_
  refine Z.iconst (pc := 4) (v := (nI 0)) dX7_shynessOf_4 (by decide) ?_
  refine Z.istore (pc := 5) (i := 4) dX7_shynessOf_5 (by decide) rfl ?_
  exact l_X7_shynessOf hz hz6 g k hk sz 0 (by omega)
set_option maxRecDepth 100000 in
set_option maxHeartbeats 400000 in
theorem l_X7_whatToAsk {h : hp} (k : Int32) (m : Nat) (hk : okK k) (hm : m < 1024) (hm0 : ¬ m = 0) : ∀ (r i : Nat) , i + r = 17 → Z yX7_whatToAsk cX7_whatToAsk 7 (some .int) 2 (z_eq (some (.int (askI k m))) h) 14 [(0, .int k), (1, .int (nI m)), (2, .int (asF k m i).1), (3, .int (nI (asF k m i).2)), (4, .int (nI i))] [] h := by
  intro r
  induction r with
  | zero =>
    intro i hi
    obtain rfl : 17 = i := by omega
    refine Z.iload (pc := 14) (i := 4) dX7_whatToAsk_14 rfl ?_
    refine Z.bipush (pc := 16) (v := (nI 16)) dX7_whatToAsk_16 (by decide) ?_
    refine Z.icmp_gt_t (pc := 18) (tgt := 68) dX7_whatToAsk_18 (by decide) (nI_lt (by omega) (by omega)) ?_
    refine Z.iload_n (pc := 68) (i := 2) dX7_whatToAsk_68 rfl rfl ?_
    refine Z.iret (pc := 69) (ty := .int) dX7_whatToAsk_69 rfl rfl ?_
    exact ⟨by simp [askI, hm0], rfl⟩
  | succ r ih =>
    intro i hi
    refine Z.iload (pc := 14) (i := 4) dX7_whatToAsk_14 rfl ?_
    refine Z.bipush (pc := 16) (v := (nI 16)) dX7_whatToAsk_16 (by decide) ?_
    refine Z.icmp_gt_f (pc := 18) (tgt := 68) dX7_whatToAsk_18 (by decide) (nI_nlt (by omega) (by decide)) ?_
    refine Z.iload_n (pc := 21) (i := 1) dX7_whatToAsk_21 rfl rfl ?_
    refine Z.iload_n (pc := 22) (i := 0) dX7_whatToAsk_22 rfl rfl ?_
    refine Z.iload (pc := 23) (i := 4) dX7_whatToAsk_23 rfl ?_
    refine Z.callSi (pc := 25) dX7_whatToAsk_25 (c_X7_shynessThatGoes k _ hk) zm_X7_26 zs_X7_shynessThatGoes rfl rfl (by decide) (by decide) (Nat.le_of_ble_eq_true rfl) ?_
    refine Z.iand (pc := 28) dX7_whatToAsk_28 ?_
    refine Z.top (nb_and _ _) ?_
    refine Z.istore (pc := 29) (i := 5) dX7_whatToAsk_29 (by decide) rfl ?_
    refine Z.iload (pc := 31) (i := 5) dX7_whatToAsk_31 rfl ?_
    refine Z.callSi (pc := 33) dX7_whatToAsk_33 (c_J6_bitCount_0f7a4 _ (and_lt (n := 10) hm)) zm_X7_30 zs_J6_bitCount_0f7a4 rfl rfl (by decide) (by decide) (Nat.le_of_ble_eq_true rfl) ?_
    refine Z.iload_n (pc := 36) (i := 1) dX7_whatToAsk_36 rfl rfl ?_
    refine Z.iload (pc := 37) (i := 5) dX7_whatToAsk_37 rfl ?_
    refine Z.iconst (pc := 39) (v := (-1)) dX7_whatToAsk_39 (by decide) ?_
    refine Z.ixor (pc := 40) dX7_whatToAsk_40 ?_
    refine Z.iand (pc := 41) dX7_whatToAsk_41 ?_
    refine Z.top (nb_dif _ _) ?_
    refine Z.callSi (pc := 42) dX7_whatToAsk_42 (c_J6_bitCount_0f7a4 _ (dif_lt (n := 10) hm)) zm_X7_30 zs_J6_bitCount_0f7a4 rfl rfl (by decide) (by decide) (Nat.le_of_ble_eq_true rfl) ?_
    refine Z.mmax (pc := 45) dX7_whatToAsk_45 zm_X7_36 (by decide) (Nat.le_of_ble_eq_true rfl) ?_
    refine Z.top ((max_nI (Nat.lt_of_le_of_lt (pop_le _) (by decide)) (Nat.lt_of_le_of_lt (pop_le _) (by decide))).trans (show _ = nI (asL k m i) from rfl)) ?_
    refine Z.istore (pc := 48) (i := 6) dX7_whatToAsk_48 (by decide) rfl ?_
    refine Z.iload (pc := 50) (i := 6) dX7_whatToAsk_50 rfl ?_
    refine Z.iload_n (pc := 52) (i := 3) dX7_whatToAsk_52 rfl rfl ?_
    refine Z.icmp_ge (pc := 53) (tgt := 62) dX7_whatToAsk_53 (by decide) (fun c53 => ?_) (fun c53 => ?_)
    · have q : ¬ asL k m i < (asF k m i).2 := fun q => nI_ge q (Nat.lt_of_le_of_lt (asF_le k m i) (by decide)) c53
      have eS : asF k m (i + 1) = asF k m i := by simp [asF, q]
      rw [← eS]
      refine Z.iinc (pc := 62) (i := 4) (v := (nI (i + 1))) dX7_whatToAsk_62 rfl (by exact ii_1 i) (by decide) rfl ?_
      refine Z.goto (pc := 65) (tgt := 14) dX7_whatToAsk_65 (by decide) ?_
      refine Z.drop 5 ?_
      refine Z.drop 6 ?_
      have e := ih (i + 1) (by omega)
      first | exact e | (rw [eS] at e; exact e)
    · have q : asL k m i < (asF k m i).2 := Nat.not_le.mp (fun q => c53 (nI_le q (Nat.lt_of_le_of_lt (asL_le k m i) (by decide))))
      have eS : asF k m (i + 1) = (nI i, asL k m i) := by simp [asF, q]
      refine Z.iload (pc := 56) (i := 4) dX7_whatToAsk_56 rfl ?_
      refine Z.istore_n (pc := 58) (i := 2) dX7_whatToAsk_58 rfl (by decide) rfl ?_
      refine Z.iload (pc := 59) (i := 6) dX7_whatToAsk_59 rfl ?_
      refine Z.istore_n (pc := 61) (i := 3) dX7_whatToAsk_61 rfl (by decide) rfl ?_
      refine Z.iinc (pc := 62) (i := 4) (v := (nI (i + 1))) dX7_whatToAsk_62 rfl (by exact ii_1 i) (by decide) rfl ?_
      refine Z.goto (pc := 65) (tgt := 14) dX7_whatToAsk_65 (by decide) ?_
      refine Z.drop 5 ?_
      refine Z.drop 6 ?_
      have e := ih (i + 1) (by omega)
      first | exact e | (rw [eS] at e; exact e)
set_option maxRecDepth 100000 in
set_option maxHeartbeats 400000 in
theorem c_X7_whatToAsk {h : hp} (k : Int32) (m : Nat) (hk : okK k) (hm : m < 1024)  : Cn yX7_whatToAsk cX7_whatToAsk 7 (some .int) 2 [.int k, .int (nI m)] h (z_eq (some (.int (askI k m))) h) := by
  refine Cn.of (by decide) (Nat.le_of_ble_eq_true rfl) ?_
  refine Z.eqL (lv' := [(0, .int k), (1, .int (nI m))]) rfl ?_
  refine Z.iload_n (pc := 0) (i := 1) dX7_whatToAsk_0 rfl rfl ?_
  refine Z.if_ne (pc := 1) (tgt := 6) dX7_whatToAsk_1 (by decide) (fun c1 => ?_) (fun c1 => ?_)
  · have hm0 : ¬ m = 0 := fun q => c1 (by rw [q]; rfl)
    refine Z.iconst (pc := 6) (v := (-1)) dX7_whatToAsk_6 (by decide) ?_
    refine Z.istore_n (pc := 7) (i := 2) dX7_whatToAsk_7 rfl (by decide) rfl ?_
    refine Z.bipush (pc := 8) (v := (nI 11)) dX7_whatToAsk_8 (by decide) ?_
    refine Z.istore_n (pc := 10) (i := 3) dX7_whatToAsk_10 rfl (by decide) rfl ?_
    refine Z.iconst (pc := 11) (v := (nI 0)) dX7_whatToAsk_11 (by decide) ?_
    refine Z.istore (pc := 12) (i := 4) dX7_whatToAsk_12 (by decide) rfl ?_
    exact l_X7_whatToAsk k m hk hm hm0 17 0 rfl
  · have hm0 : m = 0 := by rw [← nI_0] at c1; exact (nI_eq (by omega) (by decide)).mp c1
    refine Z.iconst (pc := 4) (v := (-1)) dX7_whatToAsk_4 (by decide) ?_
    refine Z.iret (pc := 5) (ty := .int) dX7_whatToAsk_5 rfl rfl ?_
    exact ⟨by simp [askI, hm0], rfl⟩
theorem sd_l {s : Nat} (hs : s < 2 ^ 31) : ((1103515245 * (nI s).toInt64 + 12345) - (1103515245 * (nI s).toInt64 + 12345) / 2147483648 * 2147483648).toInt32 = nI (sdN s) := by
  rw [nI_l hs]
  show ((lN 1103515245 * lN s + lN 12345) - (lN 1103515245 * lN s + lN 12345) / lN 2147483648 * lN 2147483648).toInt32 = _
  rw [lN_mul, lN_add, pk_lRem (by omega) (by decide) (by decide), lN_i]
  rfl
set_option maxRecDepth 100000 in
set_option maxHeartbeats 400000 in
theorem c_X1_next {h : hp} (s b : Nat) (hs : h.1 29 0 = nI s) (hs31 : s < 2 ^ 31) (hb : 0 < b) (hb31 : b < 2 ^ 31)  : Cn yX1_next cX1_next 2 (some .int) 0 [.ref 29, .int (nI b)] h (z_eq (some (.int (nI (sdN s / 65536 % b)))) (z_up h 29 0 (nI (sdN s)))) := by
  refine Cn.of (by decide) (Nat.le_of_ble_eq_true rfl) ?_
  refine Z.eqL (lv' := [(0, .ref 29), (1, .int (nI b))]) rfl ?_
  refine Z.aload_n (pc := 0) (i := 0) dX1_next_0 rfl rfl ?_
  refine Z.ldc2 (pc := 1) dX1_next_1 zk_X1_7 ?_
  refine Z.aload_n (pc := 4) (i := 0) dX1_next_4 rfl rfl ?_
  refine Z.getIv (pc := 5) dX1_next_5 zf_X1_9 rfl rfl hs ?_
  refine Z.i2l (pc := 8) dX1_next_8 ?_
  refine Z.lmul (pc := 9) dX1_next_9 ?_
  refine Z.ldc2 (pc := 10) dX1_next_10 zk_X1_15 ?_
  refine Z.ladd (pc := 13) dX1_next_13 ?_
  refine Z.ldc2 (pc := 14) dX1_next_14 zk_X1_17 ?_
  refine Z.lrem (pc := 17) dX1_next_17 (by decide) ?_
  refine Z.l2i (pc := 18) dX1_next_18 ?_
  refine Z.top (sd_l hs31) ?_
  refine Z.putI (pc := 19) dX1_next_19 zp_X1_9 rfl rfl rfl rfl ?_
  refine Z.iload_n (pc := 22) (i := 1) dX1_next_22 rfl rfl ?_
  refine Z.if_gt_t (pc := 23) (tgt := 30) dX1_next_23 (by decide) (nI_lt (a := 0) hb hb31) ?_
  refine Z.aload_n (pc := 30) (i := 0) dX1_next_30 rfl rfl ?_
  refine Z.getIv (pc := 31) dX1_next_31 zf_X1_9 rfl rfl (z_up_at _ _ _ _) ?_
  refine Z.ldc (pc := 34) dX1_next_34 zk_X1_19 ?_
  refine Z.idiv (pc := 36) dX1_next_36 (by decide) ?_
  refine Z.top (pk_div (d := 65536) (sdN_lt s) (by decide) (by decide)) ?_
  refine Z.iload_n (pc := 37) (i := 1) dX1_next_37 rfl rfl ?_
  refine Z.irem (pc := 38) dX1_next_38 (nI_ne0 hb hb31) ?_
  refine Z.top (pk_rem (Nat.lt_of_le_of_lt (Nat.div_le_self _ _) (sdN_lt s)) hb hb31) ?_
  refine Z.iret (pc := 39) (ty := .int) dX1_next_39 rfl rfl ?_
  exact ⟨rfl, rfl⟩
end
section
theorem Rm_out {h : hp} {o n hr r : Nat} {t : Nat → Int32} {k s f : Nat → Int32} (hR : Rm h o n hr k s f) (e0 : o ≠ r) (e1 : o + 1 ≠ r) (e2 : o + 2 ≠ r) (e3 : o + 3 ≠ r) : Rm (z_row h r t) o n hr k s f := by
  obtain ⟨g1, g2, g3, g4, g5, g6, g7⟩ := hR
  refine ⟨?_, ?_, g3, g4, ?_, ?_, ?_⟩
  · rw [z_row_ne e0]; exact g1
  · rw [z_row_ne e0]; exact g2
  · rw [z_row_ne e1]; exact g5
  · rw [z_row_ne e2]; exact g6
  · rw [z_row_ne e3]; exact g7
theorem mst_0 (k s f : Nat → Int32) (n hr : Nat) : mst k s f n hr 0 = 0 := by
  apply Nat.eq_of_testBit_eq
  intro i
  rw [Nat.zero_testBit]
  cases e : (mst k s f n hr 0).testBit i with
  | false => rfl
  | true => have := mst_sub e; rw [Nat.zero_testBit] at this; cases this
theorem dif_0 (b : Nat) : dif 0 b = 0 := by simp [dif]
theorem TB_1 {k s f : Nat → Int32} {n hr : Nat} {t : Nat → Int32} (h : t 0 = 0) : TB k s f n hr 1 t := by
  intro m hm _
  obtain rfl : m = 0 := by omega
  rw [h, mst_0]; rfl
theorem TB_0 {k s f : Nat → Int32} {n hr i : Nat} {t : Nat → Int32} (h : TB k s f n hr (i + 1) t) : t 0 = 0 := by
  rw [h 0 (by omega) (dif_0 hr), mst_0]; rfl
theorem TB_skip {k s f : Nat → Int32} {n hr i : Nat} {t : Nat → Int32} (h : TB k s f n hr i t) (hc : chB hr i = false) : TB k s f n hr (i + 1) t := by
  intro m hm hd
  by_cases e : m = i
  · subst e; exact absurd hd (of_decide_eq_false hc)
  · exact h m (by omega) hd
theorem TB_put {k s f : Nat → Int32} {n hr i : Nat} {t : Nat → Int32} (h : TB k s f n hr i t) : TB k s f n hr (i + 1) (upd t i (nI (mst k s f n hr i))) := by
  intro m hm hd
  by_cases e : m = i
  · subst e; rw [upd_at]
  · rw [upd_ne e]; exact h m (by omega) hd
theorem wcg_ch {k s f : Nat → Int32} {n hr m : Nat} (h : dif m hr = 0) : dif (wcg k s f n hr m) hr = 0 := ch_of (fun i hi => ch_bit h (wcg_sub hi))
theorem wcg_le {k s f : Nat → Int32} {n hr m : Nat} : wcg k s f n hr m ≤ m := sub_le (fun _ h => wcg_sub h)
theorem mst_le {k s f : Nat → Int32} {n hr m : Nat} : mst k s f n hr m ≤ m := sub_le (fun _ h => mst_sub h)
def KR (h : hp) (k s f : Nat → Int32) (n hr : Nat) : Option Value → hp → Prop := fun r h' => r = none ∧ ∃ t, h' = z_row (z_up h 23 1 (nI hr)) 24 t ∧ TB k s f n hr (hr + 1) t
def wtR (ot tn : Nat) : Nat → Int32 := fun a => nI (wtN ot tn a)
/-- Euclid's rounds: enough are left -/
def euQ (r a b : Nat) : Prop := (b ≤ a ∧ a * b < 2 ^ r) ∨ (a < b ∧ 1 ≤ r ∧ a * b < 2 ^ (r - 1))
theorem euQ_0 {a b : Nat} (h : euQ 0 a b) : b = 0 := by
  rcases h with ⟨h1, h2⟩ | ⟨-, h2, -⟩
  · rcases Nat.eq_zero_or_pos b with z | z
    · exact z
    · have : 1 ≤ a * b := Nat.mul_pos (by omega) z
      omega
  · omega
theorem euQ_s {r a b : Nat} (hb : 0 < b) (h : euQ (r + 1) a b) : euQ r b (a % b) := by
  have hm := Nat.mod_lt a hb
  left
  refine ⟨by omega, ?_⟩
  rcases h with ⟨h1, h2⟩ | ⟨h1, -, h2⟩
  · have hd : a % b * 2 ≤ a := by
      have h3 := Nat.div_add_mod a b
      have h4 : 1 ≤ a / b := (Nat.one_le_div_iff hb).mpr h1
      have h5 : b * 1 ≤ b * (a / b) := Nat.mul_le_mul_left b h4
      omega
    have h6 : b * (a % b) * 2 ≤ a * b := by
      have : b * (a % b * 2) ≤ b * a := Nat.mul_le_mul_left b hd
      rw [Nat.mul_assoc, Nat.mul_comm a b]; exact this
    rw [Nat.pow_succ] at h2
    omega
  · rw [Nat.mod_eq_of_lt h1, Nat.mul_comm]
    simpa using h2
theorem gcd_s (a b : Nat) : Nat.gcd b (a % b) = Nat.gcd a b := by
  rw [Nat.gcd_comm a b, Nat.gcd_rec b a, Nat.gcd_comm]
theorem euQ_64 {a b : Nat} (ha : a < 2 ^ 31) (hb : b < 2 ^ 31) : euQ 64 a b := by
  have h : a * b ≤ 2 ^ 31 * 2 ^ 31 := Nat.mul_le_mul (by omega) (by omega)
  rw [← Nat.pow_add] at h
  have h2 : (2 : Nat) ^ (31 + 31) < 2 ^ 63 := by decide
  rcases Nat.lt_or_ge a b with q | q
  · exact Or.inr ⟨q, by decide, by show a * b < 2 ^ 63; omega⟩
  · have h3 : (2 : Nat) ^ 63 < 2 ^ 64 := by decide
    exact Or.inl ⟨q, by omega⟩
theorem z_up4 (h : hp) (i p q : Nat) (hpq : p ≠ q) (a b c d : Int32) : z_up (z_up (z_up (z_up h i p a) i q b) i p c) i q d = z_up (z_up h i p c) i q d := by
  simp only [z_up_row, z_row_at, z_row_row]
  congr 1
  funext x
  by_cases e : x = q
  · simp [upd, e]
  · by_cases e2 : x = p <;> simp [upd, e, e2]
def chX (h : hp) (ot tn A : Nat) : hp := z_up (z_up (z_row h 26 (rdR (wtR ot tn) (h.1 26) (ot + 1))) 25 1 (nI (A / Nat.gcd A (10 ^ ot)))) 25 2 (nI (10 ^ ot / Nat.gcd A (10 ^ ot)))
theorem chB_t {hr m : Nat} (h : chB hr m = true) : dif m hr = 0 := of_decide_eq_true h
theorem ab_1 (k s f : Nat → Int32) (n hr g tn : Nat) : abN k s f n hr g tn 1 = 0 := by
  show 0 + cond (abB k s f n hr g 0) _ _ = 0
  rw [show abB k s f n hr g 0 = false from by simp [abB, mst_0]]
  rfl
theorem lsF_k {c : Nat → Bool} {i : Nat} (h : (c (i + 1) && (decide (lsF c i = 0) || decide (pop (i + 1) < pop (lsF c i)))) = false) : lsF c (i + 1) = lsF c i := by
  show (if _ then _ else _) = _
  rw [if_neg (by rw [h]; decide)]
theorem lsF_s {c : Nat → Bool} {i : Nat} (h : (c (i + 1) && (decide (lsF c i = 0) || decide (pop (i + 1) < pop (lsF c i)))) = true) : i + 1 = lsF c (i + 1) := by
  show _ = (if _ then _ else _)
  rw [if_pos h]
end
section
set_option maxRecDepth 100000 in
set_option maxHeartbeats 400000 in
theorem c_X5_isChoice {h : hp} {hr : Nat} (hh : h.1 23 1 = nI hr) (m : Nat) (hm : m < 2 ^ 31)  : Cn yX5_isChoice cX5_isChoice 2 (some .boolean) 0 [.ref 23, .int (nI m)] h (z_eq (some (.int (zb (chB hr m)))) h) := by
  refine Cn.of (by decide) (Nat.le_of_ble_eq_true rfl) ?_
  refine Z.eqL (lv' := [(0, .ref 23), (1, .int (nI m))]) rfl ?_
  refine Z.iload_n (pc := 0) (i := 1) dX5_isChoice_0 rfl rfl ?_
  refine Z.aload_n (pc := 1) (i := 0) dX5_isChoice_1 rfl rfl ?_
  refine Z.getIv (pc := 2) dX5_isChoice_2 zf_X5_21 rfl rfl hh ?_
  refine Z.iconst (pc := 5) (v := (-1)) dX5_isChoice_5 (by decide) ?_
  refine Z.ixor (pc := 6) dX5_isChoice_6 ?_
  refine Z.iand (pc := 7) dX5_isChoice_7 ?_
  refine Z.top (nb_dif _ _) ?_
  refine Z.if_ne (pc := 8) (tgt := 15) dX5_isChoice_8 (by decide) (fun c8 => ?_) (fun c8 => ?_)
  · have q : ¬ dif m hr = 0 := fun q => c8 (by rw [q]; rfl)
    refine Z.iconst (pc := 15) (v := (0)) dX5_isChoice_15 (by decide) ?_
    refine Z.iret (pc := 16) (ty := .boolean) dX5_isChoice_16 rfl (by first | rfl | exact zb_nar _) ?_
    first | exact ⟨zb_f rfl (decide_eq_false q), rfl⟩ | exact ⟨zb_t rfl (decide_eq_true q), rfl⟩
  · have q : dif m hr = 0 := by rw [← nI_0] at c8; exact (nI_eq (Nat.lt_of_le_of_lt (dif_le m hr) hm) (by decide)).mp c8
    refine Z.iconst (pc := 11) (v := (1)) dX5_isChoice_11 (by decide) ?_
    refine Z.goto (pc := 12) (tgt := 16) dX5_isChoice_12 (by decide) ?_
    refine Z.iret (pc := 16) (ty := .boolean) dX5_isChoice_16 rfl (by first | rfl | exact zb_nar _) ?_
    first | exact ⟨zb_f rfl (decide_eq_false q), rfl⟩ | exact ⟨zb_t rfl (decide_eq_true q), rfl⟩
set_option maxRecDepth 100000 in
set_option maxHeartbeats 400000 in
theorem l_X5_find {h : hp} {n hr : Nat} {k s f : Nat → Int32} (hR : Rm h 3 n hr k s f) : ∀ (r i : Nat) (t : Nat → Int32), i + r = hr + 1 → 1 ≤ i → TB k s f n hr i t → Z yX5_find cX5_find 4 none 3 (KR h k s f n hr) 10 [(0, .ref 23), (1, .ref 3), (2, .int (nI i))] [] (z_row (z_up h 23 1 (nI hr)) 24 t) := by
  have hn8 := hR.2.2.2.1.1
  have hp8 := p8 hn8
  have hlt := hR.2.2.1
  intro r
  induction r with
  | zero =>
    intro i t hi h1 hT
    obtain rfl : hr + 1 = i := by omega
    refine Z.iload_n (pc := 10) (i := 2) dX5_find_10 rfl rfl ?_
    refine Z.aload_n (pc := 11) (i := 0) dX5_find_11 rfl rfl ?_
    refine Z.getIv (pc := 12) dX5_find_12 zf_X5_21 rfl rfl (show _ = nI hr from rfl) ?_
    refine Z.icmp_gt_t (pc := 15) (tgt := 68) dX5_find_15 (by decide) (nI_lt (by omega) (by omega)) ?_
    refine Z.vret (pc := 68) dX5_find_68 rfl ?_
    exact ⟨rfl, t, rfl, hT⟩
  | succ r ih =>
    intro i t hi h1 hT
    refine Z.iload_n (pc := 10) (i := 2) dX5_find_10 rfl rfl ?_
    refine Z.aload_n (pc := 11) (i := 0) dX5_find_11 rfl rfl ?_
    refine Z.getIv (pc := 12) dX5_find_12 zf_X5_21 rfl rfl (show _ = nI hr from rfl) ?_
    refine Z.icmp_gt_f (pc := 15) (tgt := 68) dX5_find_15 (by decide) (nI_nlt (by omega) (by omega)) ?_
    refine Z.iload_n (pc := 18) (i := 2) dX5_find_18 rfl rfl ?_
    refine Z.aload_n (pc := 19) (i := 0) dX5_find_19 rfl rfl ?_
    refine Z.getR (pc := 20) dX5_find_20 zf_X5_9 rfl rfl ?_
    refine Z.alen (pc := 23) dX5_find_23 rfl (by decide) ?_
    refine Z.icmp_ge_f (pc := 24) (tgt := 68) dX5_find_24 (by decide) (nI_ge (b := 256) (by omega) (by decide)) ?_
    refine Z.aload_n (pc := 27) (i := 0) dX5_find_27 rfl rfl ?_
    refine Z.iload_n (pc := 28) (i := 2) dX5_find_28 rfl rfl ?_
    refine Z.callVi (pc := 29) dX5_find_29 (c_X5_isChoice (by exact rfl) i (by omega)) zm_X5_22 zv_X5_isChoice rfl rfl rfl rfl (by decide) (by decide) (Nat.le_of_ble_eq_true rfl) ?_
    refine Z.if_eq_b (pc := 32) (tgt := 62) dX5_find_32 (by decide) (fun c32 => ?_) (fun c32 => ?_)
    · refine Z.iinc (pc := 62) (i := 2) (v := (nI (i + 1))) dX5_find_62 rfl (by exact ii_1 i) (by decide) rfl ?_
      refine Z.goto (pc := 65) (tgt := 10) dX5_find_65 (by decide) ?_
      refine Z.drop 3 ?_
      first
        | exact ih (i + 1) _ (by omega) (by omega) (TB_skip hT c32)
        | exact ih (i + 1) _ (by omega) (by omega) (TB_put hT)
    · have hd : dif i hr = 0 := chB_t c32
      have hi2 : i < 2 ^ n := Nat.lt_of_le_of_lt (ch_le hd) hlt
      have hRc := Rm_out (r := 24) (t := t) (Rm_out (r := 23) (t := upd (h.1 23) 1 (nI hr)) hR (by decide) (by decide) (by decide) (by decide)) (by decide) (by decide) (by decide) (by decide)
      refine Z.aload_n (pc := 35) (i := 1) dX5_find_35 rfl rfl ?_
      refine Z.iload_n (pc := 36) (i := 2) dX5_find_36 rfl rfl ?_
      refine Z.callVi (pc := 37) dX5_find_37 (c_X6_whoCanGo (o := 3) (Or.inl rfl) hRc i hi2) zm_X5_26 zv_X6_whoCanGo rfl rfl rfl rfl (by decide) (by decide) (Nat.le_of_ble_eq_true rfl) ?_
      refine Z.istore_n (pc := 40) (i := 3) dX5_find_40 rfl (by decide) rfl ?_
      refine Z.aload_n (pc := 41) (i := 0) dX5_find_41 rfl rfl ?_
      refine Z.getR (pc := 42) dX5_find_42 zf_X5_9 rfl rfl ?_
      refine Z.iload_n (pc := 45) (i := 2) dX5_find_45 rfl rfl ?_
      refine Z.iload_n (pc := 46) (i := 3) dX5_find_46 rfl rfl ?_
      refine Z.iload_n (pc := 47) (i := 2) dX5_find_47 rfl rfl ?_
      refine Z.icmp_ne (pc := 48) (tgt := 55) dX5_find_48 (by decide) (fun c48 => ?_) (fun c48 => ?_)
      · refine Z.aload_n (pc := 55) (i := 0) dX5_find_55 rfl rfl ?_
        refine Z.getR (pc := 56) dX5_find_56 zf_X5_9 rfl rfl ?_
        refine Z.iload_n (pc := 59) (i := 3) dX5_find_59 rfl rfl ?_
        refine Z.iald (pc := 60) dX5_find_60 rfl (Nat.lt_of_le_of_lt wcg_le (by omega)) (by decide) ?_
        refine Z.top (show _ = nI (mst k s f n hr i) from (hT (wcg k s f n hr i) (by have h1 : wcg k s f n hr i ≤ i := wcg_le; have h2 : ¬ wcg k s f n hr i = i := fun q => c48 (by rw [q]); omega) (wcg_ch hd)).trans (by rw [mst_step (by omega)])) ?_
        refine Z.iast (pc := 61) dX5_find_61 rfl (by omega) (by decide) ?_
        rw [z_up_row, z_row_at, z_row_row]
        refine Z.iinc (pc := 62) (i := 2) (v := (nI (i + 1))) dX5_find_62 rfl (by exact ii_1 i) (by decide) rfl ?_
        refine Z.goto (pc := 65) (tgt := 10) dX5_find_65 (by decide) ?_
        refine Z.drop 3 ?_
        first
          | exact ih (i + 1) _ (by omega) (by omega) (TB_skip hT c32)
          | exact ih (i + 1) _ (by omega) (by omega) (TB_put hT)
      · refine Z.iload_n (pc := 51) (i := 2) dX5_find_51 rfl rfl ?_
        refine Z.top (show nI i = nI (mst k s f n hr i) from by rw [mst_id ((nI_eq (Nat.lt_of_le_of_lt wcg_le (by omega)) (by omega)).mp c48)]) ?_
        refine Z.goto (pc := 52) (tgt := 61) dX5_find_52 (by decide) ?_
        refine Z.iast (pc := 61) dX5_find_61 rfl (by omega) (by decide) ?_
        rw [z_up_row, z_row_at, z_row_row]
        refine Z.iinc (pc := 62) (i := 2) (v := (nI (i + 1))) dX5_find_62 rfl (by exact ii_1 i) (by decide) rfl ?_
        refine Z.goto (pc := 65) (tgt := 10) dX5_find_65 (by decide) ?_
        refine Z.drop 3 ?_
        first
          | exact ih (i + 1) _ (by omega) (by omega) (TB_skip hT c32)
          | exact ih (i + 1) _ (by omega) (by omega) (TB_put hT)
set_option maxRecDepth 100000 in
set_option maxHeartbeats 400000 in
theorem c_X5_find {h : hp} {n hr : Nat} {k s f : Nat → Int32} (hR : Rm h 3 n hr k s f) (h24 : h.1 24 0 = 0)  : Cn yX5_find cX5_find 4 none 3 [.ref 23, .ref 3] h (KR h k s f n hr) := by
  refine Cn.of (by decide) (Nat.le_of_ble_eq_true rfl) ?_
  refine Z.eqL (lv' := [(0, .ref 23), (1, .ref 3)]) rfl ?_
  refine Z.aload_n (pc := 0) (i := 0) dX5_find_0 rfl rfl ?_
  refine Z.aload_n (pc := 1) (i := 1) dX5_find_1 rfl rfl ?_
  refine Z.getIv (pc := 2) dX5_find_2 zf_X5_15 rfl rfl hR.2.1 ?_
  refine Z.putI (pc := 5) dX5_find_5 zp_X5_21 rfl rfl rfl rfl ?_
  refine Z.iconst (pc := 8) (v := (nI 1)) dX5_find_8 (by decide) ?_
  refine Z.istore_n (pc := 9) (i := 2) dX5_find_9 rfl (by decide) rfl ?_
  have e := l_X5_find hR hr 1 (h.1 24) (by omega) (by omega) (TB_1 h24)
  have e2 : z_row (z_up h 23 1 (nI hr)) 24 (h.1 24) = z_up h 23 1 (nI hr) := by
    rw [show h.1 24 = (z_up h 23 1 (nI hr)).1 24 from rfl, z_row_id]
  rw [e2] at e
  exact e
set_option maxRecDepth 100000 in
set_option maxHeartbeats 400000 in
theorem l_X5_fewest {h : hp} {n hr : Nat} {k s f : Nat → Int32} (hh : h.1 23 1 = nI hr) (hr8 : hr < 256) (hT : TB k s f n hr (hr + 1) (h.1 24)) : ∀ (r i : Nat) , i + r = hr → Z yX5_fewest cX5_fewest 3 (some .int) 1 (z_eq (some (.int (nI (lsF (riB k s f n hr) hr)))) h) 4 [(0, .ref 23), (1, .int (nI (lsF (riB k s f n hr) i))), (2, .int (nI (i + 1)))] [] h := by
  intro r
  induction r with
  | zero =>
    intro i hi
    obtain rfl : hr = i := by omega
    refine Z.iload_n (pc := 4) (i := 2) dX5_fewest_4 rfl rfl ?_
    refine Z.aload_n (pc := 5) (i := 0) dX5_fewest_5 rfl rfl ?_
    refine Z.getIv (pc := 6) dX5_fewest_6 zf_X5_21 rfl rfl hh ?_
    refine Z.icmp_gt_t (pc := 9) (tgt := 62) dX5_fewest_9 (by decide) (nI_lt (by omega) (by omega)) ?_
    refine Z.iload_n (pc := 62) (i := 1) dX5_fewest_62 rfl rfl ?_
    refine Z.iret (pc := 63) (ty := .int) dX5_fewest_63 rfl rfl ?_
    exact ⟨rfl, rfl⟩
  | succ r ih =>
    intro i hi
    refine Z.iload_n (pc := 4) (i := 2) dX5_fewest_4 rfl rfl ?_
    refine Z.aload_n (pc := 5) (i := 0) dX5_fewest_5 rfl rfl ?_
    refine Z.getIv (pc := 6) dX5_fewest_6 zf_X5_21 rfl rfl hh ?_
    refine Z.icmp_gt_f (pc := 9) (tgt := 62) dX5_fewest_9 (by decide) (nI_nlt (by omega) (by omega)) ?_
    refine Z.iload_n (pc := 12) (i := 2) dX5_fewest_12 rfl rfl ?_
    refine Z.aload_n (pc := 13) (i := 0) dX5_fewest_13 rfl rfl ?_
    refine Z.getR (pc := 14) dX5_fewest_14 zf_X5_9 rfl rfl ?_
    refine Z.alen (pc := 17) dX5_fewest_17 rfl (by decide) ?_
    refine Z.icmp_ge_f (pc := 18) (tgt := 62) dX5_fewest_18 (by decide) (nI_ge (b := 256) (by omega) (by decide)) ?_
    refine Z.aload_n (pc := 21) (i := 0) dX5_fewest_21 rfl rfl ?_
    refine Z.iload_n (pc := 22) (i := 2) dX5_fewest_22 rfl rfl ?_
    refine Z.callVi (pc := 23) dX5_fewest_23 (c_X5_isChoice hh _ (by omega)) zm_X5_22 zv_X5_isChoice rfl rfl rfl rfl (by decide) (by decide) (Nat.le_of_ble_eq_true rfl) ?_
    refine Z.if_eq_b (pc := 26) (tgt := 56) dX5_fewest_26 (by decide) (fun c26 => ?_) (fun c26 => ?_)
    · have eS : lsF (riB k s f n hr) (i + 1) = lsF (riB k s f n hr) i := lsF_k (by simp [riB, c26])
      rw [← eS]
      refine Z.iinc (pc := 56) (i := 2) (v := (nI (i + 1 + 1))) dX5_fewest_56 rfl (by exact ii_1 (i + 1)) (by decide) rfl ?_
      refine Z.goto (pc := 59) (tgt := 4) dX5_fewest_59 (by decide) ?_
      exact ih (i + 1) (by omega)
    · have hd : dif (i + 1) hr = 0 := chB_t c26
      refine Z.aload_n (pc := 29) (i := 0) dX5_fewest_29 rfl rfl ?_
      refine Z.getR (pc := 30) dX5_fewest_30 zf_X5_9 rfl rfl ?_
      refine Z.iload_n (pc := 33) (i := 2) dX5_fewest_33 rfl rfl ?_
      refine Z.iald (pc := 34) dX5_fewest_34 rfl (by omega) (by decide) ?_
      refine Z.top (hT (i + 1) (by omega) hd) ?_
      refine Z.iload_n (pc := 35) (i := 2) dX5_fewest_35 rfl rfl ?_
      refine Z.icmp_ne (pc := 36) (tgt := 56) dX5_fewest_36 (by decide) (fun c36 => ?_) (fun c36 => ?_)
      · have q1 : ¬ wcg k s f n hr (i + 1) = i + 1 := fun q => c36 (by rw [mst_id q])
        have eS : lsF (riB k s f n hr) (i + 1) = lsF (riB k s f n hr) i := lsF_k (by simp [riB, q1])
        rw [← eS]
        refine Z.iinc (pc := 56) (i := 2) (v := (nI (i + 1 + 1))) dX5_fewest_56 rfl (by exact ii_1 (i + 1)) (by decide) rfl ?_
        refine Z.goto (pc := 59) (tgt := 4) dX5_fewest_59 (by decide) ?_
        exact ih (i + 1) (by omega)
      · have q1 : wcg k s f n hr (i + 1) = i + 1 := (mst_iff (by omega)).mp ((nI_eq (Nat.lt_of_le_of_lt mst_le (by omega)) (by omega)).mp c36)
        refine Z.iload_n (pc := 39) (i := 1) dX5_fewest_39 rfl rfl ?_
        refine Z.if_eq (pc := 40) (tgt := 54) dX5_fewest_40 (by decide) (fun c40 => ?_) (fun c40 => ?_)
        · have q2 : lsF (riB k s f n hr) i = 0 := by rw [← nI_0] at c40; exact (nI_eq (Nat.lt_of_le_of_lt (lsF_le _ i) (by omega)) (by decide)).mp c40
          have eS : i + 1 = lsF (riB k s f n hr) (i + 1) := lsF_s (by simp [riB, c26, q1, q2])
          refine Z.iload_n (pc := 54) (i := 2) dX5_fewest_54 rfl rfl ?_
          refine Z.top (congrArg nI eS) ?_
          refine Z.istore_n (pc := 55) (i := 1) dX5_fewest_55 rfl (by decide) rfl ?_
          refine Z.iinc (pc := 56) (i := 2) (v := (nI (i + 1 + 1))) dX5_fewest_56 rfl (by exact ii_1 (i + 1)) (by decide) rfl ?_
          refine Z.goto (pc := 59) (tgt := 4) dX5_fewest_59 (by decide) ?_
          exact ih (i + 1) (by omega)
        · have q2 : ¬ lsF (riB k s f n hr) i = 0 := fun q => c40 (by rw [q]; rfl)
          refine Z.iload_n (pc := 43) (i := 2) dX5_fewest_43 rfl rfl ?_
          refine Z.callSi (pc := 44) dX5_fewest_44 (c_J6_bitCount_0f7a4 _ (by omega)) zm_X5_30 zs_J6_bitCount_0f7a4 rfl rfl (by decide) (by decide) (Nat.le_of_ble_eq_true rfl) ?_
          refine Z.iload_n (pc := 47) (i := 1) dX5_fewest_47 rfl rfl ?_
          refine Z.callSi (pc := 48) dX5_fewest_48 (c_J6_bitCount_0f7a4 _ (Nat.lt_of_le_of_lt (lsF_le _ i) (by omega))) zm_X5_30 zs_J6_bitCount_0f7a4 rfl rfl (by decide) (by decide) (Nat.le_of_ble_eq_true rfl) ?_
          refine Z.icmp_ge (pc := 51) (tgt := 56) dX5_fewest_51 (by decide) (fun c51 => ?_) (fun c51 => ?_)
          · have q3 : ¬ pop (i + 1) < pop (lsF (riB k s f n hr) i) := fun q => nI_ge q (Nat.lt_of_le_of_lt (pop_le _) (by decide)) c51
            have eS : lsF (riB k s f n hr) (i + 1) = lsF (riB k s f n hr) i := lsF_k (by simp [q2, q3])
            rw [← eS]
            refine Z.iinc (pc := 56) (i := 2) (v := (nI (i + 1 + 1))) dX5_fewest_56 rfl (by exact ii_1 (i + 1)) (by decide) rfl ?_
            refine Z.goto (pc := 59) (tgt := 4) dX5_fewest_59 (by decide) ?_
            exact ih (i + 1) (by omega)
          · have q3 : pop (i + 1) < pop (lsF (riB k s f n hr) i) := Nat.not_le.mp (fun q => c51 (nI_le q (Nat.lt_of_le_of_lt (pop_le _) (by decide))))
            have eS : i + 1 = lsF (riB k s f n hr) (i + 1) := lsF_s (by simp [riB, c26, q1, q3])
            refine Z.iload_n (pc := 54) (i := 2) dX5_fewest_54 rfl rfl ?_
            refine Z.top (congrArg nI eS) ?_
            refine Z.istore_n (pc := 55) (i := 1) dX5_fewest_55 rfl (by decide) rfl ?_
            refine Z.iinc (pc := 56) (i := 2) (v := (nI (i + 1 + 1))) dX5_fewest_56 rfl (by exact ii_1 (i + 1)) (by decide) rfl ?_
            refine Z.goto (pc := 59) (tgt := 4) dX5_fewest_59 (by decide) ?_
            exact ih (i + 1) (by omega)
set_option maxRecDepth 100000 in
set_option maxHeartbeats 400000 in
theorem c_X5_fewest {h : hp} {n hr : Nat} {k s f : Nat → Int32} (hh : h.1 23 1 = nI hr) (hr8 : hr < 256) (hT : TB k s f n hr (hr + 1) (h.1 24))  : Cn yX5_fewest cX5_fewest 3 (some .int) 1 [.ref 23] h (z_eq (some (.int (nI (lsF (riB k s f n hr) hr)))) h) := by
  refine Cn.of (by decide) (Nat.le_of_ble_eq_true rfl) ?_
  refine Z.eqL (lv' := [(0, .ref 23)]) rfl ?_
  refine Z.iconst (pc := 0) (v := (nI 0)) dX5_fewest_0 (by decide) ?_
  refine Z.istore_n (pc := 1) (i := 1) dX5_fewest_1 rfl (by decide) rfl ?_
  refine Z.iconst (pc := 2) (v := (nI 1)) dX5_fewest_2 (by decide) ?_
  refine Z.istore_n (pc := 3) (i := 2) dX5_fewest_3 rfl (by decide) rfl ?_
  exact l_X5_fewest hh hr8 hT hr 0 (by omega)
set_option maxRecDepth 100000 in
set_option maxHeartbeats 400000 in
theorem l_X0_power {h : hp} (b : Int32) (e : Nat) (he : e < 2 ^ 31) : ∀ (r i : Nat) , i + r = e → Z yX0_power cX0_power 4 (some .int) 0 (z_eq (some (.int (pwI b e))) h) 4 [(0, .int b), (1, .int (nI e)), (2, .int (pwI b i)), (3, .int (nI i))] [] h := by
  intro r
  induction r with
  | zero =>
    intro i hi
    obtain rfl : e = i := by omega
    refine Z.iload_n (pc := 4) (i := 3) dX0_power_4 rfl rfl ?_
    refine Z.iload_n (pc := 5) (i := 1) dX0_power_5 rfl rfl ?_
    refine Z.icmp_ge_t (pc := 6) (tgt := 19) dX0_power_6 (by decide) (nI_le (Nat.le_refl _) he) ?_
    refine Z.iload_n (pc := 19) (i := 2) dX0_power_19 rfl rfl ?_
    refine Z.iret (pc := 20) (ty := .int) dX0_power_20 rfl rfl ?_
    exact ⟨rfl, rfl⟩
  | succ r ih =>
    intro i hi
    refine Z.iload_n (pc := 4) (i := 3) dX0_power_4 rfl rfl ?_
    refine Z.iload_n (pc := 5) (i := 1) dX0_power_5 rfl rfl ?_
    refine Z.icmp_ge_f (pc := 6) (tgt := 19) dX0_power_6 (by decide) (nI_ge (by omega) he) ?_
    refine Z.iload_n (pc := 9) (i := 2) dX0_power_9 rfl rfl ?_
    refine Z.iload_n (pc := 10) (i := 0) dX0_power_10 rfl rfl ?_
    refine Z.imul (pc := 11) dX0_power_11 ?_
    refine Z.istore_n (pc := 12) (i := 2) dX0_power_12 rfl (by decide) rfl ?_
    refine Z.iinc (pc := 13) (i := 3) (v := (nI (i + 1))) dX0_power_13 rfl (by exact ii_1 i) (by decide) rfl ?_
    refine Z.goto (pc := 16) (tgt := 4) dX0_power_16 (by decide) ?_
    exact ih (i + 1) (by omega)
set_option maxRecDepth 100000 in
set_option maxHeartbeats 400000 in
theorem c_X0_power {h : hp} (b : Int32) (e : Nat) (he : e < 2 ^ 31)  : Cn yX0_power cX0_power 4 (some .int) 0 [.int b, .int (nI e)] h (z_eq (some (.int (pwI b e))) h) := by
  refine Cn.of (by decide) (Nat.le_of_ble_eq_true rfl) ?_
  refine Z.eqL (lv' := [(0, .int b), (1, .int (nI e))]) rfl ?_
  refine Z.iconst (pc := 0) (v := (1)) dX0_power_0 (by decide) ?_
  refine Z.istore_n (pc := 1) (i := 2) dX0_power_1 rfl (by decide) rfl ?_
  refine Z.iconst (pc := 2) (v := (nI 0)) dX0_power_2 (by decide) ?_
  refine Z.istore_n (pc := 3) (i := 3) dX0_power_3 rfl (by decide) rfl ?_
  exact l_X0_power b e he e 0 (by omega)
set_option maxRecDepth 100000 in
set_option maxHeartbeats 400000 in
theorem l_X0_weigh {h : hp} (ot tn : Nat) (ho : ot ≤ 7) (ht : tn ≤ 10) : ∀ (r i : Nat) , i + r = ot + 1 → Z yX0_weigh cX0_weigh 4 none 1 (z_eq none (z_row h 26 (rdR (wtR ot tn) (h.1 26) (ot + 1)))) 2 [(0, .ref 25), (1, .int (nI ot)), (2, .int (nI tn)), (3, .int (nI i))] [] (z_row h 26 (rdR (wtR ot tn) (h.1 26) i)) := by
  intro r
  induction r with
  | zero =>
    intro i hi
    obtain rfl : ot + 1 = i := by omega
    refine Z.iload_n (pc := 2) (i := 3) dX0_weigh_2 rfl rfl ?_
    refine Z.iload_n (pc := 3) (i := 1) dX0_weigh_3 rfl rfl ?_
    refine Z.icmp_gt_t (pc := 4) (tgt := 41) dX0_weigh_4 (by decide) (nI_lt (by omega) (by omega)) ?_
    refine Z.vret (pc := 41) dX0_weigh_41 rfl ?_
    exact ⟨rfl, rfl⟩
  | succ r ih =>
    intro i hi
    refine Z.iload_n (pc := 2) (i := 3) dX0_weigh_2 rfl rfl ?_
    refine Z.iload_n (pc := 3) (i := 1) dX0_weigh_3 rfl rfl ?_
    refine Z.icmp_gt_f (pc := 4) (tgt := 41) dX0_weigh_4 (by decide) (nI_nlt (by omega) (by omega)) ?_
    refine Z.iload_n (pc := 7) (i := 3) dX0_weigh_7 rfl rfl ?_
    refine Z.bipush (pc := 8) (v := (nI 8)) dX0_weigh_8 (by decide) ?_
    refine Z.icmp_ge_f (pc := 10) (tgt := 41) dX0_weigh_10 (by decide) (nI_ge (by omega) (by decide)) ?_
    refine Z.aload_n (pc := 13) (i := 0) dX0_weigh_13 rfl rfl ?_
    refine Z.getR (pc := 14) dX0_weigh_14 zf_X0_9 rfl rfl ?_
    refine Z.iload_n (pc := 17) (i := 3) dX0_weigh_17 rfl rfl ?_
    refine Z.bipush (pc := 18) (v := (nI 10)) dX0_weigh_18 (by decide) ?_
    refine Z.iload_n (pc := 20) (i := 2) dX0_weigh_20 rfl rfl ?_
    refine Z.isub (pc := 21) dX0_weigh_21 ?_
    refine Z.top (pk_sub ht) ?_
    refine Z.iload_n (pc := 22) (i := 3) dX0_weigh_22 rfl rfl ?_
    refine Z.callSi (pc := 23) dX0_weigh_23 (c_X0_power _ i (by omega)) zm_X0_48 zs_X0_power rfl rfl (by decide) (by decide) (Nat.le_of_ble_eq_true rfl) ?_
    refine Z.top (pwI_nI _ i) ?_
    refine Z.iload_n (pc := 26) (i := 2) dX0_weigh_26 rfl rfl ?_
    refine Z.iload_n (pc := 27) (i := 1) dX0_weigh_27 rfl rfl ?_
    refine Z.iload_n (pc := 28) (i := 3) dX0_weigh_28 rfl rfl ?_
    refine Z.isub (pc := 29) dX0_weigh_29 ?_
    refine Z.top (pk_sub (by omega)) ?_
    refine Z.callSi (pc := 30) dX0_weigh_30 (c_X0_power _ _ (by omega)) zm_X0_48 zs_X0_power rfl rfl (by decide) (by decide) (Nat.le_of_ble_eq_true rfl) ?_
    refine Z.top (pwI_nI _ _) ?_
    refine Z.imul (pc := 33) dX0_weigh_33 ?_
    refine Z.top ((pk_mul _ _).trans (show _ = wtR ot tn i from rfl)) ?_
    refine Z.iast (pc := 34) dX0_weigh_34 rfl (by omega) (by decide) ?_
    rw [z_up_row, z_row_at, z_row_row, rdR_s (wtR ot tn) (h.1 26) i]
    refine Z.iinc (pc := 35) (i := 3) (v := (nI (i + 1))) dX0_weigh_35 rfl (by exact ii_1 i) (by decide) rfl ?_
    refine Z.goto (pc := 38) (tgt := 2) dX0_weigh_38 (by decide) ?_
    exact ih (i + 1) (by omega)
set_option maxRecDepth 100000 in
set_option maxHeartbeats 400000 in
theorem c_X0_weigh {h : hp} (ot tn : Nat) (ho : ot ≤ 7) (ht : tn ≤ 10)  : Cn yX0_weigh cX0_weigh 4 none 1 [.ref 25, .int (nI ot), .int (nI tn)] h (z_eq none (z_row h 26 (rdR (wtR ot tn) (h.1 26) (ot + 1)))) := by
  refine Cn.of (by decide) (Nat.le_of_ble_eq_true rfl) ?_
  refine Z.eqL (lv' := [(0, .ref 25), (1, .int (nI ot)), (2, .int (nI tn))]) rfl ?_
  refine Z.iconst (pc := 0) (v := (nI 0)) dX0_weigh_0 (by decide) ?_
  refine Z.istore_n (pc := 1) (i := 3) dX0_weigh_1 rfl (by decide) rfl ?_
  have e := l_X0_weigh (h := h) ot tn ho ht (ot + 1) 0 (by omega)
  rw [rdR_0, z_row_id] at e
  exact e
set_option maxRecDepth 100000 in
set_option maxHeartbeats 400000 in
theorem c_X0_weightOf {h : hp} (m : Nat) (hm : m < 1024) (h1 : 1 ≤ pop m) (h8 : pop m ≤ 8)  : Cn yX0_weightOf cX0_weightOf 3 (some .int) 1 [.ref 25, .int (nI m)] h (z_eq (some (.int (h.1 26 (pop m - 1)))) h) := by
  refine Cn.of (by decide) (Nat.le_of_ble_eq_true rfl) ?_
  refine Z.eqL (lv' := [(0, .ref 25), (1, .int (nI m))]) rfl ?_
  refine Z.iload_n (pc := 0) (i := 1) dX0_weightOf_0 rfl rfl ?_
  refine Z.callSi (pc := 1) dX0_weightOf_1 (c_J6_bitCount_0f7a4 m hm) zm_X0_21 zs_J6_bitCount_0f7a4 rfl rfl (by decide) (by decide) (Nat.le_of_ble_eq_true rfl) ?_
  refine Z.iconst (pc := 4) (v := (nI 1)) dX0_weightOf_4 (by decide) ?_
  refine Z.isub (pc := 5) dX0_weightOf_5 ?_
  refine Z.top (pk_sub h1) ?_
  refine Z.istore_n (pc := 6) (i := 2) dX0_weightOf_6 rfl (by decide) rfl ?_
  refine Z.iload_n (pc := 7) (i := 2) dX0_weightOf_7 rfl rfl ?_
  refine Z.if_lt_f (pc := 8) (tgt := 17) dX0_weightOf_8 (by decide) (nI_pos (by omega)) ?_
  refine Z.iload_n (pc := 11) (i := 2) dX0_weightOf_11 rfl rfl ?_
  refine Z.bipush (pc := 12) (v := (nI 8)) dX0_weightOf_12 (by decide) ?_
  refine Z.icmp_lt_t (pc := 14) (tgt := 21) dX0_weightOf_14 (by decide) (nI_lt (by omega) (by decide)) ?_
  refine Z.aload_n (pc := 21) (i := 0) dX0_weightOf_21 rfl rfl ?_
  refine Z.getR (pc := 22) dX0_weightOf_22 zf_X0_9 rfl rfl ?_
  refine Z.iload_n (pc := 25) (i := 2) dX0_weightOf_25 rfl rfl ?_
  refine Z.iald (pc := 26) dX0_weightOf_26 rfl (by omega) (by decide) ?_
  refine Z.iret (pc := 27) (ty := .int) dX0_weightOf_27 rfl rfl ?_
  exact ⟨rfl, rfl⟩
set_option maxRecDepth 100000 in
set_option maxHeartbeats 400000 in
theorem l_X0_commonDivisor {h : hp} (G : Nat) (u v : Int32) : ∀ (r i : Nat) (a b : Nat), i + r = 64 → a < 2 ^ 31 → b < 2 ^ 31 → euQ r a b → Nat.gcd a b = G → Z yX0_commonDivisor cX0_commonDivisor 6 (some .int) 0 (z_eq (some (.int (nI G))) h) 7 [(0, .int u), (1, .int v), (2, .int (nI a)), (3, .int (nI b)), (4, .int (nI i))] [] h := by
  intro r
  induction r with
  | zero =>
    intro i a b hi ha hb hQ hG
    obtain rfl : 64 = i := by omega
    refine Z.iload (pc := 7) (i := 4) dX0_commonDivisor_7 rfl ?_
    refine Z.bipush (pc := 9) (v := (nI 64)) dX0_commonDivisor_9 (by decide) ?_
    refine Z.icmp_ge_t (pc := 11) (tgt := 34) dX0_commonDivisor_11 (by decide) (nI_le (Nat.le_refl 64) (by decide)) ?_
    refine Z.iload_n (pc := 34) (i := 2) dX0_commonDivisor_34 rfl rfl ?_
    refine Z.iret (pc := 35) (ty := .int) dX0_commonDivisor_35 rfl rfl ?_
    exact ⟨by rw [← hG, euQ_0 hQ, Nat.gcd_zero_right], rfl⟩
  | succ r ih =>
    intro i a b hi ha hb hQ hG
    refine Z.iload (pc := 7) (i := 4) dX0_commonDivisor_7 rfl ?_
    refine Z.bipush (pc := 9) (v := (nI 64)) dX0_commonDivisor_9 (by decide) ?_
    refine Z.icmp_ge_f (pc := 11) (tgt := 34) dX0_commonDivisor_11 (by decide) (nI_ge (by omega) (by decide)) ?_
    refine Z.iload_n (pc := 14) (i := 3) dX0_commonDivisor_14 rfl rfl ?_
    refine Z.if_eq (pc := 15) (tgt := 34) dX0_commonDivisor_15 (by decide) (fun c15 => ?_) (fun c15 => ?_)
    · have b0 : b = 0 := by rw [← nI_0] at c15; exact (nI_eq (by omega) (by decide)).mp c15
      refine Z.iload_n (pc := 34) (i := 2) dX0_commonDivisor_34 rfl rfl ?_
      refine Z.iret (pc := 35) (ty := .int) dX0_commonDivisor_35 rfl rfl ?_
      exact ⟨by rw [← hG, b0, Nat.gcd_zero_right], rfl⟩
    · have b0 : 0 < b := Nat.pos_of_ne_zero (fun q => c15 (by rw [q]; rfl))
      refine Z.iload_n (pc := 18) (i := 2) dX0_commonDivisor_18 rfl rfl ?_
      refine Z.iload_n (pc := 19) (i := 3) dX0_commonDivisor_19 rfl rfl ?_
      refine Z.irem (pc := 20) dX0_commonDivisor_20 c15 ?_
      refine Z.top (pk_rem ha b0 hb) ?_
      refine Z.istore (pc := 21) (i := 5) dX0_commonDivisor_21 (by decide) rfl ?_
      refine Z.iload_n (pc := 23) (i := 3) dX0_commonDivisor_23 rfl rfl ?_
      refine Z.istore_n (pc := 24) (i := 2) dX0_commonDivisor_24 rfl (by decide) rfl ?_
      refine Z.iload (pc := 25) (i := 5) dX0_commonDivisor_25 rfl ?_
      refine Z.istore_n (pc := 27) (i := 3) dX0_commonDivisor_27 rfl (by decide) rfl ?_
      refine Z.iinc (pc := 28) (i := 4) (v := (nI (i + 1))) dX0_commonDivisor_28 rfl (by exact ii_1 i) (by decide) rfl ?_
      refine Z.goto (pc := 31) (tgt := 7) dX0_commonDivisor_31 (by decide) ?_
      refine Z.drop 5 ?_
      exact ih (i + 1) b (a % b) (by omega) hb (Nat.lt_trans (Nat.mod_lt a b0) hb) (euQ_s b0 hQ) ((gcd_s a b).trans hG)
set_option maxRecDepth 100000 in
set_option maxHeartbeats 400000 in
theorem c_X0_commonDivisor {h : hp} (a b : Nat) (ha : a < 2 ^ 31) (hb : b < 2 ^ 31)  : Cn yX0_commonDivisor cX0_commonDivisor 6 (some .int) 0 [.int (nI a), .int (nI b)] h (z_eq (some (.int (nI (Nat.gcd a b)))) h) := by
  refine Cn.of (by decide) (Nat.le_of_ble_eq_true rfl) ?_
  refine Z.eqL (lv' := [(0, .int (nI a)), (1, .int (nI b))]) rfl ?_
  refine Z.iload_n (pc := 0) (i := 0) dX0_commonDivisor_0 rfl rfl ?_
  refine Z.istore_n (pc := 1) (i := 2) dX0_commonDivisor_1 rfl (by decide) rfl ?_
  refine Z.iload_n (pc := 2) (i := 1) dX0_commonDivisor_2 rfl rfl ?_
  refine Z.istore_n (pc := 3) (i := 3) dX0_commonDivisor_3 rfl (by decide) rfl ?_
  refine Z.iconst (pc := 4) (v := (nI 0)) dX0_commonDivisor_4 (by decide) ?_
  refine Z.istore (pc := 5) (i := 4) dX0_commonDivisor_5 (by decide) rfl ?_
  exact l_X0_commonDivisor (Nat.gcd a b) _ _ 64 0 a b rfl ha hb (euQ_64 ha hb) rfl
set_option maxRecDepth 100000 in
set_option maxHeartbeats 400000 in
theorem c_X0_reduce {h : hp} (A B : Nat) (hA : h.1 25 1 = nI A) (hB : h.1 25 2 = nI B) (ha : A < 2 ^ 31) (hb : B < 2 ^ 31) (hb0 : 0 < B)  : Cn yX0_reduce cX0_reduce 2 none 1 [.ref 25] h (z_eq none (z_up (z_up h 25 1 (nI (A / (Nat.gcd A B)))) 25 2 (nI (B / (Nat.gcd A B))))) := by
  have hg : 0 < Nat.gcd A B := Nat.gcd_pos_of_pos_right A hb0
  have hg2 : Nat.gcd A B ≤ B := Nat.gcd_le_right A hb0
  refine Cn.of (by decide) (Nat.le_of_ble_eq_true rfl) ?_
  refine Z.eqL (lv' := [(0, .ref 25)]) rfl ?_
  refine Z.aload_n (pc := 0) (i := 0) dX0_reduce_0 rfl rfl ?_
  refine Z.getIv (pc := 1) dX0_reduce_1 zf_X0_31 rfl rfl hA ?_
  refine Z.aload_n (pc := 4) (i := 0) dX0_reduce_4 rfl rfl ?_
  refine Z.getIv (pc := 5) dX0_reduce_5 zf_X0_52 rfl rfl hB ?_
  refine Z.callSi (pc := 8) dX0_reduce_8 (c_X0_commonDivisor A B ha hb) zm_X0_58 zs_X0_commonDivisor rfl rfl (by decide) (by decide) (Nat.le_of_ble_eq_true rfl) ?_
  refine Z.istore_n (pc := 11) (i := 1) dX0_reduce_11 rfl (by decide) rfl ?_
  refine Z.iload_n (pc := 12) (i := 1) dX0_reduce_12 rfl rfl ?_
  refine Z.iconst (pc := 13) (v := (nI 1)) dX0_reduce_13 (by decide) ?_
  refine Z.icmp_le (pc := 14) (tgt := 37) dX0_reduce_14 (by decide) (fun c14 => ?_) (fun c14 => ?_)
  · have g1 : Nat.gcd A B = 1 := by have : ¬ 1 < Nat.gcd A B := fun q => nI_nle2 q (by omega) c14; omega
    refine Z.vret (pc := 37) dX0_reduce_37 rfl ?_
    first | exact ⟨rfl, rfl⟩ | (refine ⟨rfl, ?_⟩; rw [g1, Nat.div_one, Nat.div_one, z_up_id hA, z_up_id hB])
  · refine Z.aload_n (pc := 17) (i := 0) dX0_reduce_17 rfl rfl ?_
    refine Z.dup (pc := 18) dX0_reduce_18 rfl ?_
    refine Z.getIv (pc := 19) dX0_reduce_19 zf_X0_31 rfl rfl hA ?_
    refine Z.iload_n (pc := 22) (i := 1) dX0_reduce_22 rfl rfl ?_
    refine Z.idiv (pc := 23) dX0_reduce_23 (nI_ne0 hg (by omega)) ?_
    refine Z.top (pk_div ha hg (by omega)) ?_
    refine Z.putI (pc := 24) dX0_reduce_24 zp_X0_31 rfl rfl rfl rfl ?_
    refine Z.aload_n (pc := 27) (i := 0) dX0_reduce_27 rfl rfl ?_
    refine Z.dup (pc := 28) dX0_reduce_28 rfl ?_
    refine Z.getIv (pc := 29) dX0_reduce_29 zf_X0_52 rfl rfl (show _ = nI B from hB) ?_
    refine Z.iload_n (pc := 32) (i := 1) dX0_reduce_32 rfl rfl ?_
    refine Z.idiv (pc := 33) dX0_reduce_33 (nI_ne0 hg (by omega)) ?_
    refine Z.top (pk_div hb hg (by omega)) ?_
    refine Z.putI (pc := 34) dX0_reduce_34 zp_X0_52 rfl rfl rfl rfl ?_
    refine Z.vret (pc := 37) dX0_reduce_37 rfl ?_
    first | exact ⟨rfl, rfl⟩ | (refine ⟨rfl, ?_⟩; rw [g1, Nat.div_one, Nat.div_one, z_up_id hA, z_up_id hB])
set_option maxRecDepth 100000 in
set_option maxHeartbeats 400000 in
theorem l_X0_find {h : hp} {n hr : Nat} {k s f : Nat → Int32} (hh : h.1 23 1 = nI hr) (hr8 : hr < 256) (hT : TB k s f n hr (hr + 1) (h.1 24)) (g tn : Nat) (hg : g < 8) (ht : tn ≤ 10) (hpop : 1 ≤ pop hr) : ∀ (r i : Nat) , i + r = hr + 1 → 1 ≤ i → Z yX0_find cX0_find 6 none 2 (z_eq none (chX h (pop hr - 1) tn (abN k s f n hr g tn (hr + 1)))) 26 [(0, .ref 25), (1, .ref 23), (2, .int (nI g)), (3, .int (nI tn)), (4, .int (nI (pop hr - 1))), (5, .int (nI i))] [] (z_up (z_row h 26 (rdR (wtR (pop hr - 1) tn) (h.1 26) ((pop hr - 1) + 1))) 25 1 (nI (abN k s f n hr g tn i))) := by
  have hp8 := pop8 hr8
  intro r
  induction r with
  | zero =>
    intro i hi h1
    obtain rfl : hr + 1 = i := by omega
    refine Z.iload (pc := 26) (i := 5) dX0_find_26 rfl ?_
    refine Z.aload_n (pc := 28) (i := 1) dX0_find_28 rfl rfl ?_
    refine Z.getIv (pc := 29) dX0_find_29 zf_X0_15 rfl rfl (show _ = nI hr from hh) ?_
    refine Z.icmp_gt_t (pc := 32) (tgt := 89) dX0_find_32 (by decide) (nI_lt (by omega) (by omega)) ?_
    refine Z.aload_n (pc := 89) (i := 0) dX0_find_89 rfl rfl ?_
    refine Z.bipush (pc := 90) (v := (10)) dX0_find_90 (by decide) ?_
    refine Z.iload (pc := 92) (i := 4) dX0_find_92 rfl ?_
    refine Z.callSi (pc := 94) dX0_find_94 (c_X0_power 10 _ (by omega)) zm_X0_48 zs_X0_power rfl rfl (by decide) (by decide) (Nat.le_of_ble_eq_true rfl) ?_
    refine Z.top (pwI_nI 10 _) ?_
    refine Z.putI (pc := 97) dX0_find_97 zp_X0_52 rfl rfl rfl rfl ?_
    refine Z.aload_n (pc := 100) (i := 0) dX0_find_100 rfl rfl ?_
    refine Z.callVv (pc := 101) dX0_find_101 (c_X0_reduce (abN k s f n hr g tn (hr + 1)) (10 ^ (pop hr - 1)) (by exact rfl) (by exact rfl) (Nat.lt_of_le_of_lt (abN_le hr8 hg ht (by omega)) (by decide)) (Nat.lt_of_le_of_lt (Nat.pow_le_pow_right (n := 10) (j := 7) (by decide) (by omega)) (by decide)) (Nat.pow_pos (by decide))) zm_X0_55 zv_X0_reduce rfl rfl rfl rfl (by decide) (by decide) (Nat.le_of_ble_eq_true rfl) ?_
    refine Z.vret (pc := 104) dX0_find_104 rfl ?_
    exact ⟨rfl, z_up4 _ 25 1 2 (by decide) _ _ _ _⟩
  | succ r ih =>
    intro i hi h1
    refine Z.iload (pc := 26) (i := 5) dX0_find_26 rfl ?_
    refine Z.aload_n (pc := 28) (i := 1) dX0_find_28 rfl rfl ?_
    refine Z.getIv (pc := 29) dX0_find_29 zf_X0_15 rfl rfl (show _ = nI hr from hh) ?_
    refine Z.icmp_gt_f (pc := 32) (tgt := 89) dX0_find_32 (by decide) (nI_nlt (by omega) (by omega)) ?_
    refine Z.iload (pc := 35) (i := 5) dX0_find_35 rfl ?_
    refine Z.aload_n (pc := 37) (i := 1) dX0_find_37 rfl rfl ?_
    refine Z.getR (pc := 38) dX0_find_38 zf_X0_34 rfl rfl ?_
    refine Z.alen (pc := 41) dX0_find_41 rfl (by decide) ?_
    refine Z.icmp_ge_f (pc := 42) (tgt := 89) dX0_find_42 (by decide) (nI_ge (b := 256) (by omega) (by decide)) ?_
    refine Z.aload_n (pc := 45) (i := 1) dX0_find_45 rfl rfl ?_
    refine Z.iload (pc := 46) (i := 5) dX0_find_46 rfl ?_
    refine Z.callVi (pc := 48) dX0_find_48 (c_X5_isChoice (by exact hh) i (by omega)) zm_X0_37 zv_X5_isChoice rfl rfl rfl rfl (by decide) (by decide) (Nat.le_of_ble_eq_true rfl) ?_
    refine Z.if_eq_b (pc := 51) (tgt := 83) dX0_find_51 (by decide) (fun c51 => ?_) (fun c51 => ?_)
    · have eS : abN k s f n hr g tn (i + 1) = abN k s f n hr g tn i := by show _ + cond _ _ _ = _; rw [show abB k s f n hr g i = false from by simp [abB, c51]]; rfl
      rw [← eS]
      refine Z.iinc (pc := 83) (i := 5) (v := (nI (i + 1))) dX0_find_83 rfl (by exact ii_1 i) (by decide) rfl ?_
      refine Z.goto (pc := 86) (tgt := 26) dX0_find_86 (by decide) ?_
      exact ih (i + 1) (by omega) (by omega)
    · have hd : dif i hr = 0 := chB_t c51
      refine Z.iload_n (pc := 54) (i := 2) dX0_find_54 rfl rfl ?_
      refine Z.aload_n (pc := 55) (i := 1) dX0_find_55 rfl rfl ?_
      refine Z.getR (pc := 56) dX0_find_56 zf_X0_34 rfl rfl ?_
      refine Z.iload (pc := 59) (i := 5) dX0_find_59 rfl ?_
      refine Z.iald (pc := 61) dX0_find_61 rfl (by omega) (by decide) ?_
      refine Z.top (show _ = nI (mst k s f n hr i) from hT i (by omega) hd) ?_
      refine Z.callNi (pc := 62) dX0_find_62 (c_X8_isAmong g _ (by omega) (Nat.lt_of_le_of_lt mst_le (by omega))) (Or.inr (Or.inr ⟨rfl, rfl⟩)) zs_X8_isAmong rfl rfl (by decide) (by decide) (Nat.le_of_ble_eq_true rfl) ?_
      refine Z.if_eq_b (pc := 65) (tgt := 83) dX0_find_65 (by decide) (fun c65 => ?_) (fun c65 => ?_)
      · have eS : abN k s f n hr g tn (i + 1) = abN k s f n hr g tn i := by show _ + cond _ _ _ = _; rw [show abB k s f n hr g i = false from by simp [abB, c65]]; rfl
        rw [← eS]
        refine Z.iinc (pc := 83) (i := 5) (v := (nI (i + 1))) dX0_find_83 rfl (by exact ii_1 i) (by decide) rfl ?_
        refine Z.goto (pc := 86) (tgt := 26) dX0_find_86 (by decide) ?_
        exact ih (i + 1) (by omega) (by omega)
      · have hbg : i.testBit g = true := mst_sub c65
        have hpi : 1 ≤ pop i := pop_pos (by omega) (fun q => by rw [q, Nat.zero_testBit] at hbg; cases hbg)
        have hpl : pop i ≤ pop hr := pop_sub (fun j => ch_bit hd)
        have eS : abN k s f n hr g tn i + wtN (pop hr - 1) tn (pop i - 1) = abN k s f n hr g tn (i + 1) := by show _ = _ + cond _ _ _; rw [show abB k s f n hr g i = true from by simp [abB, c51, c65]]; rfl
        refine Z.aload_n (pc := 68) (i := 0) dX0_find_68 rfl rfl ?_
        refine Z.dup (pc := 69) dX0_find_69 rfl ?_
        refine Z.getIv (pc := 70) dX0_find_70 zf_X0_31 rfl rfl (z_up_at _ _ _ _) ?_
        refine Z.aload_n (pc := 73) (i := 0) dX0_find_73 rfl rfl ?_
        refine Z.iload (pc := 74) (i := 5) dX0_find_74 rfl ?_
        refine Z.callVi (pc := 76) dX0_find_76 (c_X0_weightOf i (by omega) hpi (by omega)) zm_X0_45 zv_X0_weightOf rfl rfl rfl rfl (by decide) (by decide) (Nat.le_of_ble_eq_true rfl) ?_
        refine Z.top (show _ = nI (wtN (pop hr - 1) tn (pop i - 1)) from if_pos (show pop i - 1 < (pop hr - 1) + 1 by omega)) ?_
        refine Z.iadd (pc := 79) dX0_find_79 ?_
        refine Z.top ((nI_add _ _).trans (congrArg nI eS)) ?_
        refine Z.putI (pc := 80) dX0_find_80 zp_X0_31 rfl rfl rfl rfl ?_
        rw [z_up_up]
        refine Z.iinc (pc := 83) (i := 5) (v := (nI (i + 1))) dX0_find_83 rfl (by exact ii_1 i) (by decide) rfl ?_
        refine Z.goto (pc := 86) (tgt := 26) dX0_find_86 (by decide) ?_
        exact ih (i + 1) (by omega) (by omega)
set_option maxRecDepth 100000 in
set_option maxHeartbeats 400000 in
theorem c_X0_find {h : hp} {n hr : Nat} {k s f : Nat → Int32} (hh : h.1 23 1 = nI hr) (hr8 : hr < 256) (hT : TB k s f n hr (hr + 1) (h.1 24)) (g tn : Nat) (hg : g < 8) (ht : tn ≤ 10) (hpop : 1 ≤ pop hr)  : Cn yX0_find cX0_find 6 none 2 [.ref 25, .ref 23, .int (nI g), .int (nI tn)] h (z_eq none (chX h (pop hr - 1) tn (abN k s f n hr g tn (hr + 1)))) := by
  have hp8 := pop8 hr8
  refine Cn.of (by decide) (Nat.le_of_ble_eq_true rfl) ?_
  refine Z.eqL (lv' := [(0, .ref 25), (1, .ref 23), (2, .int (nI g)), (3, .int (nI tn))]) rfl ?_
  refine Z.aload_n (pc := 0) (i := 1) dX0_find_0 rfl rfl ?_
  refine Z.getIv (pc := 1) dX0_find_1 zf_X0_15 rfl rfl hh ?_
  refine Z.callSi (pc := 4) dX0_find_4 (c_J6_bitCount_0f7a4 hr (by omega)) zm_X0_21 zs_J6_bitCount_0f7a4 rfl rfl (by decide) (by decide) (Nat.le_of_ble_eq_true rfl) ?_
  refine Z.iconst (pc := 7) (v := (nI 1)) dX0_find_7 (by decide) ?_
  refine Z.isub (pc := 8) dX0_find_8 ?_
  refine Z.top (pk_sub hpop) ?_
  refine Z.istore (pc := 9) (i := 4) dX0_find_9 (by decide) rfl ?_
  refine Z.aload_n (pc := 11) (i := 0) dX0_find_11 rfl rfl ?_
  refine Z.iload (pc := 12) (i := 4) dX0_find_12 rfl ?_
  refine Z.iload_n (pc := 14) (i := 3) dX0_find_14 rfl rfl ?_
  refine Z.callVv (pc := 15) dX0_find_15 (c_X0_weigh _ tn (by omega) ht) zm_X0_27 zv_X0_weigh rfl rfl rfl rfl (by decide) (by decide) (Nat.le_of_ble_eq_true rfl) ?_
  refine Z.aload_n (pc := 18) (i := 0) dX0_find_18 rfl rfl ?_
  refine Z.iconst (pc := 19) (v := (nI 0)) dX0_find_19 (by decide) ?_
  refine Z.top (show nI 0 = nI (abN k s f n hr g tn 1) from by rw [ab_1]) ?_
  refine Z.putI (pc := 20) dX0_find_20 zp_X0_31 rfl rfl rfl rfl ?_
  refine Z.iconst (pc := 23) (v := (nI 1)) dX0_find_23 (by decide) ?_
  refine Z.istore (pc := 24) (i := 5) dX0_find_24 (by decide) rfl ?_
  exact l_X0_find hh hr8 hT g tn hg ht hpop hr 1 (by omega) (by omega)
end
section
theorem hiR_f {k s f : Nat → Int32} {c m r i : Nat} {acc : Int32} (h : m.testBit i = false) : hiR k s f c m (r + 1) i acc = hiR k s f c m r (i + 1) acc := by
  show (if _ then _ else _) = _
  rw [if_neg (by rw [h]; decide)]
theorem hiR_n {k s f : Nat → Int32} {c m r i a : Nat} {acc : Int32} (h : m.testBit i = true) (hs : s i = nI a) (ha : a ≤ 9) (hc : htT (k i) a (cntI k c - ctsI (k i)) = -1 ∨ frB f c i = false) : hiR k s f c m (r + 1) i acc = -1 := by
  show (if _ then _ else _) = _
  rw [if_pos h, hs, nI_clamp (by omega), if_pos hc]
theorem hiR_s {k s f : Nat → Int32} {c m r i a : Nat} {acc : Int32} (h : m.testBit i = true) (hs : s i = nI a) (ha : a ≤ 9) (hc : ¬ htT (k i) a (cntI k c - ctsI (k i)) = -1) (hf : frB f c i = true) : hiR k s f c m (r + 1) i acc = hiR k s f c m r (i + 1) (acc + htT (k i) a (cntI k c - ctsI (k i))) := by
  show (if _ then _ else _) = _
  rw [if_pos h, hs, nI_clamp (by omega), if_neg]
  rintro (q | q)
  · exact hc q
  · rw [hf] at q; cases q
theorem hoR_s {k s f : Nat → Int32} {n hr i : Nat} {t : Nat → Int32} (h : dif (i + 1) hr = 0) : noteR (hoR k s f n hr t i) (i + 1) (hiT k s f n hr (i + 1)) = hoR k s f n hr t (i + 1) := by
  show _ = (if _ then _ else _)
  rw [if_pos h]
theorem hoR_k {k s f : Nat → Int32} {n hr i : Nat} {t : Nat → Int32} (h : ¬ dif (i + 1) hr = 0) : hoR k s f n hr t i = hoR k s f n hr t (i + 1) := by
  show _ = (if _ then _ else _)
  rw [if_neg h]
def hm1 : Nat → Int32 := fun _ => -1
def hoT (k s f : Nat → Int32) (n hr : Nat) (old : Nat → Int32) : Nat → Int32 := hoR k s f n hr (rdR hm1 old 8) hr
end
section
set_option maxRecDepth 100000 in
set_option maxHeartbeats 400000 in
theorem l_X2_hintsToRise {h : hp} {n hr : Nat} {k s f : Nat → Int32} (hR : Rm h 3 n hr k s f) (m : Nat) (hm : m < 2 ^ n) : ∀ (r i : Nat) (acc : Int32), i + r = 8 → hiR k s f (m ||| gon n hr) m r i acc = hiT k s f n hr m → Z yX2_hintsToRise cX2_hintsToRise 8 (some .int) 2 (z_eq (some (.int (hiT k s f n hr m))) h) 19 [(0, .ref 3), (1, .int (nI m)), (2, .int (nI (m ||| gon n hr))), (3, .int (cntI k (m ||| gon n hr))), (4, .int acc), (5, .int (nI i))] [] h := by
  have hn8 := hR.2.2.2.1.1
  intro r
  induction r with
  | zero =>
    intro i acc hi hX
    obtain rfl : 8 = i := by omega
    refine Z.iload (pc := 19) (i := 5) dX2_hintsToRise_19 rfl ?_
    refine Z.bipush (pc := 21) (v := (nI 8)) dX2_hintsToRise_21 (by decide) ?_
    refine Z.icmp_ge_t (pc := 23) (tgt := 101) dX2_hintsToRise_23 (by decide) (nI_le (Nat.le_refl 8) (by decide)) ?_
    refine Z.iload (pc := 101) (i := 4) dX2_hintsToRise_101 rfl ?_
    refine Z.iret (pc := 103) (ty := .int) dX2_hintsToRise_103 rfl rfl ?_
    exact ⟨by rw [← hX]; rfl, rfl⟩
  | succ r ih =>
    intro i acc hi hX
    refine Z.iload (pc := 19) (i := 5) dX2_hintsToRise_19 rfl ?_
    refine Z.bipush (pc := 21) (v := (nI 8)) dX2_hintsToRise_21 (by decide) ?_
    refine Z.icmp_ge_f (pc := 23) (tgt := 101) dX2_hintsToRise_23 (by decide) (nI_ge (by omega) (by decide)) ?_
    refine Z.iload (pc := 26) (i := 5) dX2_hintsToRise_26 rfl ?_
    refine Z.iload_n (pc := 28) (i := 1) dX2_hintsToRise_28 rfl rfl ?_
    refine Z.callNi (pc := 29) dX2_hintsToRise_29 (c_X8_isAmong i m (by omega) (l31 hm hn8)) (Or.inr (Or.inl ⟨rfl, rfl⟩)) zs_X8_isAmong rfl rfl (by decide) (by decide) (Nat.le_of_ble_eq_true rfl) ?_
    refine Z.if_eq_b (pc := 32) (tgt := 95) dX2_hintsToRise_32 (by decide) (fun c32 => ?_) (fun c32 => ?_)
    · rw [hiR_f c32] at hX
      refine Z.iinc (pc := 95) (i := 5) (v := (nI (i + 1))) dX2_hintsToRise_95 rfl (by exact ii_1 i) (by decide) rfl ?_
      refine Z.goto (pc := 98) (tgt := 19) dX2_hintsToRise_98 (by decide) ?_
      refine Z.drop 6 ?_
      refine Z.drop 7 ?_
      exact ih (i + 1) _ (by omega) hX
    · have hin : i < n := tb_lt hm c32
      obtain ⟨a, ha, hsa⟩ := hR.2.2.2.1.2.2.1 i hin
      refine Z.iload_n (pc := 35) (i := 3) dX2_hintsToRise_35 rfl rfl ?_
      refine Z.aload_n (pc := 36) (i := 0) dX2_hintsToRise_36 rfl rfl ?_
      refine Z.getR (pc := 37) dX2_hintsToRise_37 zf_X2_41 rfl rfl ?_
      refine Z.iload (pc := 40) (i := 5) dX2_hintsToRise_40 rfl ?_
      refine Z.iald (pc := 42) dX2_hintsToRise_42 rfl (by omega) (by decide) ?_
      refine Z.top (show _ = k i from congrFun hR.2.2.2.2.1 i) ?_
      refine Z.callSi (pc := 43) dX2_hintsToRise_43 (c_X3_countsAs _) zm_X2_44 zs_X3_countsAs rfl rfl (by decide) (by decide) (Nat.le_of_ble_eq_true rfl) ?_
      refine Z.isub (pc := 46) dX2_hintsToRise_46 ?_
      refine Z.istore (pc := 47) (i := 6) dX2_hintsToRise_47 (by decide) rfl ?_
      refine Z.aload_n (pc := 49) (i := 0) dX2_hintsToRise_49 rfl rfl ?_
      refine Z.getR (pc := 50) dX2_hintsToRise_50 zf_X2_41 rfl rfl ?_
      refine Z.iload (pc := 53) (i := 5) dX2_hintsToRise_53 rfl ?_
      refine Z.iald (pc := 55) dX2_hintsToRise_55 rfl (by omega) (by decide) ?_
      refine Z.top (show _ = k i from congrFun hR.2.2.2.2.1 i) ?_
      refine Z.aload_n (pc := 56) (i := 0) dX2_hintsToRise_56 rfl rfl ?_
      refine Z.getR (pc := 57) dX2_hintsToRise_57 zf_X2_49 rfl rfl ?_
      refine Z.iload (pc := 60) (i := 5) dX2_hintsToRise_60 rfl ?_
      refine Z.iald (pc := 62) dX2_hintsToRise_62 rfl (by omega) (by decide) ?_
      refine Z.top ((show _ = s i from congrFun hR.2.2.2.2.2.1 i).trans hsa) ?_
      refine Z.iload (pc := 63) (i := 6) dX2_hintsToRise_63 rfl ?_
      refine Z.callSi (pc := 65) dX2_hintsToRise_65 (c_X3_hintsTill _ _ a (hR.2.2.2.1.2.1 i hin) ha) zm_X2_52 zs_X3_hintsTill rfl rfl (by decide) (by decide) (Nat.le_of_ble_eq_true rfl) ?_
      refine Z.istore (pc := 68) (i := 7) dX2_hintsToRise_68 (by decide) rfl ?_
      refine Z.iload (pc := 70) (i := 7) dX2_hintsToRise_70 rfl ?_
      refine Z.iconst (pc := 72) (v := (-1)) dX2_hintsToRise_72 (by decide) ?_
      refine Z.icmp_eq (pc := 73) (tgt := 86) dX2_hintsToRise_73 (by decide) (fun c73 => ?_) (fun c73 => ?_)
      · refine Z.iconst (pc := 86) (v := (-1)) dX2_hintsToRise_86 (by decide) ?_
        refine Z.iret (pc := 87) (ty := .int) dX2_hintsToRise_87 rfl rfl ?_
        refine ⟨?_, rfl⟩
        first | rw [← hX, hiR_n c32 hsa ha (Or.inl c73)] | rw [← hX, hiR_n c32 hsa ha (Or.inr c83)]
      · refine Z.aload_n (pc := 76) (i := 0) dX2_hintsToRise_76 rfl rfl ?_
        refine Z.iload (pc := 77) (i := 5) dX2_hintsToRise_77 rfl ?_
        refine Z.iload_n (pc := 79) (i := 2) dX2_hintsToRise_79 rfl rfl ?_
        refine Z.callVi (pc := 80) dX2_hintsToRise_80 (c_X6_hasFriendAmong (o := 3) (Or.inl rfl) hR i _ hin (or_lt hm (gon_lt n hr))) zm_X2_56 zv_X6_hasFriendAmong rfl rfl rfl rfl (by decide) (by decide) (Nat.le_of_ble_eq_true rfl) ?_
        refine Z.if_ne_b (pc := 83) (tgt := 88) dX2_hintsToRise_83 (by decide) (fun c83 => ?_) (fun c83 => ?_)
        · rw [hiR_s c32 hsa ha c73 c83] at hX
          refine Z.iload (pc := 88) (i := 4) dX2_hintsToRise_88 rfl ?_
          refine Z.iload (pc := 90) (i := 7) dX2_hintsToRise_90 rfl ?_
          refine Z.iadd (pc := 92) dX2_hintsToRise_92 ?_
          refine Z.istore (pc := 93) (i := 4) dX2_hintsToRise_93 (by decide) rfl ?_
          refine Z.iinc (pc := 95) (i := 5) (v := (nI (i + 1))) dX2_hintsToRise_95 rfl (by exact ii_1 i) (by decide) rfl ?_
          refine Z.goto (pc := 98) (tgt := 19) dX2_hintsToRise_98 (by decide) ?_
          refine Z.drop 6 ?_
          refine Z.drop 7 ?_
          exact ih (i + 1) _ (by omega) hX
        · refine Z.iconst (pc := 86) (v := (-1)) dX2_hintsToRise_86 (by decide) ?_
          refine Z.iret (pc := 87) (ty := .int) dX2_hintsToRise_87 rfl rfl ?_
          refine ⟨?_, rfl⟩
          first | rw [← hX, hiR_n c32 hsa ha (Or.inl c73)] | rw [← hX, hiR_n c32 hsa ha (Or.inr c83)]
set_option maxRecDepth 100000 in
set_option maxHeartbeats 400000 in
theorem c_X2_hintsToRise {h : hp} {n hr : Nat} {k s f : Nat → Int32} (hR : Rm h 3 n hr k s f) (m : Nat) (hm : m < 2 ^ n)  : Cn yX2_hintsToRise cX2_hintsToRise 8 (some .int) 2 [.ref 3, .int (nI m)] h (z_eq (some (.int (hiT k s f n hr m))) h) := by
  refine Cn.of (by decide) (Nat.le_of_ble_eq_true rfl) ?_
  refine Z.eqL (lv' := [(0, .ref 3), (1, .int (nI m))]) rfl ?_
  refine Z.iload_n (pc := 0) (i := 1) dX2_hintsToRise_0 rfl rfl ?_
  refine Z.aload_n (pc := 1) (i := 0) dX2_hintsToRise_1 rfl rfl ?_
  refine Z.callVi (pc := 2) dX2_hintsToRise_2 (c_X6_gone (o := 3) (Or.inl rfl) hR) zm_X2_33 zv_X6_gone rfl rfl rfl rfl (by decide) (by decide) (Nat.le_of_ble_eq_true rfl) ?_
  refine Z.ior (pc := 5) dX2_hintsToRise_5 ?_
  refine Z.top (nb_or _ _) ?_
  refine Z.istore_n (pc := 6) (i := 2) dX2_hintsToRise_6 rfl (by decide) rfl ?_
  refine Z.aload_n (pc := 7) (i := 0) dX2_hintsToRise_7 rfl rfl ?_
  refine Z.iload_n (pc := 8) (i := 2) dX2_hintsToRise_8 rfl rfl ?_
  refine Z.callVi (pc := 9) dX2_hintsToRise_9 (c_X6_countTogether (o := 3) (Or.inl rfl) hR _ (or_lt hm (gon_lt n hr))) zm_X2_37 zv_X6_countTogether rfl rfl rfl rfl (by decide) (by decide) (Nat.le_of_ble_eq_true rfl) ?_
  refine Z.istore_n (pc := 12) (i := 3) dX2_hintsToRise_12 rfl (by decide) rfl ?_
  refine Z.iconst (pc := 13) (v := (0)) dX2_hintsToRise_13 (by decide) ?_
  refine Z.istore (pc := 14) (i := 4) dX2_hintsToRise_14 (by decide) rfl ?_
  refine Z.iconst (pc := 16) (v := (nI 0)) dX2_hintsToRise_16 (by decide) ?_
  refine Z.istore (pc := 17) (i := 5) dX2_hintsToRise_17 (by decide) rfl ?_
  exact l_X2_hintsToRise hR m hm 8 0 0 rfl rfl
set_option maxRecDepth 100000 in
set_option maxHeartbeats 400000 in
theorem l_X2_noteFor {h : hp} (m : Nat) (hm : m < 2 ^ 31) (nd : Int32) (hnd : ¬ nd = -1) : ∀ (r i : Nat) , i + r = 8 → Z yX2_noteFor cX2_noteFor 4 none 1 (z_eq none (z_row h 28 (noteR (h.1 28) m nd))) 8 [(0, .ref 27), (1, .int (nI m)), (2, .int nd), (3, .int (nI i))] [] (z_row h 28 (nfR (h.1 28) m nd i)) := by
  intro r
  induction r with
  | zero =>
    intro i hi
    obtain rfl : 8 = i := by omega
    refine Z.iload_n (pc := 8) (i := 3) dX2_noteFor_8 rfl rfl ?_
    refine Z.bipush (pc := 9) (v := (nI 8)) dX2_noteFor_9 (by decide) ?_
    refine Z.icmp_ge_t (pc := 11) (tgt := 55) dX2_noteFor_11 (by decide) (nI_le (Nat.le_refl 8) (by decide)) ?_
    refine Z.vret (pc := 55) dX2_noteFor_55 rfl ?_
    exact ⟨rfl, by unfold noteR; rw [if_neg hnd]⟩
  | succ r ih =>
    intro i hi
    refine Z.iload_n (pc := 8) (i := 3) dX2_noteFor_8 rfl rfl ?_
    refine Z.bipush (pc := 9) (v := (nI 8)) dX2_noteFor_9 (by decide) ?_
    refine Z.icmp_ge_f (pc := 11) (tgt := 55) dX2_noteFor_11 (by decide) (nI_ge (by omega) (by decide)) ?_
    refine Z.iload_n (pc := 14) (i := 3) dX2_noteFor_14 rfl rfl ?_
    refine Z.iload_n (pc := 15) (i := 1) dX2_noteFor_15 rfl rfl ?_
    refine Z.callNi (pc := 16) dX2_noteFor_16 (c_X8_isAmong i m (by omega) hm) (Or.inr (Or.inl ⟨rfl, rfl⟩)) zs_X8_isAmong rfl rfl (by decide) (by decide) (Nat.le_of_ble_eq_true rfl) ?_
    refine Z.if_eq_b (pc := 19) (tgt := 49) dX2_noteFor_19 (by decide) (fun c19 => ?_) (fun c19 => ?_)
    · rw [nfR_f (fun q => by rw [c19] at q; exact absurd q.1 (by decide))]
      refine Z.iinc (pc := 49) (i := 3) (v := (nI (i + 1))) dX2_noteFor_49 rfl (by exact ii_1 i) (by decide) rfl ?_
      refine Z.goto (pc := 52) (tgt := 8) dX2_noteFor_52 (by decide) ?_
      exact ih (i + 1) (by omega)
    · refine Z.aload_n (pc := 22) (i := 0) dX2_noteFor_22 rfl rfl ?_
      refine Z.getR (pc := 23) dX2_noteFor_23 zf_X2_9 rfl rfl ?_
      refine Z.iload_n (pc := 26) (i := 3) dX2_noteFor_26 rfl rfl ?_
      refine Z.iald (pc := 27) dX2_noteFor_27 rfl (by omega) (by decide) ?_
      refine Z.top (show _ = h.1 28 i from nfR_at (h.1 28) m nd i) ?_
      refine Z.iconst (pc := 28) (v := (-1)) dX2_noteFor_28 (by decide) ?_
      refine Z.icmp_eq (pc := 29) (tgt := 42) dX2_noteFor_29 (by decide) (fun c29 => ?_) (fun c29 => ?_)
      · refine Z.aload_n (pc := 42) (i := 0) dX2_noteFor_42 rfl rfl ?_
        refine Z.getR (pc := 43) dX2_noteFor_43 zf_X2_9 rfl rfl ?_
        refine Z.iload_n (pc := 46) (i := 3) dX2_noteFor_46 rfl rfl ?_
        refine Z.iload_n (pc := 47) (i := 2) dX2_noteFor_47 rfl rfl ?_
        refine Z.iast (pc := 48) dX2_noteFor_48 rfl (by omega) (by decide) ?_
        first | rw [z_up_row, z_row_at, z_row_row, nfR_t c19 (Or.inl c29)] | rw [z_up_row, z_row_at, z_row_row, nfR_t c19 (Or.inr (nle c39))]
        refine Z.iinc (pc := 49) (i := 3) (v := (nI (i + 1))) dX2_noteFor_49 rfl (by exact ii_1 i) (by decide) rfl ?_
        refine Z.goto (pc := 52) (tgt := 8) dX2_noteFor_52 (by decide) ?_
        exact ih (i + 1) (by omega)
      · refine Z.iload_n (pc := 32) (i := 2) dX2_noteFor_32 rfl rfl ?_
        refine Z.aload_n (pc := 33) (i := 0) dX2_noteFor_33 rfl rfl ?_
        refine Z.getR (pc := 34) dX2_noteFor_34 zf_X2_9 rfl rfl ?_
        refine Z.iload_n (pc := 37) (i := 3) dX2_noteFor_37 rfl rfl ?_
        refine Z.iald (pc := 38) dX2_noteFor_38 rfl (by omega) (by decide) ?_
        refine Z.top (show _ = h.1 28 i from nfR_at (h.1 28) m nd i) ?_
        refine Z.icmp_ge (pc := 39) (tgt := 49) dX2_noteFor_39 (by decide) (fun c39 => ?_) (fun c39 => ?_)
        · rw [nfR_f (fun q => q.2.elim c29 (fun w => lt_nle w c39))]
          refine Z.iinc (pc := 49) (i := 3) (v := (nI (i + 1))) dX2_noteFor_49 rfl (by exact ii_1 i) (by decide) rfl ?_
          refine Z.goto (pc := 52) (tgt := 8) dX2_noteFor_52 (by decide) ?_
          exact ih (i + 1) (by omega)
        · refine Z.aload_n (pc := 42) (i := 0) dX2_noteFor_42 rfl rfl ?_
          refine Z.getR (pc := 43) dX2_noteFor_43 zf_X2_9 rfl rfl ?_
          refine Z.iload_n (pc := 46) (i := 3) dX2_noteFor_46 rfl rfl ?_
          refine Z.iload_n (pc := 47) (i := 2) dX2_noteFor_47 rfl rfl ?_
          refine Z.iast (pc := 48) dX2_noteFor_48 rfl (by omega) (by decide) ?_
          first | rw [z_up_row, z_row_at, z_row_row, nfR_t c19 (Or.inl c29)] | rw [z_up_row, z_row_at, z_row_row, nfR_t c19 (Or.inr (nle c39))]
          refine Z.iinc (pc := 49) (i := 3) (v := (nI (i + 1))) dX2_noteFor_49 rfl (by exact ii_1 i) (by decide) rfl ?_
          refine Z.goto (pc := 52) (tgt := 8) dX2_noteFor_52 (by decide) ?_
          exact ih (i + 1) (by omega)
set_option maxRecDepth 100000 in
set_option maxHeartbeats 400000 in
theorem c_X2_noteFor {h : hp} (m : Nat) (hm : m < 2 ^ 31) (nd : Int32)  : Cn yX2_noteFor cX2_noteFor 4 none 1 [.ref 27, .int (nI m), .int nd] h (z_eq none (z_row h 28 (noteR (h.1 28) m nd))) := by
  refine Cn.of (by decide) (Nat.le_of_ble_eq_true rfl) ?_
  refine Z.eqL (lv' := [(0, .ref 27), (1, .int (nI m)), (2, .int nd)]) rfl ?_
  refine Z.iload_n (pc := 0) (i := 2) dX2_noteFor_0 rfl rfl ?_
  refine Z.iconst (pc := 1) (v := (-1)) dX2_noteFor_1 (by decide) ?_
  refine Z.icmp_ne (pc := 2) (tgt := 6) dX2_noteFor_2 (by decide) (fun c2 => ?_) (fun c2 => ?_)
  · refine Z.iconst (pc := 6) (v := (nI 0)) dX2_noteFor_6 (by decide) ?_
    refine Z.istore_n (pc := 7) (i := 3) dX2_noteFor_7 rfl (by decide) rfl ?_
    have e := l_X2_noteFor (h := h) m hm nd c2 8 0 rfl
    rw [nfR_0, z_row_id] at e
    exact e
  · refine Z.vret (pc := 5) dX2_noteFor_5 rfl ?_
    exact ⟨rfl, by unfold noteR; rw [if_pos c2, z_row_id]⟩
set_option maxRecDepth 100000 in
set_option maxHeartbeats 400000 in
theorem l_X2_find {h : hp} {n hr : Nat} {k s f : Nat → Int32} (hR : Rm h 3 n hr k s f) : ∀ (r i : Nat) , i + r = hr → Z yX2_find cX2_find 3 none 3 (z_eq none (z_row h 28 (hoT k s f n hr (h.1 28)))) 23 [(0, .ref 27), (1, .ref 3), (2, .int (nI (i + 1)))] [] (z_row h 28 (hoR k s f n hr (rdR hm1 (h.1 28) 8) i)) := by
  have hn8 := hR.2.2.2.1.1
  have hp8 := p8 hn8
  have hlt := hR.2.2.1
  intro r
  induction r with
  | zero =>
    intro i hi
    obtain rfl : hr = i := by omega
    refine Z.iload_n (pc := 23) (i := 2) dX2_find_23 rfl rfl ?_
    refine Z.aload_n (pc := 24) (i := 1) dX2_find_24 rfl rfl ?_
    refine Z.getIv (pc := 25) dX2_find_25 zf_X2_15 rfl rfl (show _ = nI hr from hR.2.1) ?_
    refine Z.icmp_gt_t (pc := 28) (tgt := 58) dX2_find_28 (by decide) (nI_lt (by omega) (by omega)) ?_
    refine Z.vret (pc := 58) dX2_find_58 rfl ?_
    exact ⟨rfl, rfl⟩
  | succ r ih =>
    intro i hi
    refine Z.iload_n (pc := 23) (i := 2) dX2_find_23 rfl rfl ?_
    refine Z.aload_n (pc := 24) (i := 1) dX2_find_24 rfl rfl ?_
    refine Z.getIv (pc := 25) dX2_find_25 zf_X2_15 rfl rfl (show _ = nI hr from hR.2.1) ?_
    refine Z.icmp_gt_f (pc := 28) (tgt := 58) dX2_find_28 (by decide) (nI_nlt (by omega) (by omega)) ?_
    refine Z.iload_n (pc := 31) (i := 2) dX2_find_31 rfl rfl ?_
    refine Z.aload_n (pc := 32) (i := 1) dX2_find_32 rfl rfl ?_
    refine Z.getIv (pc := 33) dX2_find_33 zf_X2_15 rfl rfl (show _ = nI hr from hR.2.1) ?_
    refine Z.iconst (pc := 36) (v := (-1)) dX2_find_36 (by decide) ?_
    refine Z.ixor (pc := 37) dX2_find_37 ?_
    refine Z.iand (pc := 38) dX2_find_38 ?_
    refine Z.top (nb_dif _ _) ?_
    refine Z.if_ne (pc := 39) (tgt := 52) dX2_find_39 (by decide) (fun c39 => ?_) (fun c39 => ?_)
    · have hd : ¬ dif (i + 1) hr = 0 := fun q => c39 (by rw [q]; rfl)
      rw [hoR_k hd]
      refine Z.iinc (pc := 52) (i := 2) (v := (nI (i + 1 + 1))) dX2_find_52 rfl (by exact ii_1 (i + 1)) (by decide) rfl ?_
      refine Z.goto (pc := 55) (tgt := 23) dX2_find_55 (by decide) ?_
      exact ih (i + 1) (by omega)
    · have hd : dif (i + 1) hr = 0 := by rw [← nI_0] at c39; exact (nI_eq (Nat.lt_of_le_of_lt (dif_le _ _) (by omega)) (by decide)).mp c39
      have hi2 : i + 1 < 2 ^ n := Nat.lt_of_le_of_lt (ch_le hd) hlt
      refine Z.aload_n (pc := 42) (i := 0) dX2_find_42 rfl rfl ?_
      refine Z.iload_n (pc := 43) (i := 2) dX2_find_43 rfl rfl ?_
      refine Z.aload_n (pc := 44) (i := 1) dX2_find_44 rfl rfl ?_
      refine Z.iload_n (pc := 45) (i := 2) dX2_find_45 rfl rfl ?_
      refine Z.callSi (pc := 46) dX2_find_46 (c_X2_hintsToRise (Rm_out (r := 28) (t := hoR k s f n hr (rdR hm1 (h.1 28) 8) i) hR (by decide) (by decide) (by decide) (by decide)) _ hi2) zm_X2_21 zs_X2_hintsToRise rfl rfl (by decide) (by decide) (Nat.le_of_ble_eq_true rfl) ?_
      refine Z.callVv (pc := 49) dX2_find_49 (c_X2_noteFor _ (by omega) _) zm_X2_25 zv_X2_noteFor rfl rfl rfl rfl (by decide) (by decide) (Nat.le_of_ble_eq_true rfl) ?_
      rw [z_row_row, z_row_at, hoR_s hd]
      refine Z.iinc (pc := 52) (i := 2) (v := (nI (i + 1 + 1))) dX2_find_52 rfl (by exact ii_1 (i + 1)) (by decide) rfl ?_
      refine Z.goto (pc := 55) (tgt := 23) dX2_find_55 (by decide) ?_
      exact ih (i + 1) (by omega)
set_option maxRecDepth 100000 in
set_option maxHeartbeats 400000 in
theorem l_X2_find1 {h : hp} {n hr : Nat} {k s f : Nat → Int32} (hR : Rm h 3 n hr k s f) : ∀ (r i : Nat) , i + r = 8 → Z yX2_find cX2_find 3 none 3 (z_eq none (z_row h 28 (hoT k s f n hr (h.1 28)))) 2 [(0, .ref 27), (1, .ref 3), (2, .int (nI i))] [] (z_row h 28 (rdR hm1 (h.1 28) i)) := by
  intro r
  induction r with
  | zero =>
    intro i hi
    obtain rfl : 8 = i := by omega
    refine Z.iload_n (pc := 2) (i := 2) dX2_find_2 rfl rfl ?_
    refine Z.bipush (pc := 3) (v := (nI 8)) dX2_find_3 (by decide) ?_
    refine Z.icmp_ge_t (pc := 5) (tgt := 21) dX2_find_5 (by decide) (nI_le (Nat.le_refl 8) (by decide)) ?_
    refine Z.iconst (pc := 21) (v := (nI 1)) dX2_find_21 (by decide) ?_
    refine Z.istore_n (pc := 22) (i := 2) dX2_find_22 rfl (by decide) rfl ?_
    exact l_X2_find hR hr 0 (by omega)
  | succ r ih =>
    intro i hi
    refine Z.iload_n (pc := 2) (i := 2) dX2_find_2 rfl rfl ?_
    refine Z.bipush (pc := 3) (v := (nI 8)) dX2_find_3 (by decide) ?_
    refine Z.icmp_ge_f (pc := 5) (tgt := 21) dX2_find_5 (by decide) (nI_ge (by omega) (by decide)) ?_
    refine Z.aload_n (pc := 8) (i := 0) dX2_find_8 rfl rfl ?_
    refine Z.getR (pc := 9) dX2_find_9 zf_X2_9 rfl rfl ?_
    refine Z.iload_n (pc := 12) (i := 2) dX2_find_12 rfl rfl ?_
    refine Z.iconst (pc := 13) (v := (-1)) dX2_find_13 (by decide) ?_
    refine Z.iast (pc := 14) dX2_find_14 rfl (by omega) (by decide) ?_
    rw [z_up_row, z_row_at, z_row_row, show (-1 : Int32) = hm1 i from rfl, rdR_s hm1 (h.1 28) i]
    refine Z.iinc (pc := 15) (i := 2) (v := (nI (i + 1))) dX2_find_15 rfl (by exact ii_1 i) (by decide) rfl ?_
    refine Z.goto (pc := 18) (tgt := 2) dX2_find_18 (by decide) ?_
    exact ih (i + 1) (by omega)
set_option maxRecDepth 100000 in
set_option maxHeartbeats 400000 in
theorem c_X2_find {h : hp} {n hr : Nat} {k s f : Nat → Int32} (hR : Rm h 3 n hr k s f)  : Cn yX2_find cX2_find 3 none 3 [.ref 27, .ref 3] h (z_eq none (z_row h 28 (hoT k s f n hr (h.1 28)))) := by
  refine Cn.of (by decide) (Nat.le_of_ble_eq_true rfl) ?_
  refine Z.eqL (lv' := [(0, .ref 27), (1, .ref 3)]) rfl ?_
  refine Z.iconst (pc := 0) (v := (nI 0)) dX2_find_0 (by decide) ?_
  refine Z.istore_n (pc := 1) (i := 2) dX2_find_1 rfl (by decide) rfl ?_
  have e := l_X2_find1 hR 8 0 rfl
  rw [rdR_0, z_row_id] at e
  exact e
end
section
/-! THE STATE, as both hold it: the page (len, pg); the party (n, k, s, f, hr, fd, ho); what is seen (sz, sg, so, se); whether an image is kept; the image (ihr, ik, js, ifd, iho, (isz, isg, iso, ise)); how often a party was read. -/
abbrev zF : Type := Nat → Int32
abbrev zS : Type := (Nat × zF) × (Nat × zF × zF × zF × Nat × Nat × Nat) × (Nat × zF × zF × zF) × Bool × (Nat × zF × zF × Nat × Nat × (Nat × zF × zF × zF)) × Nat
def dZ8 (f : zF) : Prop := ∀ j, 8 ≤ j → f j = 0
def dZ6 (f : zF) : Prop := ∀ j, 6 ≤ j → f j = 0
def okE (sz : Nat) (sg so se : zF) : Prop := sz ≤ 6 ∧ dZ6 sg ∧ dZ6 so ∧ dZ6 se ∧ ∀ i, se i = 0 ∨ se i = 1
def OkS : zS → Prop
  | ((len, pg), (n, k, s, f, hr, fd, ho), (sz, sg, so, se), kept, (ihr, ik, js, ifd, iho, (isz, isg, iso, ise)), _) =>
    (len ≤ 36 ∧ ∀ p, p < len → 32 ≤ pg p ∧ pg p ≤ 126) ∧ (Rk n k s f ∧ hr < 2 ^ n ∧ fd ≤ 99 ∧ ho ≤ 999 ∧ dZ8 k ∧ dZ8 s ∧ dZ8 f) ∧ okE sz sg so se ∧ (kept = true → Rk n ik js f ∧ ihr < 2 ^ n ∧ ifd ≤ 99 ∧ iho ≤ 999 ∧ dZ8 ik ∧ dZ8 js ∧ okE isz isg iso ise)
def DP (h : hp) (len : Nat) (pg : zF) : Prop := h.1 1 1 = nI len ∧ h.1 2 = pg
def DG (h : hp) (n : Nat) (k s f : zF) (hr fd ho : Nat) : Prop := h.1 3 3 = nI n ∧ h.1 3 4 = nI hr ∧ h.1 3 5 = nI fd ∧ h.1 3 6 = nI ho ∧ h.1 4 = k ∧ h.1 5 = s ∧ h.1 6 = f
def DE (h : hp) (sz : Nat) (sg so se : zF) : Prop := h.1 7 3 = nI sz ∧ h.1 8 = sg ∧ h.1 9 = so ∧ h.1 10 = se
def DK (h : hp) (kept : Bool) (np : Nat) : Prop := h.1 0 10 = zb kept ∧ h.1 0 11 = nI np
def DI (h : hp) (kept : Bool) (n : Nat) (f : zF) (ihr : Nat) (ik js : zF) (ifd iho isz : Nat) (isg iso ise : zF) : Prop := kept = true → h.1 11 3 = nI n ∧ h.1 11 4 = nI ihr ∧ h.1 11 5 = nI ifd ∧ h.1 11 6 = nI iho ∧ h.1 12 = ik ∧ h.1 13 = js ∧ h.1 14 = f ∧ h.1 15 3 = nI isz ∧ h.1 16 = isg ∧ h.1 17 = iso ∧ h.1 18 = ise
def Dx (h : hp) : Prop := h.1 24 0 = 0 ∧ dZ8 (h.1 12) ∧ dZ8 (h.1 13) ∧ dZ8 (h.1 14) ∧ dZ8 (h.1 20) ∧ dZ8 (h.1 21) ∧ dZ8 (h.1 22) ∧ dZ6 (h.1 16) ∧ dZ6 (h.1 17) ∧ dZ6 (h.1 18)
def D (h : hp) : zS → Prop
  | ((len, pg), (n, k, s, f, hr, fd, ho), (sz, sg, so, se), kept, (ihr, ik, js, ifd, iho, (isz, isg, iso, ise)), np) =>
    DP h len pg ∧ DG h n k s f hr fd ho ∧ DE h sz sg so se ∧ DK h kept np ∧ DI h kept n f ihr ik js ifd iho isz isg iso ise ∧ Dx h
def fr30 (h h' : hp) : Prop := ∀ i, 30 ≤ i → h'.1 i = h.1 i ∧ h'.2 i = h.2 i
theorem fr_rf {h : hp} : fr30 h h := fun _ _ => ⟨rfl, rfl⟩
theorem fr_row {h0 h : hp} {j : Nat} {f : zF} (hf : fr30 h0 h) (hj : j < 30) : fr30 h0 (z_row h j f) := fun i hi => ⟨by rw [z_row_ne (by omega)]; exact (hf i hi).1, (hf i hi).2⟩
theorem fr_up {h0 h : hp} {j q : Nat} {v : Int32} (hf : fr30 h0 h) (hj : j < 30) : fr30 h0 (z_up h j q v) := fr_row hf hj
theorem fr_tr {h0 h h1 : hp} (h1' : fr30 h0 h) (h2 : fr30 h h1) : fr30 h0 h1 := fun i hi => ⟨(h2 i hi).1.trans (h1' i hi).1, (h2 i hi).2.trans (h1' i hi).2⟩
def KD (h : hp) (a : Value) (S : zS) : Option Value → hp → Prop := fun r h' => r = some a ∧ D h' S ∧ fr30 h h'
theorem DP.mv {h h' : hp} {len : Nat} {pg : zF} (hD : DP h len pg) (e1 : h'.1 1 = h.1 1) (e2 : h'.1 2 = h.1 2) : DP h' len pg := ⟨by rw [e1]; exact hD.1, by rw [e2]; exact hD.2⟩
theorem DG.mv {h h' : hp} {n : Nat} {k s f : zF} {hr fd ho : Nat} (hD : DG h n k s f hr fd ho) (e1 : h'.1 3 = h.1 3) (e2 : h'.1 4 = h.1 4) (e3 : h'.1 5 = h.1 5) (e4 : h'.1 6 = h.1 6) : DG h' n k s f hr fd ho := by
  unfold DG at hD ⊢; rw [e1, e2, e3, e4]; exact hD
theorem DE.mv {h h' : hp} {sz : Nat} {sg so se : zF} (hD : DE h sz sg so se) (e1 : h'.1 7 = h.1 7) (e2 : h'.1 8 = h.1 8) (e3 : h'.1 9 = h.1 9) (e4 : h'.1 10 = h.1 10) : DE h' sz sg so se := by
  unfold DE at hD ⊢; rw [e1, e2, e3, e4]; exact hD
theorem DK.mv {h h' : hp} {kept : Bool} {np : Nat} (hD : DK h kept np) (e1 : h'.1 0 = h.1 0) : DK h' kept np := by
  unfold DK at hD ⊢; rw [e1]; exact hD
theorem DI.mv {h h' : hp} {kept : Bool} {n : Nat} {f : zF} {ihr : Nat} {ik js : zF} {ifd iho isz : Nat} {isg iso ise : zF} (hD : DI h kept n f ihr ik js ifd iho isz isg iso ise) (e1 : h'.1 11 = h.1 11) (e2 : h'.1 12 = h.1 12) (e3 : h'.1 13 = h.1 13) (e4 : h'.1 14 = h.1 14) (e5 : h'.1 15 = h.1 15) (e6 : h'.1 16 = h.1 16) (e7 : h'.1 17 = h.1 17) (e8 : h'.1 18 = h.1 18) : DI h' kept n f ihr ik js ifd iho isz isg iso ise := by
  unfold DI at hD ⊢; rw [e1, e2, e3, e4, e5, e6, e7, e8]; exact hD
theorem Dx.mv {h h' : hp} (hD : Dx h) (e0 : h'.1 24 0 = 0) (e2 : h'.1 12 = h.1 12) (e3 : h'.1 13 = h.1 13) (e4 : h'.1 14 = h.1 14) (e6 : h'.1 16 = h.1 16) (e7 : h'.1 17 = h.1 17) (e8 : h'.1 18 = h.1 18) (z1 : dZ8 (h'.1 20)) (z2 : dZ8 (h'.1 21)) (z3 : dZ8 (h'.1 22)) : Dx h' :=
  ⟨e0, by rw [e2]; exact hD.2.1, by rw [e3]; exact hD.2.2.1, by rw [e4]; exact hD.2.2.2.1, z1, z2, z3, by rw [e6]; exact hD.2.2.2.2.2.2.2.1, by rw [e7]; exact hD.2.2.2.2.2.2.2.2.1, by rw [e8]; exact hD.2.2.2.2.2.2.2.2.2⟩
theorem DG.Rm {h : hp} {n : Nat} {k s f : zF} {hr fd ho : Nat} (hD : DG h n k s f hr fd ho) (h1 : hr < 2 ^ n) (h2 : Rk n k s f) : Rm h 3 n hr k s f := ⟨hD.1, hD.2.1, h1, h2, hD.2.2.2.2.1, hD.2.2.2.2.2.1, hD.2.2.2.2.2.2⟩
theorem cpy8 {f g : zF} (hf : dZ8 f) (hg : dZ8 g) : va_cpy f g 0 0 8 = f := by
  funext j
  unfold va_cpy
  by_cases h : j < 8
  · rw [if_pos (by omega), Nat.sub_zero, Nat.zero_add]
  · rw [if_neg (by omega), hf j (by omega), hg j (by omega)]
theorem rd6 {f g : zF} (hf : dZ6 f) (hg : dZ6 g) : rdR f g 6 = f := by
  funext j
  unfold rdR
  by_cases h : j < 6
  · rw [if_pos h]
  · rw [if_neg h, hf j (by omega), hg j (by omega)]
/-! what the calls answer -/
def hrSt (k f : zF) (n : Nat) (st : zF × Nat × Nat) : zF × Nat × Nat := (hsS st.1 st.2.1 st.2.2, hsH k st.1 f n st.2.1 st.2.2, st.2.2 - pop st.2.1)
def enI (k f : zF) (n : Nat) : Nat → Nat → zF × Nat × Nat → Int32
  | 0, _, _ => -1
  | r + 1, i, st => if st.2.1 = 0 then nI i else enI k f n r (i + 1) (hrSt k f n st)
def ntSt (k f : zF) (n : Nat) (st : zF × Nat × Nat × Nat) : zF × Nat × Nat × Nat :=
  if sdN st.2.2.2 / 65536 % 3 = 0 then ((if st.2.1.testBit (sdN (sdN st.2.2.2) / 65536 % n) = true then upd st.1 (sdN (sdN st.2.2.2) / 65536 % n) (lsI (st.1 (sdN (sdN st.2.2.2) / 65536 % n))) else st.1), st.2.1, st.2.2.1, sdN (sdN st.2.2.2))
  else ((hrSt k f n (st.1, st.2.1, st.2.2.1)).1, (hrSt k f n (st.1, st.2.1, st.2.2.1)).2.1, (hrSt k f n (st.1, st.2.1, st.2.2.1)).2.2, sdN st.2.2.2)
def itS (F : zF × Nat × Nat × Nat → zF × Nat × Nat × Nat) : Nat → zF × Nat × Nat × Nat → zF × Nat × Nat × Nat
  | 0, x => x
  | r + 1, x => itS F r (F x)
def homI (k s f : zF) (n hr g : Nat) : Int32 := hoR k s f n hr hm1 hr g
def tlI (n : Nat) (k s f : zF) (hr sz : Nat) (sg so se : zF) (g : Nat) (w : Nat) : Int32 := match w with
  | 0 => k g
  | 1 => s g
  | 2 => f g
  | 3 => zb (hr.testBit g)
  | 4 => ndsI (k g) (s g)
  | 5 => ctsI (k g)
  | 6 => nI (shF sg so se (nI g) (k g) sz)
  | 7 => askI (k g) (shF sg so se (nI g) (k g) sz)
  | _ => homI k s f n hr g
def cnI (len n : Nat) (k s f : zF) (hr fd ho sz np : Nat) (w : Nat) : Int32 := match w with
  | 0 => nI n
  | 1 => nI (pop hr)
  | 2 => nI fd
  | 3 => nI ho
  | 4 => shyI s hr
  | 5 => cntI k (gon n hr)
  | 6 => nI (pop (alo k s f n hr))
  | 7 => nI sz
  | 8 => nI len
  | _ => nI np
def hirN (k s f : zF) (n hr : Nat) : Nat := dif hr (wcg k s f n hr hr)
def oddA (k s f : zF) (n hr g tn : Nat) : Int32 := nI (abN k s f n hr g tn (hr + 1) / Nat.gcd (abN k s f n hr g tn (hr + 1)) (10 ^ (pop hr - 1)))
def oddB (k s f : zF) (n hr g tn : Nat) : Int32 := nI (10 ^ (pop hr - 1) / Nat.gcd (abN k s f n hr g tn (hr + 1)) (10 ^ (pop hr - 1)))
def mxL (h : Int64) (v : Int32) : Int64 := 31 * h + v.toInt64
def mxG (n : Nat) (k s f : zF) (hr sz : Nat) (sg so se : zF) (g : Nat) (h0 : Int64) : Nat → Int64
  | 0 => h0
  | w + 1 => mxL (mxG n k s f hr sz sg so se g h0 w) (tlI n k s f hr sz sg so se g w)
def mxA (n : Nat) (k s f : zF) (hr sz : Nat) (sg so se : zF) (h0 : Int64) : Nat → Int64
  | 0 => h0
  | g + 1 => mxG n k s f hr sz sg so se g (mxA n k s f hr sz sg so se h0 g) 9
def mxW (n : Nat) (k s f : zF) (hr fd : Nat) (h0 : Int64) : Int64 := mxL (mxL (mxL (mxL (mxL h0 (nI (mst k s f n hr hr))) (nI (lsF (riB k s f n hr) hr))) (nI (pop (hirN k s f n hr)))) (nI (hirN k s f n hr))) (enI k f n 61 0 (s, hr, fd))
def mxO (n : Nat) (k s f : zF) (hr : Nat) (h0 : Int64) : Nat → Int64
  | 0 => h0
  | g + 1 => if hr.testBit g = true then mxL (mxL (mxO n k s f hr h0 g) (oddA k s f n hr g 4)) (oddB k s f n hr g 4) else mxO n k s f hr h0 g
def mxP (pg : zF) (h0 : Int64) : Nat → Int64
  | 0 => h0
  | p + 1 => mxL (mxP pg h0 p) (pg p)
def mxC (len n : Nat) (k s f : zF) (hr fd ho sz np : Nat) (h0 : Int64) : Nat → Int64
  | 0 => h0
  | w + 1 => mxL (mxC len n k s f hr fd ho sz np h0 w) (cnI len n k s f hr fd ho sz np w)
def a_letter : zS → Int32 → Int32 × zS
  | ((len, pg), G, E, kept, I, np), c => if inR c 32 126 = false then (-102, ((len, pg), G, E, kept, I, np)) else if len = 36 then (-104, ((len, pg), G, E, kept, I, np)) else (nI (len + 1), ((len + 1, upd pg len c), G, E, kept, I, np))
def a_blank : zS → Int32 × zS
  | ((len, pg), G, E, kept, I, np) => (nI len, ((0, pg), G, E, kept, I, np))
def a_fault : zS → Int32 × zS
  | ((len, pg), R) => (nI (ffN pg len), ((len, pg), R))
def a_party : zS → Int32 × zS
  | ((len, pg), (n, k, s, f, hr, fd, ho), (sz, sg, so, se), kept, I, np) => if isP pg len = false then (-103, ((len, pg), (n, k, s, f, hr, fd, ho), (sz, sg, so, se), kept, I, np))
    else (nI ((len - 2) / 4), ((0, pg), ((len - 2) / 4, rdR (pgK pg) k ((len - 2) / 4), rdR (pgS pg) s ((len - 2) / 4), rdR (pgF pg) f ((len - 2) / 4), 2 ^ ((len - 2) / 4) - 1, (pgD pg).toNatClampNeg, 0), (0, sg, so, se), false, I, np + 1))
def gB (n : Nat) (g : Int32) : Bool := decide (0 ≤ g ∧ g < nI n)
def a_guest : zS → Int32 → Int32 → Int32 × zS
  | (P, (n, k, s, f, hr, fd, ho), (sz, sg, so, se), R), g, w => (if gB n g = false then -101 else if inR w 0 8 = false then -102 else tlI n k s f hr sz sg so se g.toNatClampNeg w.toNatClampNeg, (P, (n, k, s, f, hr, fd, ho), (sz, sg, so, se), R))
def a_as : zS → Int32 → Int32 → Int32 × zS
  | (P, (n, k, s, f, hr, fd, ho), R), g, w => (if gB n g = false then -101 else if inR w 0 4 = false then -102 else if suchB (k g.toNatClampNeg) w = true then g else -1, (P, (n, k, s, f, hr, fd, ho), R))
def riseB (n : Nat) (m : Int32) : Bool := decide (0 < m ∧ m < nI (2 ^ n))
def a_rise : zS → Int32 → Int32 × zS
  | (P, (n, k, s, f, hr, fd, ho), R), m => if riseB n m = false then (-101, (P, (n, k, s, f, hr, fd, ho), R)) else if riB k s f n hr m.toNatClampNeg = false then (-103, (P, (n, k, s, f, hr, fd, ho), R)) else (nI (pop m.toNatClampNeg), (P, (n, k, s, f, dif hr m.toNatClampNeg, fd, ho), R))
def a_hour : zS → Int32 × zS
  | (P, (n, k, s, f, hr, fd, ho), R) => if n = 0 then (-103, (P, (n, k, s, f, hr, fd, ho), R)) else if ho = 999 then (-104, (P, (n, k, s, f, hr, fd, ho), R)) else (nI (pop hr - pop (hsH k s f n hr fd)), (P, (n, k, hsS s hr fd, f, hsH k s f n hr fd, fd - pop hr, ho + 1), R))
def a_hint : zS → Int32 → Int32 × zS
  | (P, (n, k, s, f, hr, fd, ho), R), g => if gB n g = false then (-101, (P, (n, k, s, f, hr, fd, ho), R)) else if hr.testBit g.toNatClampNeg = false then (-103, (P, (n, k, s, f, hr, fd, ho), R)) else (lsI (s g.toNatClampNeg), (P, (n, k, upd s g.toNatClampNeg (lsI (s g.toNatClampNeg)), f, hr, fd, ho), R))
def a_back : zS → Int32 → Int32 × zS
  | (P, (n, k, s, f, hr, fd, ho), R), g => if gB n g = false then (-101, (P, (n, k, s, f, hr, fd, ho), R)) else if hr.testBit g.toNatClampNeg = true then (-103, (P, (n, k, s, f, hr, fd, ho), R)) else (nI (pop (hr ||| 2 ^ g.toNatClampNeg)), (P, (n, k, s, f, hr ||| 2 ^ g.toNatClampNeg, fd, ho), R))
def a_feed : zS → Int32 → Int32 × zS
  | (P, (n, k, s, f, hr, fd, ho), R), m => if inR m 1 50 = false then (-102, (P, (n, k, s, f, hr, fd, ho), R)) else if n = 0 then (-103, (P, (n, k, s, f, hr, fd, ho), R)) else if 99 < fd + m.toNatClampNeg then (-104, (P, (n, k, s, f, hr, fd, ho), R)) else (nI (fd + m.toNatClampNeg), (P, (n, k, s, f, hr, fd + m.toNatClampNeg, ho), R))
def a_turn : zS → Int32 → Int32 → Int32 → Int32 × zS
  | (P, (n, k, s, f, hr, fd, ho), R), g, w, y => if gB n g = false then (-101, (P, (n, k, s, f, hr, fd, ho), R)) else if (inR w 0 4 && inR y 0 9) = false then (-102, (P, (n, k, s, f, hr, fd, ho), R)) else (k g.toNatClampNeg, (P, (n, upd k g.toNatClampNeg w, upd s g.toNatClampNeg y, f, hr, fd, ho), R))
def a_most : zS → Int32 × zS
  | (P, (n, k, s, f, hr, fd, ho), R) => (if n = 0 then -103 else nI (mst k s f n hr hr), (P, (n, k, s, f, hr, fd, ho), R))
def a_least : zS → Int32 × zS
  | (P, (n, k, s, f, hr, fd, ho), R) => (if n = 0 then -103 else nI (lsF (riB k s f n hr) hr), (P, (n, k, s, f, hr, fd, ho), R))
def a_hire : zS → Int32 → Int32 × zS
  | (P, (n, k, s, f, hr, fd, ho), R), w => (if inR w 0 1 = false then -102 else if n = 0 then -103 else if w = 0 then nI (pop (hirN k s f n hr)) else nI (hirN k s f n hr), (P, (n, k, s, f, hr, fd, ho), R))
def a_ends : zS → Int32 × zS
  | (P, (n, k, s, f, hr, fd, ho), R) => (if n = 0 then -103 else enI k f n 61 0 (s, hr, fd), (P, (n, k, s, f, hr, fd, ho), R))
def a_odds : zS → Int32 → Int32 → Int32 → Int32 × zS
  | (P, (n, k, s, f, hr, fd, ho), R), g, t, w => (if gB n g = false then -101 else if (inR t 0 10 && inR w 0 1) = false then -102 else if hr.testBit g.toNatClampNeg = false then -103 else if w = 0 then oddA k s f n hr g.toNatClampNeg t.toNatClampNeg else oddB k s f n hr g.toNatClampNeg t.toNatClampNeg, (P, (n, k, s, f, hr, fd, ho), R))
def a_see : zS → Int32 → Int32 → Bool → Int32 × zS
  | (P, (n, k, s, f, hr, fd, ho), (sz, sg, so, se), R), g, t, b => if gB n g = false then (-101, (P, (n, k, s, f, hr, fd, ho), (sz, sg, so, se), R)) else if inR t 0 16 = false then (-102, (P, (n, k, s, f, hr, fd, ho), (sz, sg, so, se), R)) else if sz = 6 then (-104, (P, (n, k, s, f, hr, fd, ho), (sz, sg, so, se), R)) else (nI (sz + 1), (P, (n, k, s, f, hr, fd, ho), (sz + 1, upd sg sz g, upd so sz t, upd se sz (zb b)), R))
def a_forget : zS → Int32 × zS
  | (P, G, (sz, sg, so, se), R) => (nI sz, (P, G, (0, sg, so, se), R))
def ntN (k s f : zF) (n hr fd t sd : Nat) : zF × Nat × Nat × Nat := itS (ntSt k f n) t (s, hr, fd, sd)
def a_nights : zS → Int32 → Int32 → Int32 → Int32 × zS
  | (P, (n, k, s, f, hr, fd, ho), R), t, sd, w => (if (inR t 1 60 && (decide (0 ≤ sd) && inR w 0 2)) = false then -102 else if n = 0 then -103 else if w = 0 then nI (pop (gon n (ntN k s f n hr fd t.toNatClampNeg sd.toNatClampNeg).2.1)) else if w = 1 then nI (ntN k s f n hr fd t.toNatClampNeg sd.toNatClampNeg).2.2.1 else nI (ntN k s f n hr fd t.toNatClampNeg sd.toNatClampNeg).2.2.2, (P, (n, k, s, f, hr, fd, ho), R))
def a_image : zS → Int32 × zS
  | (P, (n, k, s, f, hr, fd, ho), E, kept, I, np) => if n = 0 then (-103, (P, (n, k, s, f, hr, fd, ho), E, kept, I, np)) else (nI ho, (P, (n, k, s, f, hr, fd, ho), E, true, (hr, k, s, fd, ho, E), np))
def a_restore : zS → Int32 × zS
  | (P, (n, k, s, f, hr, fd, ho), E, kept, (ihr, ik, js, ifd, iho, IE), np) => if kept = false then (-103, (P, (n, k, s, f, hr, fd, ho), E, kept, (ihr, ik, js, ifd, iho, IE), np)) else (nI iho, (P, (n, ik, js, f, ihr, ifd, iho), IE, kept, (ihr, ik, js, ifd, iho, IE), np))
def a_count : zS → Int32 → Int32 × zS
  | ((len, pg), (n, k, s, f, hr, fd, ho), (sz, E), kept, I, np), w => (if inR w 0 9 = false then -102 else cnI len n k s f hr fd ho sz np w.toNatClampNeg, ((len, pg), (n, k, s, f, hr, fd, ho), (sz, E), kept, I, np))
def a_digest : zS → Int64 × zS
  | ((len, pg), (n, k, s, f, hr, fd, ho), (sz, sg, so, se), kept, I, np) => (mxC len n k s f hr fd ho sz np (mxP pg (if n = 0 then 1277 else mxO n k s f hr (mxW n k s f hr fd (mxA n k s f hr sz sg so se 1277 n)) n) len) 10, ((len, pg), (n, k, s, f, hr, fd, ho), (sz, sg, so, se), kept, I, np))
end
