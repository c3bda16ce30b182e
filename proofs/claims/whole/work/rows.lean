section
-- ===== PART A: goes FIRST, ahead of the names: the tables' words, and 'selects' of the private methods out of them =====
/-- a private method of a class that the tables say can be made, by its rows of tables_1 -/
def lw_okq (q : MethodName × Nat) : Prop := (q.1.cls ≠ "java/lang/invoke/MethodHandle" ∧ q.1.cls ≠ "java/lang/invoke/VarHandle") ∧ Cond.instantiable q.1.cls q.2 ∈ tables_1 ∧ Cond.privateMethod q.1 ∈ tables_1 ∧ Cond.instanceMethod q.1 ∈ tables_1
theorem lw_p0 : lw_okq (⟨"WetSuitPedalsShoes", "refuse", "(I)I"⟩, 11) := ⟨⟨by decide +kernel, by decide +kernel⟩, List.mem_of_getElem? (i := 17) (by decide +kernel), List.mem_of_getElem? (i := 264) (by decide +kernel), List.mem_of_getElem? (i := 265) (by decide +kernel)⟩
theorem lw_p1 : lw_okq (⟨"WetSuitPedalsShoes$Text", "placeOfBadLetter", "()I"⟩, 2) := ⟨⟨by decide +kernel, by decide +kernel⟩, List.mem_of_getElem? (i := 99) (by decide +kernel), List.mem_of_getElem? (i := 284) (by decide +kernel), List.mem_of_getElem? (i := 285) (by decide +kernel)⟩
theorem lw_p2 : lw_okq (⟨"WetSuitPedalsShoes$Text", "placeOfBadStatement", "(LWetSuitPedalsShoes$Field;)I"⟩, 2) := ⟨⟨by decide +kernel, by decide +kernel⟩, List.mem_of_getElem? (i := 99) (by decide +kernel), List.mem_of_getElem? (i := 300) (by decide +kernel), List.mem_of_getElem? (i := 301) (by decide +kernel)⟩
theorem lw_p3 : lw_okq (⟨"WetSuitPedalsShoes$Text", "endOf", "(I)I"⟩, 2) := ⟨⟨by decide +kernel, by decide +kernel⟩, List.mem_of_getElem? (i := 99) (by decide +kernel), List.mem_of_getElem? (i := 304) (by decide +kernel), List.mem_of_getElem? (i := 305) (by decide +kernel)⟩
theorem lw_p4 : lw_okq (⟨"WetSuitPedalsShoes$Text", "isAsItMustBe", "(IIII)Z"⟩, 2) := ⟨⟨by decide +kernel, by decide +kernel⟩, List.mem_of_getElem? (i := 99) (by decide +kernel), List.mem_of_getElem? (i := 308) (by decide +kernel), List.mem_of_getElem? (i := 309) (by decide +kernel)⟩
theorem lw_p5 : lw_okq (⟨"WetSuitPedalsShoes$Text", "digit", "(I)I"⟩, 2) := ⟨⟨by decide +kernel, by decide +kernel⟩, List.mem_of_getElem? (i := 99) (by decide +kernel), List.mem_of_getElem? (i := 312) (by decide +kernel), List.mem_of_getElem? (i := 313) (by decide +kernel)⟩
theorem lw_p6 : lw_okq (⟨"WetSuitPedalsShoes$Text", "letterAt", "(I)I"⟩, 2) := ⟨⟨by decide +kernel, by decide +kernel⟩, List.mem_of_getElem? (i := 99) (by decide +kernel), List.mem_of_getElem? (i := 316) (by decide +kernel), List.mem_of_getElem? (i := 317) (by decide +kernel)⟩
theorem lw_p7 : lw_okq (⟨"WetSuitPedalsShoes$Text", "areTries", "(II)Z"⟩, 2) := ⟨⟨by decide +kernel, by decide +kernel⟩, List.mem_of_getElem? (i := 99) (by decide +kernel), List.mem_of_getElem? (i := 320) (by decide +kernel), List.mem_of_getElem? (i := 321) (by decide +kernel)⟩
theorem lw_p8 : lw_okq (⟨"WetSuitPedalsShoes$Text", "tellOne", "(LWetSuitPedalsShoes$Field;II)V"⟩, 2) := ⟨⟨by decide +kernel, by decide +kernel⟩, List.mem_of_getElem? (i := 99) (by decide +kernel), List.mem_of_getElem? (i := 328) (by decide +kernel), List.mem_of_getElem? (i := 329) (by decide +kernel)⟩
theorem lw_p9 : lw_okq (⟨"WetSuitPedalsShoes", "runPlan", "(I)I"⟩, 11) := ⟨⟨by decide +kernel, by decide +kernel⟩, List.mem_of_getElem? (i := 17) (by decide +kernel), List.mem_of_getElem? (i := 409) (by decide +kernel), List.mem_of_getElem? (i := 410) (by decide +kernel)⟩
theorem lw_p10 : lw_okq (⟨"WetSuitPedalsShoes$Course", "isBehindRide", "(I)Z"⟩, 4) := ⟨⟨by decide +kernel, by decide +kernel⟩, List.mem_of_getElem? (i := 31) (by decide +kernel), List.mem_of_getElem? (i := 437) (by decide +kernel), List.mem_of_getElem? (i := 438) (by decide +kernel)⟩
theorem lw_p11 : lw_okq (⟨"WetSuitPedalsShoes", "placeBehind", "(I)I"⟩, 11) := ⟨⟨by decide +kernel, by decide +kernel⟩, List.mem_of_getElem? (i := 17) (by decide +kernel), List.mem_of_getElem? (i := 466) (by decide +kernel), List.mem_of_getElem? (i := 467) (by decide +kernel)⟩
theorem lw_p12 : lw_okq (⟨"WetSuitPedalsShoes$Trial", "isPastIn", "(ILWetSuitPedalsShoes$Trial;)Z"⟩, 6) := ⟨⟨by decide +kernel, by decide +kernel⟩, List.mem_of_getElem? (i := 128) (by decide +kernel), List.mem_of_getElem? (i := 486) (by decide +kernel), List.mem_of_getElem? (i := 487) (by decide +kernel)⟩
theorem lw_p13 : lw_okq (⟨"WetSuitPedalsShoes$Planner", "easiestBest", "(II)I"⟩, 8) := ⟨⟨by decide +kernel, by decide +kernel⟩, List.mem_of_getElem? (i := 163) (by decide +kernel), List.mem_of_getElem? (i := 507) (by decide +kernel), List.mem_of_getElem? (i := 508) (by decide +kernel)⟩
theorem lw_p14 : lw_okq (⟨"WetSuitPedalsShoes$Planner", "secondsFrom", "(III)I"⟩, 8) := ⟨⟨by decide +kernel, by decide +kernel⟩, List.mem_of_getElem? (i := 163) (by decide +kernel), List.mem_of_getElem? (i := 511) (by decide +kernel), List.mem_of_getElem? (i := 512) (by decide +kernel)⟩
theorem lw_p15 : lw_okq (⟨"WetSuitPedalsShoes$Planner", "emptyNext", "()V"⟩, 8) := ⟨⟨by decide +kernel, by decide +kernel⟩, List.mem_of_getElem? (i := 163) (by decide +kernel), List.mem_of_getElem? (i := 543) (by decide +kernel), List.mem_of_getElem? (i := 544) (by decide +kernel)⟩
def lw_privs_1 : List (MethodName × Nat) := [(⟨"WetSuitPedalsShoes", "refuse", "(I)I"⟩, 11), (⟨"WetSuitPedalsShoes$Text", "placeOfBadLetter", "()I"⟩, 2), (⟨"WetSuitPedalsShoes$Text", "placeOfBadStatement", "(LWetSuitPedalsShoes$Field;)I"⟩, 2), (⟨"WetSuitPedalsShoes$Text", "endOf", "(I)I"⟩, 2), (⟨"WetSuitPedalsShoes$Text", "isAsItMustBe", "(IIII)Z"⟩, 2), (⟨"WetSuitPedalsShoes$Text", "digit", "(I)I"⟩, 2), (⟨"WetSuitPedalsShoes$Text", "letterAt", "(I)I"⟩, 2), (⟨"WetSuitPedalsShoes$Text", "areTries", "(II)Z"⟩, 2), (⟨"WetSuitPedalsShoes$Text", "tellOne", "(LWetSuitPedalsShoes$Field;II)V"⟩, 2), (⟨"WetSuitPedalsShoes", "runPlan", "(I)I"⟩, 11), (⟨"WetSuitPedalsShoes$Course", "isBehindRide", "(I)Z"⟩, 4), (⟨"WetSuitPedalsShoes", "placeBehind", "(I)I"⟩, 11), (⟨"WetSuitPedalsShoes$Trial", "isPastIn", "(ILWetSuitPedalsShoes$Trial;)Z"⟩, 6), (⟨"WetSuitPedalsShoes$Planner", "easiestBest", "(II)I"⟩, 8), (⟨"WetSuitPedalsShoes$Planner", "secondsFrom", "(III)I"⟩, 8), (⟨"WetSuitPedalsShoes$Planner", "emptyNext", "()V"⟩, 8)]
theorem lw_r1 : ∀ q ∈ lw_privs_1, lw_okq q := List.forall_mem_cons.mpr ⟨lw_p0, List.forall_mem_cons.mpr ⟨lw_p1, List.forall_mem_cons.mpr ⟨lw_p2, List.forall_mem_cons.mpr ⟨lw_p3, List.forall_mem_cons.mpr ⟨lw_p4, List.forall_mem_cons.mpr ⟨lw_p5, List.forall_mem_cons.mpr ⟨lw_p6, List.forall_mem_cons.mpr ⟨lw_p7, List.forall_mem_cons.mpr ⟨lw_p8, List.forall_mem_cons.mpr ⟨lw_p9, List.forall_mem_cons.mpr ⟨lw_p10, List.forall_mem_cons.mpr ⟨lw_p11, List.forall_mem_cons.mpr ⟨lw_p12, List.forall_mem_cons.mpr ⟨lw_p13, List.forall_mem_cons.mpr ⟨lw_p14, List.forall_mem_cons.mpr ⟨lw_p15, fun _ h => absurd h List.not_mem_nil⟩⟩⟩⟩⟩⟩⟩⟩⟩⟩⟩⟩⟩⟩⟩⟩
theorem lw_p16 : lw_okq (⟨"WetSuitPedalsShoes$Planner", "takeNext", "()V"⟩, 8) := ⟨⟨by decide +kernel, by decide +kernel⟩, List.mem_of_getElem? (i := 163) (by decide +kernel), List.mem_of_getElem? (i := 548) (by decide +kernel), List.mem_of_getElem? (i := 549) (by decide +kernel)⟩
theorem lw_p17 : lw_okq (⟨"WetSuitPedalsShoes$Planner", "goOnFrom", "(III)V"⟩, 8) := ⟨⟨by decide +kernel, by decide +kernel⟩, List.mem_of_getElem? (i := 163) (by decide +kernel), List.mem_of_getElem? (i := 552) (by decide +kernel), List.mem_of_getElem? (i := 553) (by decide +kernel)⟩
theorem lw_p18 : lw_okq (⟨"WetSuitPedalsShoes$Planner", "goOnFromLegs", "(IIII)V"⟩, 8) := ⟨⟨by decide +kernel, by decide +kernel⟩, List.mem_of_getElem? (i := 163) (by decide +kernel), List.mem_of_getElem? (i := 556) (by decide +kernel), List.mem_of_getElem? (i := 557) (by decide +kernel)⟩
theorem lw_p19 : lw_okq (⟨"WetSuitPedalsShoes", "finishWith", "(III)I"⟩, 11) := ⟨⟨by decide +kernel, by decide +kernel⟩, List.mem_of_getElem? (i := 17) (by decide +kernel), List.mem_of_getElem? (i := 570) (by decide +kernel), List.mem_of_getElem? (i := 571) (by decide +kernel)⟩
theorem lw_p20 : lw_okq (⟨"WetSuitPedalsShoes", "refusalOfOdds", "(IIII)I"⟩, 11) := ⟨⟨by decide +kernel, by decide +kernel⟩, List.mem_of_getElem? (i := 17) (by decide +kernel), List.mem_of_getElem? (i := 612) (by decide +kernel), List.mem_of_getElem? (i := 613) (by decide +kernel)⟩
theorem lw_p21 : lw_okq (⟨"WetSuitPedalsShoes", "finishTrying", "(III)I"⟩, 11) := ⟨⟨by decide +kernel, by decide +kernel⟩, List.mem_of_getElem? (i := 17) (by decide +kernel), List.mem_of_getElem? (i := 653) (by decide +kernel), List.mem_of_getElem? (i := 654) (by decide +kernel)⟩
theorem lw_p22 : lw_okq (⟨"WetSuitPedalsShoes", "kindsAsTold", "(I)I"⟩, 11) := ⟨⟨by decide +kernel, by decide +kernel⟩, List.mem_of_getElem? (i := 17) (by decide +kernel), List.mem_of_getElem? (i := 671) (by decide +kernel), List.mem_of_getElem? (i := 672) (by decide +kernel)⟩
theorem lw_p23 : lw_okq (⟨"WetSuitPedalsShoes", "isAsTold", "(III)Z"⟩, 11) := ⟨⟨by decide +kernel, by decide +kernel⟩, List.mem_of_getElem? (i := 17) (by decide +kernel), List.mem_of_getElem? (i := 675) (by decide +kernel), List.mem_of_getElem? (i := 676) (by decide +kernel)⟩
theorem lw_p24 : lw_okq (⟨"WetSuitPedalsShoes", "figuresAsTold", "(I)I"⟩, 11) := ⟨⟨by decide +kernel, by decide +kernel⟩, List.mem_of_getElem? (i := 17) (by decide +kernel), List.mem_of_getElem? (i := 679) (by decide +kernel), List.mem_of_getElem? (i := 680) (by decide +kernel)⟩
theorem lw_p25 : lw_okq (⟨"WetSuitPedalsShoes", "raceByLot", "()Z"⟩, 11) := ⟨⟨by decide +kernel, by decide +kernel⟩, List.mem_of_getElem? (i := 17) (by decide +kernel), List.mem_of_getElem? (i := 715) (by decide +kernel), List.mem_of_getElem? (i := 716) (by decide +kernel)⟩
theorem lw_p26 : lw_okq (⟨"WetSuitPedalsShoesModel", "no", "(I)I"⟩, 21) := ⟨⟨by decide +kernel, by decide +kernel⟩, List.mem_of_getElem? (i := 756) (by decide +kernel), List.mem_of_getElem? (i := 830) (by decide +kernel), List.mem_of_getElem? (i := 831) (by decide +kernel)⟩
theorem lw_p27 : lw_okq (⟨"WetSuitPedalsShoesModel", "readsStatement", "()Z"⟩, 21) := ⟨⟨by decide +kernel, by decide +kernel⟩, List.mem_of_getElem? (i := 756) (by decide +kernel), List.mem_of_getElem? (i := 838) (by decide +kernel), List.mem_of_getElem? (i := 839) (by decide +kernel)⟩
theorem lw_p28 : lw_okq (⟨"WetSuitPedalsShoesModel", "here", "()I"⟩, 21) := ⟨⟨by decide +kernel, by decide +kernel⟩, List.mem_of_getElem? (i := 756) (by decide +kernel), List.mem_of_getElem? (i := 842) (by decide +kernel), List.mem_of_getElem? (i := 843) (by decide +kernel)⟩
theorem lw_p29 : lw_okq (⟨"WetSuitPedalsShoesModel", "readsKind", "()Z"⟩, 21) := ⟨⟨by decide +kernel, by decide +kernel⟩, List.mem_of_getElem? (i := 756) (by decide +kernel), List.mem_of_getElem? (i := 846) (by decide +kernel), List.mem_of_getElem? (i := 847) (by decide +kernel)⟩
theorem lw_p30 : lw_okq (⟨"WetSuitPedalsShoesModel", "readsDigits", "(I)Z"⟩, 21) := ⟨⟨by decide +kernel, by decide +kernel⟩, List.mem_of_getElem? (i := 756) (by decide +kernel), List.mem_of_getElem? (i := 853) (by decide +kernel), List.mem_of_getElem? (i := 854) (by decide +kernel)⟩
theorem lw_p31 : lw_okq (⟨"WetSuitPedalsShoesModel", "readsDigit", "()Z"⟩, 21) := ⟨⟨by decide +kernel, by decide +kernel⟩, List.mem_of_getElem? (i := 756) (by decide +kernel), List.mem_of_getElem? (i := 857) (by decide +kernel), List.mem_of_getElem? (i := 858) (by decide +kernel)⟩
def lw_privs_2 : List (MethodName × Nat) := [(⟨"WetSuitPedalsShoes$Planner", "takeNext", "()V"⟩, 8), (⟨"WetSuitPedalsShoes$Planner", "goOnFrom", "(III)V"⟩, 8), (⟨"WetSuitPedalsShoes$Planner", "goOnFromLegs", "(IIII)V"⟩, 8), (⟨"WetSuitPedalsShoes", "finishWith", "(III)I"⟩, 11), (⟨"WetSuitPedalsShoes", "refusalOfOdds", "(IIII)I"⟩, 11), (⟨"WetSuitPedalsShoes", "finishTrying", "(III)I"⟩, 11), (⟨"WetSuitPedalsShoes", "kindsAsTold", "(I)I"⟩, 11), (⟨"WetSuitPedalsShoes", "isAsTold", "(III)Z"⟩, 11), (⟨"WetSuitPedalsShoes", "figuresAsTold", "(I)I"⟩, 11), (⟨"WetSuitPedalsShoes", "raceByLot", "()Z"⟩, 11), (⟨"WetSuitPedalsShoesModel", "no", "(I)I"⟩, 21), (⟨"WetSuitPedalsShoesModel", "readsStatement", "()Z"⟩, 21), (⟨"WetSuitPedalsShoesModel", "here", "()I"⟩, 21), (⟨"WetSuitPedalsShoesModel", "readsKind", "()Z"⟩, 21), (⟨"WetSuitPedalsShoesModel", "readsDigits", "(I)Z"⟩, 21), (⟨"WetSuitPedalsShoesModel", "readsDigit", "()Z"⟩, 21)]
theorem lw_r2 : ∀ q ∈ lw_privs_2, lw_okq q := List.forall_mem_cons.mpr ⟨lw_p16, List.forall_mem_cons.mpr ⟨lw_p17, List.forall_mem_cons.mpr ⟨lw_p18, List.forall_mem_cons.mpr ⟨lw_p19, List.forall_mem_cons.mpr ⟨lw_p20, List.forall_mem_cons.mpr ⟨lw_p21, List.forall_mem_cons.mpr ⟨lw_p22, List.forall_mem_cons.mpr ⟨lw_p23, List.forall_mem_cons.mpr ⟨lw_p24, List.forall_mem_cons.mpr ⟨lw_p25, List.forall_mem_cons.mpr ⟨lw_p26, List.forall_mem_cons.mpr ⟨lw_p27, List.forall_mem_cons.mpr ⟨lw_p28, List.forall_mem_cons.mpr ⟨lw_p29, List.forall_mem_cons.mpr ⟨lw_p30, List.forall_mem_cons.mpr ⟨lw_p31, fun _ h => absurd h List.not_mem_nil⟩⟩⟩⟩⟩⟩⟩⟩⟩⟩⟩⟩⟩⟩⟩⟩
theorem lw_p32 : lw_okq (⟨"WetSuitPedalsShoesModel", "readsPlan", "()Z"⟩, 21) := ⟨⟨by decide +kernel, by decide +kernel⟩, List.mem_of_getElem? (i := 756) (by decide +kernel), List.mem_of_getElem? (i := 864) (by decide +kernel), List.mem_of_getElem? (i := 865) (by decide +kernel)⟩
theorem lw_p33 : lw_okq (⟨"WetSuitPedalsShoesModel", "isDone", "(I)Z"⟩, 21) := ⟨⟨by decide +kernel, by decide +kernel⟩, List.mem_of_getElem? (i := 756) (by decide +kernel), List.mem_of_getElem? (i := 871) (by decide +kernel), List.mem_of_getElem? (i := 872) (by decide +kernel)⟩
theorem lw_p34 : lw_okq (⟨"WetSuitPedalsShoesModel", "isAthlete", "(I)Z"⟩, 21) := ⟨⟨by decide +kernel, by decide +kernel⟩, List.mem_of_getElem? (i := 756) (by decide +kernel), List.mem_of_getElem? (i := 884) (by decide +kernel), List.mem_of_getElem? (i := 885) (by decide +kernel)⟩
theorem lw_p35 : lw_okq (⟨"WetSuitPedalsShoesModel", "isSection", "(I)Z"⟩, 21) := ⟨⟨by decide +kernel, by decide +kernel⟩, List.mem_of_getElem? (i := 756) (by decide +kernel), List.mem_of_getElem? (i := 888) (by decide +kernel), List.mem_of_getElem? (i := 889) (by decide +kernel)⟩
theorem lw_p36 : lw_okq (⟨"WetSuitPedalsShoesModel", "changes", "(II[I)V"⟩, 21) := ⟨⟨by decide +kernel, by decide +kernel⟩, List.mem_of_getElem? (i := 756) (by decide +kernel), List.mem_of_getElem? (i := 892) (by decide +kernel), List.mem_of_getElem? (i := 893) (by decide +kernel)⟩
theorem lw_p37 : lw_okq (⟨"WetSuitPedalsShoesModel", "finishOf", "([II)I"⟩, 21) := ⟨⟨by decide +kernel, by decide +kernel⟩, List.mem_of_getElem? (i := 756) (by decide +kernel), List.mem_of_getElem? (i := 931) (by decide +kernel), List.mem_of_getElem? (i := 932) (by decide +kernel)⟩
theorem lw_p38 : lw_okq (⟨"WetSuitPedalsShoesModel", "goes", "([III)I"⟩, 21) := ⟨⟨by decide +kernel, by decide +kernel⟩, List.mem_of_getElem? (i := 756) (by decide +kernel), List.mem_of_getElem? (i := 935) (by decide +kernel), List.mem_of_getElem? (i := 936) (by decide +kernel)⟩
theorem lw_p39 : lw_okq (⟨"WetSuitPedalsShoesModel", "findsPlans", "(I)V"⟩, 21) := ⟨⟨by decide +kernel, by decide +kernel⟩, List.mem_of_getElem? (i := 756) (by decide +kernel), List.mem_of_getElem? (i := 973) (by decide +kernel), List.mem_of_getElem? (i := 974) (by decide +kernel)⟩
theorem lw_p40 : lw_okq (⟨"WetSuitPedalsShoesModel", "withTries", "(IIII)I"⟩, 21) := ⟨⟨by decide +kernel, by decide +kernel⟩, List.mem_of_getElem? (i := 756) (by decide +kernel), List.mem_of_getElem? (i := 978) (by decide +kernel), List.mem_of_getElem? (i := 979) (by decide +kernel)⟩
theorem lw_p41 : lw_okq (⟨"WetSuitPedalsShoesModel", "noFar", "(I)I"⟩, 21) := ⟨⟨by decide +kernel, by decide +kernel⟩, List.mem_of_getElem? (i := 756) (by decide +kernel), List.mem_of_getElem? (i := 998) (by decide +kernel), List.mem_of_getElem? (i := 999) (by decide +kernel)⟩
theorem lw_p42 : lw_okq (⟨"WetSuitPedalsShoesModel", "finishWith", "(III)I"⟩, 21) := ⟨⟨by decide +kernel, by decide +kernel⟩, List.mem_of_getElem? (i := 756) (by decide +kernel), List.mem_of_getElem? (i := 1002) (by decide +kernel), List.mem_of_getElem? (i := 1003) (by decide +kernel)⟩
theorem lw_p43 : lw_okq (⟨"WetSuitPedalsShoesModel", "noWide", "(I)J"⟩, 21) := ⟨⟨by decide +kernel, by decide +kernel⟩, List.mem_of_getElem? (i := 756) (by decide +kernel), List.mem_of_getElem? (i := 1026) (by decide +kernel), List.mem_of_getElem? (i := 1027) (by decide +kernel)⟩
theorem lw_p44 : lw_okq (⟨"WetSuitPedalsShoesModel", "ridesMany", "()I"⟩, 21) := ⟨⟨by decide +kernel, by decide +kernel⟩, List.mem_of_getElem? (i := 756) (by decide +kernel), List.mem_of_getElem? (i := 1031) (by decide +kernel), List.mem_of_getElem? (i := 1032) (by decide +kernel)⟩
theorem lw_p45 : lw_okq (⟨"WetSuitPedalsShoesModel", "finishAgainst", "(IIII)I"⟩, 21) := ⟨⟨by decide +kernel, by decide +kernel⟩, List.mem_of_getElem? (i := 756) (by decide +kernel), List.mem_of_getElem? (i := 1057) (by decide +kernel), List.mem_of_getElem? (i := 1058) (by decide +kernel)⟩
theorem lw_p46 : lw_okq (⟨"WetSuitPedalsShoesModel", "drawn", "(I)I"⟩, 21) := ⟨⟨by decide +kernel, by decide +kernel⟩, List.mem_of_getElem? (i := 756) (by decide +kernel), List.mem_of_getElem? (i := 1081) (by decide +kernel), List.mem_of_getElem? (i := 1082) (by decide +kernel)⟩
def lw_privs_3 : List (MethodName × Nat) := [(⟨"WetSuitPedalsShoesModel", "readsPlan", "()Z"⟩, 21), (⟨"WetSuitPedalsShoesModel", "isDone", "(I)Z"⟩, 21), (⟨"WetSuitPedalsShoesModel", "isAthlete", "(I)Z"⟩, 21), (⟨"WetSuitPedalsShoesModel", "isSection", "(I)Z"⟩, 21), (⟨"WetSuitPedalsShoesModel", "changes", "(II[I)V"⟩, 21), (⟨"WetSuitPedalsShoesModel", "finishOf", "([II)I"⟩, 21), (⟨"WetSuitPedalsShoesModel", "goes", "([III)I"⟩, 21), (⟨"WetSuitPedalsShoesModel", "findsPlans", "(I)V"⟩, 21), (⟨"WetSuitPedalsShoesModel", "withTries", "(IIII)I"⟩, 21), (⟨"WetSuitPedalsShoesModel", "noFar", "(I)I"⟩, 21), (⟨"WetSuitPedalsShoesModel", "finishWith", "(III)I"⟩, 21), (⟨"WetSuitPedalsShoesModel", "noWide", "(I)J"⟩, 21), (⟨"WetSuitPedalsShoesModel", "ridesMany", "()I"⟩, 21), (⟨"WetSuitPedalsShoesModel", "finishAgainst", "(IIII)I"⟩, 21), (⟨"WetSuitPedalsShoesModel", "drawn", "(I)I"⟩, 21)]
theorem lw_r3 : ∀ q ∈ lw_privs_3, lw_okq q := List.forall_mem_cons.mpr ⟨lw_p32, List.forall_mem_cons.mpr ⟨lw_p33, List.forall_mem_cons.mpr ⟨lw_p34, List.forall_mem_cons.mpr ⟨lw_p35, List.forall_mem_cons.mpr ⟨lw_p36, List.forall_mem_cons.mpr ⟨lw_p37, List.forall_mem_cons.mpr ⟨lw_p38, List.forall_mem_cons.mpr ⟨lw_p39, List.forall_mem_cons.mpr ⟨lw_p40, List.forall_mem_cons.mpr ⟨lw_p41, List.forall_mem_cons.mpr ⟨lw_p42, List.forall_mem_cons.mpr ⟨lw_p43, List.forall_mem_cons.mpr ⟨lw_p44, List.forall_mem_cons.mpr ⟨lw_p45, List.forall_mem_cons.mpr ⟨lw_p46, fun _ h => absurd h List.not_mem_nil⟩⟩⟩⟩⟩⟩⟩⟩⟩⟩⟩⟩⟩⟩⟩
def lw_privs : List (MethodName × Nat) := lw_privs_1 ++ (lw_privs_2 ++ (lw_privs_3))
def lw_tbl : List Cond := k2_sels lw_privs ++ tables_1
theorem lw_privs_ok : ∀ q ∈ lw_privs, lw_okq q := by
  show ∀ q ∈ lw_privs_1 ++ (lw_privs_2 ++ (lw_privs_3)), lw_okq q
  exact List.forall_mem_append.mpr ⟨lw_r1, List.forall_mem_append.mpr ⟨lw_r2, lw_r3⟩⟩
-- ===== end of PART A; then your names; then what follows =====
end
section
/-! ===== BEGIN printed: names, fields, word lists, decode rows ===== -/
def RX0 : String := "WetSuitPedalsShoes$Athlete"
def TX0 : u_T := fun k => match k with
  | 0 => ("WetSuitPedalsShoes$Athlete", "able", "[I", true)
  | _ => ("WetSuitPedalsShoes$Athlete", "tries", "[I", true)
def tyX0 : Nat → FieldType := fun k => match k with
  | 0 => .array .int
  | _ => .array .int
abbrev wsX00 : List Cond := u_ws RX0 TX0 2
theorem nmX0 : ∀ a, a < 2 → ∀ b, b < 2 → a ≠ b → (TX0 a).2.1 ≠ (TX0 b).2.1 := by decide +kernel
theorem tyX0_ok : ∀ k, k < 2 → parseFieldDescriptor (TX0 k).2.2.1 = some (tyX0 k) := by decide +kernel
abbrev cX0_init : ByteArray := prog_2_method_1_code
def yX0_init : MethodName := ⟨RX0, "<init>", "()V"⟩
abbrev cX0_start : ByteArray := prog_2_method_2_code
def yX0_start : MethodName := ⟨RX0, "start", "(IIII)V"⟩
abbrev cX0_become : ByteArray := prog_2_method_3_code
def yX0_become : MethodName := ⟨RX0, "become", "(LWetSuitPedalsShoes$Athlete;)V"⟩
def RX1 : String := "WetSuitPedalsShoes$Course"
def TX1 : u_T := fun k => match k with
  | 0 => ("WetSuitPedalsShoes$Course", "many", "I", false)
  | 1 => ("WetSuitPedalsShoes$Course", "kind", "[I", true)
  | 2 => ("WetSuitPedalsShoes$Course", "figure", "[I", true)
  | _ => ("WetSuitPedalsShoes$Course", "length", "[I", true)
def tyX1 : Nat → FieldType := fun k => match k with
  | 0 => .int
  | 1 => .array .int
  | 2 => .array .int
  | _ => .array .int
abbrev wsX10 : List Cond := u_ws RX1 TX1 4
theorem nmX1 : ∀ a, a < 4 → ∀ b, b < 4 → a ≠ b → (TX1 a).2.1 ≠ (TX1 b).2.1 := by decide +kernel
theorem tyX1_ok : ∀ k, k < 4 → parseFieldDescriptor (TX1 k).2.2.1 = some (tyX1 k) := by decide +kernel
abbrev cX1_init : ByteArray := prog_3_method_1_code
def yX1_init : MethodName := ⟨RX1, "<init>", "()V"⟩
abbrev cX1_has : ByteArray := prog_3_method_2_code
def yX1_has : MethodName := ⟨RX1, "has", "(I)Z"⟩
abbrev cX1_add : ByteArray := prog_3_method_3_code
def yX1_add : MethodName := ⟨RX1, "add", "(III)V"⟩
abbrev cX1_become : ByteArray := prog_3_method_4_code
def yX1_become : MethodName := ⟨RX1, "become", "(LWetSuitPedalsShoes$Course;)V"⟩
abbrev cX1_become_ : ByteArray := prog_3_method_5_code
def yX1_become_ : MethodName := ⟨RX1, "become", "(III)V"⟩
abbrev cX1_exchange : ByteArray := prog_3_method_6_code
def yX1_exchange : MethodName := ⟨RX1, "exchange", "(II)V"⟩
abbrev cX1_exchange_ : ByteArray := prog_3_method_7_code
def yX1_exchange_ : MethodName := ⟨RX1, "exchange", "([III)V"⟩
abbrev cX1_remove : ByteArray := prog_3_method_8_code
def yX1_remove : MethodName := ⟨RX1, "remove", "(I)V"⟩
abbrev cX1_untried : ByteArray := prog_3_method_9_code
def yX1_untried : MethodName := ⟨RX1, "untried", "(ILWetSuitPedalsShoes$Athlete;)I"⟩
abbrev cX1_isBehindRide : ByteArray := prog_3_method_10_code
def yX1_isBehindRide : MethodName := ⟨RX1, "isBehindRide", "(I)Z"⟩
abbrev cX1_lengths : ByteArray := prog_3_method_11_code
def yX1_lengths : MethodName := ⟨RX1, "lengths", "()I"⟩
abbrev cX1_changes : ByteArray := prog_3_method_12_code
def yX1_changes : MethodName := ⟨RX1, "changes", "()I"⟩
abbrev cX1_rides : ByteArray := prog_3_method_13_code
def yX1_rides : MethodName := ⟨RX1, "rides", "()I"⟩
def RX2 : String := "WetSuitPedalsShoes$Duel"
def TX2 : u_T := fun k => match k with
  | 0 => ("WetSuitPedalsShoes$Duel", "first", "[I", true)
  | _ => ("WetSuitPedalsShoes$Duel", "second", "[I", true)
def tyX2 : Nat → FieldType := fun k => match k with
  | 0 => .array .int
  | _ => .array .int
abbrev wsX20 : List Cond := u_ws RX2 TX2 2
theorem nmX2 : ∀ a, a < 2 → ∀ b, b < 2 → a ≠ b → (TX2 a).2.1 ≠ (TX2 b).2.1 := by decide +kernel
theorem tyX2_ok : ∀ k, k < 2 → parseFieldDescriptor (TX2 k).2.2.1 = some (tyX2 k) := by decide +kernel
abbrev cX2_init : ByteArray := prog_4_method_1_code
def yX2_init : MethodName := ⟨RX2, "<init>", "()V"⟩
abbrev cX2_settled : ByteArray := prog_4_method_2_code
def yX2_settled : MethodName := ⟨RX2, "settled", "()I"⟩
abbrev cX2_isBestAgainst : ByteArray := prog_4_method_3_code
def yX2_isBestAgainst : MethodName := ⟨RX2, "isBestAgainst", "([III)Z"⟩
abbrev cX2_hindered : ByteArray := prog_4_method_4_code
def yX2_hindered : MethodName := ⟨RX2, "hindered", "([III)I"⟩
def RX3 : String := "WetSuitPedalsShoes$Field"
def TX3 : u_T := fun k => match k with
  | 0 => ("WetSuitPedalsShoes$Field", "course", "LWetSuitPedalsShoes$Course;", true)
  | 1 => ("WetSuitPedalsShoes$Field", "athletes", "[LWetSuitPedalsShoes$Athlete;", true)
  | _ => ("WetSuitPedalsShoes$Field", "many", "I", false)
def tyX3 : Nat → FieldType := fun k => match k with
  | 0 => .object "WetSuitPedalsShoes$Course"
  | 1 => .array (.object "WetSuitPedalsShoes$Athlete")
  | _ => .int
abbrev wsX30 : List Cond := u_ws RX3 TX3 3
theorem nmX3 : ∀ a, a < 3 → ∀ b, b < 3 → a ≠ b → (TX3 a).2.1 ≠ (TX3 b).2.1 := by decide +kernel
theorem tyX3_ok : ∀ k, k < 3 → parseFieldDescriptor (TX3 k).2.2.1 = some (tyX3 k) := by decide +kernel
abbrev cX3_init : ByteArray := prog_5_method_1_code
def yX3_init : MethodName := ⟨RX3, "<init>", "()V"⟩
abbrev cX3_has : ByteArray := prog_5_method_2_code
def yX3_has : MethodName := ⟨RX3, "has", "(I)Z"⟩
abbrev cX3_add : ByteArray := prog_5_method_3_code
def yX3_add : MethodName := ⟨RX3, "add", "(IIII)V"⟩
abbrev cX3_planTries : ByteArray := prog_5_method_4_code
def yX3_planTries : MethodName := ⟨RX3, "planTries", "(III)V"⟩
abbrev cX3_become : ByteArray := prog_5_method_5_code
def yX3_become : MethodName := ⟨RX3, "become", "(LWetSuitPedalsShoes$Field;)V"⟩
abbrev cX3_allTries : ByteArray := prog_5_method_6_code
def yX3_allTries : MethodName := ⟨RX3, "allTries", "()I"⟩
def RX4 : String := "WetSuitPedalsShoes$Kinds"
def TX4 : u_T := fun k => match k with
  | _ => ("", "", "", false)
def tyX4 : Nat → FieldType := fun k => match k with
  | _ => .int
abbrev wsX40 : List Cond := u_ws RX4 TX4 0
theorem nmX4 : ∀ a, a < 0 → ∀ b, b < 0 → a ≠ b → (TX4 a).2.1 ≠ (TX4 b).2.1 := by decide +kernel
theorem tyX4_ok : ∀ k, k < 0 → parseFieldDescriptor (TX4 k).2.2.1 = some (tyX4 k) := by decide +kernel
abbrev cX4_ofLetter : ByteArray := prog_6_method_2_code
def yX4_ofLetter : MethodName := ⟨RX4, "ofLetter", "(I)I"⟩
abbrev cX4_isRide : ByteArray := prog_6_method_3_code
def yX4_isRide : MethodName := ⟨RX4, "isRide", "(I)Z"⟩
abbrev cX4_takes : ByteArray := prog_6_method_4_code
def yX4_takes : MethodName := ⟨RX4, "takes", "(I)I"⟩
abbrev cX4_secondsTrying : ByteArray := prog_6_method_5_code
def yX4_secondsTrying : MethodName := ⟨RX4, "secondsTrying", "(III)I"⟩
abbrev cX4_legsBehind : ByteArray := prog_6_method_6_code
def yX4_legsBehind : MethodName := ⟨RX4, "legsBehind", "(IIII)I"⟩
def RX5 : String := "WetSuitPedalsShoes$Lots"
def TX5 : u_T := fun k => match k with
  | 0 => ("WetSuitPedalsShoes$Lots", "seed", "I", false)
  | _ => ("WetSuitPedalsShoes$Lots", "finishOfFirst", "I", false)
def tyX5 : Nat → FieldType := fun k => match k with
  | 0 => .int
  | _ => .int
abbrev wsX50 : List Cond := u_ws RX5 TX5 2
theorem nmX5 : ∀ a, a < 2 → ∀ b, b < 2 → a ≠ b → (TX5 a).2.1 ≠ (TX5 b).2.1 := by decide +kernel
theorem tyX5_ok : ∀ k, k < 2 → parseFieldDescriptor (TX5 k).2.2.1 = some (tyX5 k) := by decide +kernel
abbrev cX5_init : ByteArray := prog_7_method_1_code
def yX5_init : MethodName := ⟨RX5, "<init>", "()V"⟩
abbrev cX5_below : ByteArray := prog_7_method_2_code
def yX5_below : MethodName := ⟨RX5, "below", "(I)I"⟩
def RX6 : String := "WetSuitPedalsShoes$Odds"
def TX6 : u_T := fun k => match k with
  | _ => ("", "", "", false)
def tyX6 : Nat → FieldType := fun k => match k with
  | _ => .int
abbrev wsX60 : List Cond := u_ws RX6 TX6 0
theorem nmX6 : ∀ a, a < 0 → ∀ b, b < 0 → a ≠ b → (TX6 a).2.1 ≠ (TX6 b).2.1 := by decide +kernel
theorem tyX6_ok : ∀ k, k < 0 → parseFieldDescriptor (TX6 k).2.2.1 = some (tyX6 k) := by decide +kernel
abbrev cX6_power : ByteArray := prog_8_method_2_code
def yX6_power : MethodName := ⟨RX6, "power", "(JI)J"⟩
abbrev cX6_waysWithin : ByteArray := prog_8_method_3_code
def yX6_waysWithin : MethodName := ⟨RX6, "waysWithin", "(IIII)J"⟩
abbrev cX6_partInLeastTerms : ByteArray := prog_8_method_4_code
def yX6_partInLeastTerms : MethodName := ⟨RX6, "partInLeastTerms", "(JJI)J"⟩
abbrev cX6_commonDivisor : ByteArray := prog_8_method_5_code
def yX6_commonDivisor : MethodName := ⟨RX6, "commonDivisor", "(JJ)J"⟩
def RX7 : String := "WetSuitPedalsShoes$Planner"
def TX7 : u_T := fun k => match k with
  | 0 => ("WetSuitPedalsShoes$Planner", "many", "I", false)
  | 1 => ("WetSuitPedalsShoes$Planner", "legsAtStart", "I", false)
  | 2 => ("WetSuitPedalsShoes$Planner", "kind", "[I", true)
  | 3 => ("WetSuitPedalsShoes$Planner", "length", "[I", true)
  | 4 => ("WetSuitPedalsShoes$Planner", "untried", "[I", true)
  | 5 => ("WetSuitPedalsShoes$Planner", "toCome", "[[I", true)
  | 6 => ("WetSuitPedalsShoes$Planner", "reached", "[I", false)
  | _ => ("WetSuitPedalsShoes$Planner", "next", "[I", false)
def tyX7 : Nat → FieldType := fun k => match k with
  | 0 => .int
  | 1 => .int
  | 2 => .array .int
  | 3 => .array .int
  | 4 => .array .int
  | 5 => .array (.array .int)
  | 6 => .array .int
  | _ => .array .int
abbrev wsX70 : List Cond := u_ws RX7 TX7 8
theorem nmX7 : ∀ a, a < 8 → ∀ b, b < 8 → a ≠ b → (TX7 a).2.1 ≠ (TX7 b).2.1 := by decide +kernel
theorem tyX7_ok : ∀ k, k < 8 → parseFieldDescriptor (TX7 k).2.2.1 = some (tyX7 k) := by decide +kernel
abbrev cX7_init : ByteArray := prog_9_method_1_code
def yX7_init : MethodName := ⟨RX7, "<init>", "()V"⟩
abbrev cX7_look : ByteArray := prog_9_method_2_code
def yX7_look : MethodName := ⟨RX7, "look", "(LWetSuitPedalsShoes$Course;LWetSuitPedalsShoes$Athlete;)V"⟩
abbrev cX7_secondsFrom : ByteArray := prog_9_method_3_code
def yX7_secondsFrom : MethodName := ⟨RX7, "secondsFrom", "(III)I"⟩
abbrev cX7_easiestBest : ByteArray := prog_9_method_4_code
def yX7_easiestBest : MethodName := ⟨RX7, "easiestBest", "(II)I"⟩
abbrev cX7_leastFinish : ByteArray := prog_9_method_5_code
def yX7_leastFinish : MethodName := ⟨RX7, "leastFinish", "()I"⟩
abbrev cX7_bestTries : ByteArray := prog_9_method_6_code
def yX7_bestTries : MethodName := ⟨RX7, "bestTries", "(I)I"⟩
abbrev cX7_fewestTries : ByteArray := prog_9_method_7_code
def yX7_fewestTries : MethodName := ⟨RX7, "fewestTries", "(I)I"⟩
abbrev cX7_emptyNext : ByteArray := prog_9_method_8_code
def yX7_emptyNext : MethodName := ⟨RX7, "emptyNext", "()V"⟩
abbrev cX7_takeNext : ByteArray := prog_9_method_9_code
def yX7_takeNext : MethodName := ⟨RX7, "takeNext", "()V"⟩
abbrev cX7_goOnFrom : ByteArray := prog_9_method_10_code
def yX7_goOnFrom : MethodName := ⟨RX7, "goOnFrom", "(III)V"⟩
abbrev cX7_goOnFromLegs : ByteArray := prog_9_method_11_code
def yX7_goOnFromLegs : MethodName := ⟨RX7, "goOnFromLegs", "(IIII)V"⟩
def RX8 : String := "WetSuitPedalsShoes$Row"
def TX8 : u_T := fun k => match k with
  | 0 => ("WetSuitPedalsShoes$Row", "many", "I", false)
  | _ => ("WetSuitPedalsShoes$Row", "numbers", "[I", true)
def tyX8 : Nat → FieldType := fun k => match k with
  | 0 => .int
  | _ => .array .int
abbrev wsX80 : List Cond := u_ws RX8 TX8 2
theorem nmX8 : ∀ a, a < 2 → ∀ b, b < 2 → a ≠ b → (TX8 a).2.1 ≠ (TX8 b).2.1 := by decide +kernel
theorem tyX8_ok : ∀ k, k < 2 → parseFieldDescriptor (TX8 k).2.2.1 = some (tyX8 k) := by decide +kernel
abbrev cX8_init : ByteArray := prog_10_method_1_code
def yX8_init : MethodName := ⟨RX8, "<init>", "()V"⟩
abbrev cX8_isFull : ByteArray := prog_10_method_2_code
def yX8_isFull : MethodName := ⟨RX8, "isFull", "()Z"⟩
abbrev cX8_put : ByteArray := prog_10_method_3_code
def yX8_put : MethodName := ⟨RX8, "put", "(I)I"⟩
abbrev cX8_forget : ByteArray := prog_10_method_4_code
def yX8_forget : MethodName := ⟨RX8, "forget", "()I"⟩
abbrev cX8_firstUnlike : ByteArray := prog_10_method_5_code
def yX8_firstUnlike : MethodName := ⟨RX8, "firstUnlike", "([II)I"⟩
def RX9 : String := "WetSuitPedalsShoes$Text"
def TX9 : u_T := fun k => match k with
  | 0 => ("WetSuitPedalsShoes$Text", "many", "I", false)
  | _ => ("WetSuitPedalsShoes$Text", "letters", "[I", true)
def tyX9 : Nat → FieldType := fun k => match k with
  | 0 => .int
  | _ => .array .int
abbrev wsX90 : List Cond := u_ws RX9 TX9 2
theorem nmX9 : ∀ a, a < 2 → ∀ b, b < 2 → a ≠ b → (TX9 a).2.1 ≠ (TX9 b).2.1 := by decide +kernel
theorem tyX9_ok : ∀ k, k < 2 → parseFieldDescriptor (TX9 k).2.2.1 = some (tyX9 k) := by decide +kernel
abbrev cX9_init : ByteArray := prog_11_method_1_code
def yX9_init : MethodName := ⟨RX9, "<init>", "()V"⟩
abbrev cX9_isFull : ByteArray := prog_11_method_2_code
def yX9_isFull : MethodName := ⟨RX9, "isFull", "()Z"⟩
abbrev cX9_put : ByteArray := prog_11_method_3_code
def yX9_put : MethodName := ⟨RX9, "put", "(I)I"⟩
abbrev cX9_forget : ByteArray := prog_11_method_4_code
def yX9_forget : MethodName := ⟨RX9, "forget", "()V"⟩
abbrev cX9_faultIn : ByteArray := prog_11_method_5_code
def yX9_faultIn : MethodName := ⟨RX9, "faultIn", "(LWetSuitPedalsShoes$Field;)I"⟩
abbrev cX9_placeOfBadLetter : ByteArray := prog_11_method_6_code
def yX9_placeOfBadLetter : MethodName := ⟨RX9, "placeOfBadLetter", "()I"⟩
abbrev cX9_leastInside : ByteArray := prog_11_method_7_code
def yX9_leastInside : MethodName := ⟨RX9, "leastInside", "(I)I"⟩
abbrev cX9_mostInside : ByteArray := prog_11_method_8_code
def yX9_mostInside : MethodName := ⟨RX9, "mostInside", "(I)I"⟩
abbrev cX9_fits : ByteArray := prog_11_method_9_code
def yX9_fits : MethodName := ⟨RX9, "fits", "(III)Z"⟩
abbrev cX9_endOf : ByteArray := prog_11_method_10_code
def yX9_endOf : MethodName := ⟨RX9, "endOf", "(I)I"⟩
abbrev cX9_digit : ByteArray := prog_11_method_11_code
def yX9_digit : MethodName := ⟨RX9, "digit", "(I)I"⟩
abbrev cX9_letterAt : ByteArray := prog_11_method_12_code
def yX9_letterAt : MethodName := ⟨RX9, "letterAt", "(I)I"⟩
abbrev cX9_placeOfBadStatement : ByteArray := prog_11_method_13_code
def yX9_placeOfBadStatement : MethodName := ⟨RX9, "placeOfBadStatement", "(LWetSuitPedalsShoes$Field;)I"⟩
abbrev cX9_isAsItMustBe : ByteArray := prog_11_method_14_code
def yX9_isAsItMustBe : MethodName := ⟨RX9, "isAsItMustBe", "(IIII)Z"⟩
abbrev cX9_areTries : ByteArray := prog_11_method_15_code
def yX9_areTries : MethodName := ⟨RX9, "areTries", "(II)Z"⟩
abbrev cX9_tellTo : ByteArray := prog_11_method_16_code
def yX9_tellTo : MethodName := ⟨RX9, "tellTo", "(LWetSuitPedalsShoes$Field;)I"⟩
abbrev cX9_tellOne : ByteArray := prog_11_method_17_code
def yX9_tellOne : MethodName := ⟨RX9, "tellOne", "(LWetSuitPedalsShoes$Field;II)V"⟩
def RX10 : String := "WetSuitPedalsShoes$Trial"
def TX10 : u_T := fun k => match k with
  | 0 => ("WetSuitPedalsShoes$Trial", "course", "LWetSuitPedalsShoes$Course;", true)
  | 1 => ("WetSuitPedalsShoes$Trial", "who", "LWetSuitPedalsShoes$Athlete;", true)
  | 2 => ("WetSuitPedalsShoes$Trial", "drinkBehind", "I", false)
  | 3 => ("WetSuitPedalsShoes$Trial", "seconds", "[I", true)
  | 4 => ("WetSuitPedalsShoes$Trial", "legs", "[I", true)
  | _ => ("WetSuitPedalsShoes$Trial", "all", "[I", true)
def tyX10 : Nat → FieldType := fun k => match k with
  | 0 => .object "WetSuitPedalsShoes$Course"
  | 1 => .object "WetSuitPedalsShoes$Athlete"
  | 2 => .int
  | 3 => .array .int
  | 4 => .array .int
  | _ => .array .int
abbrev wsX100 : List Cond := u_ws RX10 TX10 6
theorem nmX10 : ∀ a, a < 6 → ∀ b, b < 6 → a ≠ b → (TX10 a).2.1 ≠ (TX10 b).2.1 := by decide +kernel
theorem tyX10_ok : ∀ k, k < 6 → parseFieldDescriptor (TX10 k).2.2.1 = some (tyX10 k) := by decide +kernel
abbrev cX10_init : ByteArray := prog_12_method_1_code
def yX10_init : MethodName := ⟨RX10, "<init>", "()V"⟩
abbrev cX10_load : ByteArray := prog_12_method_2_code
def yX10_load : MethodName := ⟨RX10, "load", "(LWetSuitPedalsShoes$Course;LWetSuitPedalsShoes$Athlete;)V"⟩
abbrev cX10_run : ByteArray := prog_12_method_3_code
def yX10_run : MethodName := ⟨RX10, "run", "()I"⟩
abbrev cX10_rideAt : ByteArray := prog_12_method_4_code
def yX10_rideAt : MethodName := ⟨RX10, "rideAt", "(I)V"⟩
abbrev cX10_leaveOut : ByteArray := prog_12_method_5_code
def yX10_leaveOut : MethodName := ⟨RX10, "leaveOut", "(I)V"⟩
abbrev cX10_legsAtFinish : ByteArray := prog_12_method_6_code
def yX10_legsAtFinish : MethodName := ⟨RX10, "legsAtFinish", "()I"⟩
abbrev cX10_gone : ByteArray := prog_12_method_7_code
def yX10_gone : MethodName := ⟨RX10, "gone", "()I"⟩
abbrev cX10_sectionAt : ByteArray := prog_12_method_8_code
def yX10_sectionAt : MethodName := ⟨RX10, "sectionAt", "(I)I"⟩
abbrev cX10_isPastIn : ByteArray := prog_12_method_9_code
def yX10_isPastIn : MethodName := ⟨RX10, "isPastIn", "(ILWetSuitPedalsShoes$Trial;)Z"⟩
abbrev cX10_howOftenPast : ByteArray := prog_12_method_10_code
def yX10_howOftenPast : MethodName := ⟨RX10, "howOftenPast", "(LWetSuitPedalsShoes$Trial;)I"⟩
abbrev cX10_firstPast : ByteArray := prog_12_method_11_code
def yX10_firstPast : MethodName := ⟨RX10, "firstPast", "(LWetSuitPedalsShoes$Trial;)I"⟩
abbrev cX10_slowest : ByteArray := prog_12_method_12_code
def yX10_slowest : MethodName := ⟨RX10, "slowest", "()I"⟩
abbrev cX10_secondsOfChanges : ByteArray := prog_12_method_13_code
def yX10_secondsOfChanges : MethodName := ⟨RX10, "secondsOfChanges", "()I"⟩
def RX11 : String := "WetSuitPedalsShoes"
def TX11 : u_T := fun k => match k with
  | 0 => ("WetSuitPedalsShoes", "field", "LWetSuitPedalsShoes$Field;", true)
  | 1 => ("WetSuitPedalsShoes", "kept", "LWetSuitPedalsShoes$Field;", true)
  | 2 => ("WetSuitPedalsShoes", "imageTaken", "Z", false)
  | 3 => ("WetSuitPedalsShoes", "text", "LWetSuitPedalsShoes$Text;", true)
  | 4 => ("WetSuitPedalsShoes", "told", "LWetSuitPedalsShoes$Row;", true)
  | 5 => ("WetSuitPedalsShoes", "refusals", "[I", true)
  | 6 => ("WetSuitPedalsShoes", "trial", "LWetSuitPedalsShoes$Trial;", true)
  | 7 => ("WetSuitPedalsShoes", "rival", "LWetSuitPedalsShoes$Trial;", true)
  | 8 => ("WetSuitPedalsShoes", "planner", "LWetSuitPedalsShoes$Planner;", true)
  | 9 => ("WetSuitPedalsShoes", "duel", "LWetSuitPedalsShoes$Duel;", true)
  | _ => ("WetSuitPedalsShoes", "dice", "LWetSuitPedalsShoes$Lots;", true)
def tyX11 : Nat → FieldType := fun k => match k with
  | 0 => .object "WetSuitPedalsShoes$Field"
  | 1 => .object "WetSuitPedalsShoes$Field"
  | 2 => .boolean
  | 3 => .object "WetSuitPedalsShoes$Text"
  | 4 => .object "WetSuitPedalsShoes$Row"
  | 5 => .array .int
  | 6 => .object "WetSuitPedalsShoes$Trial"
  | 7 => .object "WetSuitPedalsShoes$Trial"
  | 8 => .object "WetSuitPedalsShoes$Planner"
  | 9 => .object "WetSuitPedalsShoes$Duel"
  | _ => .object "WetSuitPedalsShoes$Lots"
abbrev wsX110 : List Cond := u_ws RX11 TX11 11
theorem nmX11 : ∀ a, a < 11 → ∀ b, b < 11 → a ≠ b → (TX11 a).2.1 ≠ (TX11 b).2.1 := by decide +kernel
theorem tyX11_ok : ∀ k, k < 11 → parseFieldDescriptor (TX11 k).2.2.1 = some (tyX11 k) := by decide +kernel
abbrev cX11_init : ByteArray := prog_1_method_1_code
def yX11_init : MethodName := ⟨RX11, "<init>", "()V"⟩
abbrev cX11_letter : ByteArray := prog_1_method_2_code
def yX11_letter : MethodName := ⟨RX11, "letter", "(I)I"⟩
abbrev cX11_race : ByteArray := prog_1_method_3_code
def yX11_race : MethodName := ⟨RX11, "race", "()I"⟩
abbrev cX11_section : ByteArray := prog_1_method_4_code
def yX11_section : MethodName := ⟨RX11, "section", "(II)I"⟩
abbrev cX11_athlete : ByteArray := prog_1_method_5_code
def yX11_athlete : MethodName := ⟨RX11, "athlete", "(II)I"⟩
abbrev cX11_tries : ByteArray := prog_1_method_6_code
def yX11_tries : MethodName := ⟨RX11, "tries", "(II)I"⟩
abbrev cX11_turn : ByteArray := prog_1_method_7_code
def yX11_turn : MethodName := ⟨RX11, "turn", "(III)I"⟩
abbrev cX11_swap : ByteArray := prog_1_method_8_code
def yX11_swap : MethodName := ⟨RX11, "swap", "(II)I"⟩
abbrev cX11_skill : ByteArray := prog_1_method_9_code
def yX11_skill : MethodName := ⟨RX11, "skill", "(III)I"⟩
abbrev cX11_tryHard : ByteArray := prog_1_method_10_code
def yX11_tryHard : MethodName := ⟨RX11, "tryHard", "(III)I"⟩
abbrev cX11_by : ByteArray := prog_1_method_11_code
def yX11_by : MethodName := ⟨RX11, "by", "(III)I"⟩
abbrev cX11_finish : ByteArray := prog_1_method_12_code
def yX11_finish : MethodName := ⟨RX11, "finish", "(II)I"⟩
abbrev cX11_at : ByteArray := prog_1_method_13_code
def yX11_at : MethodName := ⟨RX11, "at", "(II)I"⟩
abbrev cX11_overtakes : ByteArray := prog_1_method_14_code
def yX11_overtakes : MethodName := ⟨RX11, "overtakes", "(III)I"⟩
abbrev cX11_bestPlan : ByteArray := prog_1_method_15_code
def yX11_bestPlan : MethodName := ⟨RX11, "bestPlan", "(II)I"⟩
abbrev cX11_hardest : ByteArray := prog_1_method_16_code
def yX11_hardest : MethodName := ⟨RX11, "hardest", "(I)I"⟩
abbrev cX11_leastTries : ByteArray := prog_1_method_17_code
def yX11_leastTries : MethodName := ⟨RX11, "leastTries", "(II)I"⟩
abbrev cX11_drink : ByteArray := prog_1_method_18_code
def yX11_drink : MethodName := ⟨RX11, "drink", "(II)I"⟩
abbrev cX11_train : ByteArray := prog_1_method_19_code
def yX11_train : MethodName := ⟨RX11, "train", "(II)I"⟩
abbrev cX11_weakest : ByteArray := prog_1_method_20_code
def yX11_weakest : MethodName := ⟨RX11, "weakest", "(I)I"⟩
abbrev cX11_meadow : ByteArray := prog_1_method_21_code
def yX11_meadow : MethodName := ⟨RX11, "meadow", "(II)I"⟩
abbrev cX11_leave : ByteArray := prog_1_method_22_code
def yX11_leave : MethodName := ⟨RX11, "leave", "(II)I"⟩
abbrev cX11_order : ByteArray := prog_1_method_23_code
def yX11_order : MethodName := ⟨RX11, "order", "(I)I"⟩
abbrev cX11_puncture : ByteArray := prog_1_method_24_code
def yX11_puncture : MethodName := ⟨RX11, "puncture", "(IIIII)J"⟩
abbrev cX11_mean : ByteArray := prog_1_method_25_code
def yX11_mean : MethodName := ⟨RX11, "mean", "(IIII)J"⟩
abbrev cX11_tube : ByteArray := prog_1_method_26_code
def yX11_tube : MethodName := ⟨RX11, "tube", "(III)I"⟩
abbrev cX11_draw : ByteArray := prog_1_method_27_code
def yX11_draw : MethodName := ⟨RX11, "draw", "(II)I"⟩
abbrev cX11_two : ByteArray := prog_1_method_28_code
def yX11_two : MethodName := ⟨RX11, "two", "(III)I"⟩
abbrev cX11_whatWas : ByteArray := prog_1_method_29_code
def yX11_whatWas : MethodName := ⟨RX11, "whatWas", "(II)I"⟩
abbrev cX11_row : ByteArray := prog_1_method_30_code
def yX11_row : MethodName := ⟨RX11, "row", "(I)I"⟩
abbrev cX11_judge : ByteArray := prog_1_method_31_code
def yX11_judge : MethodName := ⟨RX11, "judge", "(I)I"⟩
abbrev cX11_clear : ByteArray := prog_1_method_32_code
def yX11_clear : MethodName := ⟨RX11, "clear", "()I"⟩
abbrev cX11_lots : ByteArray := prog_1_method_33_code
def yX11_lots : MethodName := ⟨RX11, "lots", "(III)I"⟩
abbrev cX11_image : ByteArray := prog_1_method_34_code
def yX11_image : MethodName := ⟨RX11, "image", "()I"⟩
abbrev cX11_on : ByteArray := prog_1_method_35_code
def yX11_on : MethodName := ⟨RX11, "on", "()I"⟩
abbrev cX11_count : ByteArray := prog_1_method_36_code
def yX11_count : MethodName := ⟨RX11, "count", "(I)I"⟩
abbrev cX11_refuse : ByteArray := prog_1_method_37_code
def yX11_refuse : MethodName := ⟨RX11, "refuse", "(I)I"⟩
abbrev cX11_runPlan : ByteArray := prog_1_method_38_code
def yX11_runPlan : MethodName := ⟨RX11, "runPlan", "(I)I"⟩
abbrev cX11_finishWith : ByteArray := prog_1_method_39_code
def yX11_finishWith : MethodName := ⟨RX11, "finishWith", "(III)I"⟩
abbrev cX11_finishTrying : ByteArray := prog_1_method_40_code
def yX11_finishTrying : MethodName := ⟨RX11, "finishTrying", "(III)I"⟩
abbrev cX11_placeBehind : ByteArray := prog_1_method_41_code
def yX11_placeBehind : MethodName := ⟨RX11, "placeBehind", "(I)I"⟩
abbrev cX11_isPart : ByteArray := prog_1_method_42_code
def yX11_isPart : MethodName := ⟨RX11, "isPart", "(I)Z"⟩
abbrev cX11_refusalOfOdds : ByteArray := prog_1_method_43_code
def yX11_refusalOfOdds : MethodName := ⟨RX11, "refusalOfOdds", "(IIII)I"⟩
abbrev cX11_kindsAsTold : ByteArray := prog_1_method_44_code
def yX11_kindsAsTold : MethodName := ⟨RX11, "kindsAsTold", "(I)I"⟩
abbrev cX11_figuresAsTold : ByteArray := prog_1_method_45_code
def yX11_figuresAsTold : MethodName := ⟨RX11, "figuresAsTold", "(I)I"⟩
abbrev cX11_isAsTold : ByteArray := prog_1_method_46_code
def yX11_isAsTold : MethodName := ⟨RX11, "isAsTold", "(III)Z"⟩
abbrev cX11_raceByLot : ByteArray := prog_1_method_47_code
def yX11_raceByLot : MethodName := ⟨RX11, "raceByLot", "()Z"⟩
def RX12 : String := "WetSuitPedalsShoesModel"
def TX12 : u_T := fun k => match k with
  | 0 => ("WetSuitPedalsShoesModel", "s", "[I", true)
  | 1 => ("WetSuitPedalsShoesModel", "m", "[I", true)
  | 2 => ("WetSuitPedalsShoesModel", "image", "[I", true)
  | 3 => ("WetSuitPedalsShoesModel", "was", "[I", true)
  | 4 => ("WetSuitPedalsShoesModel", "hasImage", "Z", false)
  | 5 => ("WetSuitPedalsShoesModel", "letters", "[I", true)
  | 6 => ("WetSuitPedalsShoesModel", "row", "[I", true)
  | 7 => ("WetSuitPedalsShoesModel", "refused", "[I", true)
  | 8 => ("WetSuitPedalsShoesModel", "letterMany", "I", false)
  | 9 => ("WetSuitPedalsShoesModel", "rowMany", "I", false)
  | 10 => ("WetSuitPedalsShoesModel", "seconds", "[I", true)
  | 11 => ("WetSuitPedalsShoesModel", "legs", "[I", true)
  | 12 => ("WetSuitPedalsShoesModel", "sums", "[I", true)
  | 13 => ("WetSuitPedalsShoesModel", "place", "I", false)
  | 14 => ("WetSuitPedalsShoesModel", "numbers", "[I", true)
  | 15 => ("WetSuitPedalsShoesModel", "numbersMany", "I", false)
  | 16 => ("WetSuitPedalsShoesModel", "own", "[I", true)
  | 17 => ("WetSuitPedalsShoesModel", "fewest", "[I", true)
  | 18 => ("WetSuitPedalsShoesModel", "so", "[I", true)
  | 19 => ("WetSuitPedalsShoesModel", "then", "[I", true)
  | _ => ("WetSuitPedalsShoesModel", "seed", "I", false)
def tyX12 : Nat → FieldType := fun k => match k with
  | 0 => .array .int
  | 1 => .array .int
  | 2 => .array .int
  | 3 => .array .int
  | 4 => .boolean
  | 5 => .array .int
  | 6 => .array .int
  | 7 => .array .int
  | 8 => .int
  | 9 => .int
  | 10 => .array .int
  | 11 => .array .int
  | 12 => .array .int
  | 13 => .int
  | 14 => .array .int
  | 15 => .int
  | 16 => .array .int
  | 17 => .array .int
  | 18 => .array .int
  | 19 => .array .int
  | _ => .int
abbrev wsX120 : List Cond := u_ws RX12 TX12 21
theorem nmX12 : ∀ a, a < 21 → ∀ b, b < 21 → a ≠ b → (TX12 a).2.1 ≠ (TX12 b).2.1 := by decide +kernel
theorem tyX12_ok : ∀ k, k < 21 → parseFieldDescriptor (TX12 k).2.2.1 = some (tyX12 k) := by decide +kernel
abbrev cX12_init : ByteArray := prog_14_method_1_code
def yX12_init : MethodName := ⟨RX12, "<init>", "()V"⟩
abbrev cX12_isIn : ByteArray := prog_14_method_2_code
def yX12_isIn : MethodName := ⟨RX12, "isIn", "(III)Z"⟩
abbrev cX12_least : ByteArray := prog_14_method_3_code
def yX12_least : MethodName := ⟨RX12, "least", "(II)I"⟩
abbrev cX12_most : ByteArray := prog_14_method_4_code
def yX12_most : MethodName := ⟨RX12, "most", "(II)I"⟩
abbrev cX12_lays : ByteArray := prog_14_method_5_code
def yX12_lays : MethodName := ⟨RX12, "lays", "([I[I)V"⟩
abbrev cX12_no : ByteArray := prog_14_method_6_code
def yX12_no : MethodName := ⟨RX12, "no", "(I)I"⟩
abbrev cX12_noFar : ByteArray := prog_14_method_7_code
def yX12_noFar : MethodName := ⟨RX12, "noFar", "(I)I"⟩
abbrev cX12_noWide : ByteArray := prog_14_method_8_code
def yX12_noWide : MethodName := ⟨RX12, "noWide", "(I)J"⟩
abbrev cX12_of : ByteArray := prog_14_method_9_code
def yX12_of : MethodName := ⟨RX12, "of", "(II)I"⟩
abbrev cX12_athleteAt : ByteArray := prog_14_method_10_code
def yX12_athleteAt : MethodName := ⟨RX12, "athleteAt", "(II)I"⟩
abbrev cX12_tried : ByteArray := prog_14_method_11_code
def yX12_tried : MethodName := ⟨RX12, "tried", "(II)I"⟩
abbrev cX12_isSection : ByteArray := prog_14_method_12_code
def yX12_isSection : MethodName := ⟨RX12, "isSection", "(I)Z"⟩
abbrev cX12_isAthlete : ByteArray := prog_14_method_13_code
def yX12_isAthlete : MethodName := ⟨RX12, "isAthlete", "(I)Z"⟩
abbrev cX12_isRide : ByteArray := prog_14_method_14_code
def yX12_isRide : MethodName := ⟨RX12, "isRide", "([II)Z"⟩
abbrev cX12_takes : ByteArray := prog_14_method_15_code
def yX12_takes : MethodName := ⟨RX12, "takes", "([II)I"⟩
abbrev cX12_plain : ByteArray := prog_14_method_16_code
def yX12_plain : MethodName := ⟨RX12, "plain", "([III)I"⟩
abbrev cX12_secondsBy : ByteArray := prog_14_method_17_code
def yX12_secondsBy : MethodName := ⟨RX12, "secondsBy", "([IIIII)I"⟩
abbrev cX12_legsBehind : ByteArray := prog_14_method_18_code
def yX12_legsBehind : MethodName := ⟨RX12, "legsBehind", "([IIII)I"⟩
abbrev cX12_goes : ByteArray := prog_14_method_19_code
def yX12_goes : MethodName := ⟨RX12, "goes", "([III)I"⟩
abbrev cX12_finishOf : ByteArray := prog_14_method_20_code
def yX12_finishOf : MethodName := ⟨RX12, "finishOf", "([II)I"⟩
abbrev cX12_letter : ByteArray := prog_14_method_21_code
def yX12_letter : MethodName := ⟨RX12, "letter", "(I)I"⟩
abbrev cX12_here : ByteArray := prog_14_method_22_code
def yX12_here : MethodName := ⟨RX12, "here", "()I"⟩
abbrev cX12_readsDigit : ByteArray := prog_14_method_23_code
def yX12_readsDigit : MethodName := ⟨RX12, "readsDigit", "()Z"⟩
abbrev cX12_readsDigits : ByteArray := prog_14_method_24_code
def yX12_readsDigits : MethodName := ⟨RX12, "readsDigits", "(I)Z"⟩
abbrev cX12_kindBy : ByteArray := prog_14_method_25_code
def yX12_kindBy : MethodName := ⟨RX12, "kindBy", "(I)I"⟩
abbrev cX12_readsKind : ByteArray := prog_14_method_26_code
def yX12_readsKind : MethodName := ⟨RX12, "readsKind", "()Z"⟩
abbrev cX12_readsPlan : ByteArray := prog_14_method_27_code
def yX12_readsPlan : MethodName := ⟨RX12, "readsPlan", "()Z"⟩
abbrev cX12_readsStatement : ByteArray := prog_14_method_28_code
def yX12_readsStatement : MethodName := ⟨RX12, "readsStatement", "()Z"⟩
abbrev cX12_changes : ByteArray := prog_14_method_29_code
def yX12_changes : MethodName := ⟨RX12, "changes", "(II[I)V"⟩
abbrev cX12_isDone : ByteArray := prog_14_method_30_code
def yX12_isDone : MethodName := ⟨RX12, "isDone", "(I)Z"⟩
abbrev cX12_race : ByteArray := prog_14_method_31_code
def yX12_race : MethodName := ⟨RX12, "race", "()I"⟩
abbrev cX12_section : ByteArray := prog_14_method_32_code
def yX12_section : MethodName := ⟨RX12, "section", "(II)I"⟩
abbrev cX12_athlete : ByteArray := prog_14_method_33_code
def yX12_athlete : MethodName := ⟨RX12, "athlete", "(II)I"⟩
abbrev cX12_tries : ByteArray := prog_14_method_34_code
def yX12_tries : MethodName := ⟨RX12, "tries", "(II)I"⟩
abbrev cX12_turn : ByteArray := prog_14_method_35_code
def yX12_turn : MethodName := ⟨RX12, "turn", "(III)I"⟩
abbrev cX12_swap : ByteArray := prog_14_method_36_code
def yX12_swap : MethodName := ⟨RX12, "swap", "(II)I"⟩
abbrev cX12_skill : ByteArray := prog_14_method_37_code
def yX12_skill : MethodName := ⟨RX12, "skill", "(III)I"⟩
abbrev cX12_tryHard : ByteArray := prog_14_method_38_code
def yX12_tryHard : MethodName := ⟨RX12, "tryHard", "(III)I"⟩
abbrev cX12_by : ByteArray := prog_14_method_39_code
def yX12_by : MethodName := ⟨RX12, "by", "(III)I"⟩
abbrev cX12_finish : ByteArray := prog_14_method_40_code
def yX12_finish : MethodName := ⟨RX12, "finish", "(II)I"⟩
abbrev cX12_at : ByteArray := prog_14_method_41_code
def yX12_at : MethodName := ⟨RX12, "at", "(II)I"⟩
abbrev cX12_overtakes : ByteArray := prog_14_method_42_code
def yX12_overtakes : MethodName := ⟨RX12, "overtakes", "(III)I"⟩
abbrev cX12_findsPlans : ByteArray := prog_14_method_43_code
def yX12_findsPlans : MethodName := ⟨RX12, "findsPlans", "(I)V"⟩
abbrev cX12_withTries : ByteArray := prog_14_method_44_code
def yX12_withTries : MethodName := ⟨RX12, "withTries", "(IIII)I"⟩
abbrev cX12_bestPlan : ByteArray := prog_14_method_45_code
def yX12_bestPlan : MethodName := ⟨RX12, "bestPlan", "(II)I"⟩
abbrev cX12_hardest : ByteArray := prog_14_method_46_code
def yX12_hardest : MethodName := ⟨RX12, "hardest", "(I)I"⟩
abbrev cX12_leastTries : ByteArray := prog_14_method_47_code
def yX12_leastTries : MethodName := ⟨RX12, "leastTries", "(II)I"⟩
abbrev cX12_drink : ByteArray := prog_14_method_48_code
def yX12_drink : MethodName := ⟨RX12, "drink", "(II)I"⟩
abbrev cX12_finishWith : ByteArray := prog_14_method_49_code
def yX12_finishWith : MethodName := ⟨RX12, "finishWith", "(III)I"⟩
abbrev cX12_train : ByteArray := prog_14_method_50_code
def yX12_train : MethodName := ⟨RX12, "train", "(II)I"⟩
abbrev cX12_weakest : ByteArray := prog_14_method_51_code
def yX12_weakest : MethodName := ⟨RX12, "weakest", "(I)I"⟩
abbrev cX12_meadow : ByteArray := prog_14_method_52_code
def yX12_meadow : MethodName := ⟨RX12, "meadow", "(II)I"⟩
abbrev cX12_leave : ByteArray := prog_14_method_53_code
def yX12_leave : MethodName := ⟨RX12, "leave", "(II)I"⟩
abbrev cX12_order : ByteArray := prog_14_method_54_code
def yX12_order : MethodName := ⟨RX12, "order", "(I)I"⟩
abbrev cX12_ridesMany : ByteArray := prog_14_method_55_code
def yX12_ridesMany : MethodName := ⟨RX12, "ridesMany", "()I"⟩
abbrev cX12_gcd : ByteArray := prog_14_method_56_code
def yX12_gcd : MethodName := ⟨RX12, "gcd", "(JJ)J"⟩
abbrev cX12_partOf : ByteArray := prog_14_method_57_code
def yX12_partOf : MethodName := ⟨RX12, "partOf", "(JJI)J"⟩
abbrev cX12_puncture : ByteArray := prog_14_method_58_code
def yX12_puncture : MethodName := ⟨RX12, "puncture", "(IIIII)J"⟩
abbrev cX12_mean : ByteArray := prog_14_method_59_code
def yX12_mean : MethodName := ⟨RX12, "mean", "(IIII)J"⟩
abbrev cX12_tube : ByteArray := prog_14_method_60_code
def yX12_tube : MethodName := ⟨RX12, "tube", "(III)I"⟩
abbrev cX12_draw : ByteArray := prog_14_method_61_code
def yX12_draw : MethodName := ⟨RX12, "draw", "(II)I"⟩
abbrev cX12_finishAgainst : ByteArray := prog_14_method_62_code
def yX12_finishAgainst : MethodName := ⟨RX12, "finishAgainst", "(IIII)I"⟩
abbrev cX12_two : ByteArray := prog_14_method_63_code
def yX12_two : MethodName := ⟨RX12, "two", "(III)I"⟩
abbrev cX12_whatWas : ByteArray := prog_14_method_64_code
def yX12_whatWas : MethodName := ⟨RX12, "whatWas", "(II)I"⟩
abbrev cX12_row : ByteArray := prog_14_method_65_code
def yX12_row : MethodName := ⟨RX12, "row", "(I)I"⟩
abbrev cX12_judge : ByteArray := prog_14_method_66_code
def yX12_judge : MethodName := ⟨RX12, "judge", "(I)I"⟩
abbrev cX12_clear : ByteArray := prog_14_method_67_code
def yX12_clear : MethodName := ⟨RX12, "clear", "()I"⟩
abbrev cX12_drawn : ByteArray := prog_14_method_68_code
def yX12_drawn : MethodName := ⟨RX12, "drawn", "(I)I"⟩
abbrev cX12_lots : ByteArray := prog_14_method_69_code
def yX12_lots : MethodName := ⟨RX12, "lots", "(III)I"⟩
abbrev cX12_image : ByteArray := prog_14_method_70_code
def yX12_image : MethodName := ⟨RX12, "image", "()I"⟩
abbrev cX12_on : ByteArray := prog_14_method_71_code
def yX12_on : MethodName := ⟨RX12, "on", "()I"⟩
abbrev cX12_count : ByteArray := prog_14_method_72_code
def yX12_count : MethodName := ⟨RX12, "count", "(I)I"⟩
def RJ9 : String := "java/lang/Math"
def TJ9 : u_T := fun k => match k with
  | _ => ("", "", "", false)
def tyJ9 : Nat → FieldType := fun k => match k with
  | _ => .int
abbrev wsJ90 : List Cond := u_ws RJ9 TJ9 0
theorem nmJ9 : ∀ a, a < 0 → ∀ b, b < 0 → a ≠ b → (TJ9 a).2.1 ≠ (TJ9 b).2.1 := by decide +kernel
theorem tyJ9_ok : ∀ k, k < 0 → parseFieldDescriptor (TJ9 k).2.2.1 = some (tyJ9 k) := by decide +kernel
abbrev cJ9_max_7cf53 : ByteArray := prog_15_method_65_code
def yJ9_max_7cf53 : MethodName := ⟨RJ9, "max", "(II)I"⟩
abbrev cJ9_min_7cf53 : ByteArray := prog_15_method_69_code
def yJ9_min_7cf53 : MethodName := ⟨RJ9, "min", "(II)I"⟩
def RJ10 : String := "java/lang/System"
def TJ10 : u_T := fun k => match k with
  | _ => ("", "", "", false)
def tyJ10 : Nat → FieldType := fun k => match k with
  | _ => .int
abbrev wsJ100 : List Cond := u_ws RJ10 TJ10 0
theorem nmJ10 : ∀ a, a < 0 → ∀ b, b < 0 → a ≠ b → (TJ10 a).2.1 ≠ (TJ10 b).2.1 := by decide +kernel
theorem tyJ10_ok : ∀ k, k < 0 → parseFieldDescriptor (TJ10 k).2.2.1 = some (tyJ10 k) := by decide +kernel
def RL : String := "WetSuitPedalsShoesLaw"
abbrev cL_law : ByteArray := code
def wsJ9_max_7cf53 : List Cond := .code yJ9_max_7cf53 cJ9_max_7cf53 2 (some .int) :: ([])
def wsJ9_min_7cf53 : List Cond := .code yJ9_min_7cf53 cJ9_min_7cf53 2 (some .int) :: ([])
abbrev vwCl : List vw_C := [(RX0, TX0, 2), (RX1, TX1, 4), (RX2, TX2, 2), (RX3, TX3, 3), (RX5, TX5, 2), (RX7, TX7, 8), (RX8, TX8, 2), (RX9, TX9, 2), (RX10, TX10, 6), (RX11, TX11, 11), (RX12, TX12, 21)]
/-! ===== END printed: names (the pool rows behind it are left out: they stand on a word that rows may not hold) ===== -/
/-! THE WORDS: every method's are its own code and all good words of the tables -/
def zU : List Cond := lw_tbl.filter goodWord
theorem zU_m {w : Cond} (i : Nat) (h : lw_tbl[i]? = some w) (hg : goodWord w = true) : w ∈ zU := List.mem_filter.mpr ⟨List.mem_of_getElem? h, hg⟩
theorem zU_tbl : ∀ w ∈ zU, w ∈ lw_tbl := fun _ h => (List.mem_filter.mp h).1
def zUok (ws : List Cond) (ps : List Nat) : Bool := ws.all (fun w => goodWord w && ps.any (fun i => decide (lw_tbl[i]? = some w)))
theorem zU_all {ws : List Cond} (ps : List Nat) (h : zUok ws ps = true) : ∀ w ∈ ws, w ∈ zU := by
  intro w hw
  have h1 := List.all_eq_true.mp h w hw
  rw [Bool.and_eq_true, List.any_eq_true] at h1
  obtain ⟨hg, i, -, hi⟩ := h1
  exact zU_m i (of_decide_eq_true hi) hg
def zw (y : MethodName) (cc : ByteArray) (nL : Nat) (ret : Option FieldType) : List Cond := Cond.code y cc nL ret :: zU
theorem zm {w : Cond} {y : MethodName} {cc : ByteArray} {nL : Nat} {ret : Option FieldType} (h : w ∈ zU) : w ∈ zw y cc nL ret := List.mem_cons_of_mem _ h
theorem zmi {ws : List Cond} {y : MethodName} {cc : ByteArray} {nL : Nat} {ret : Option FieldType} (h : ∀ w ∈ ws, w ∈ zU) : ∀ w ∈ ws, w ∈ zw y cc nL ret := fun w hw => zm (h w hw)
theorem zU_good {w : Cond} (h : w ∈ zU) : (w.onTables && w.keeps) = true ∨ ∃ ty, w = .arrayClass ty := good_of_word (List.mem_filter.mp h).2
theorem zU_in {big ws : List Cond} (hb : ∀ w ∈ zU, w ∈ big) (h : ∀ w ∈ ws, w ∈ zU) : GoodIn big ws := fun w hw => ⟨hb w (h w hw), zU_good (h w hw)⟩
theorem zw_zU {y : MethodName} {cc : ByteArray} {nL : Nat} {ret : Option FieldType} (h : Cond.code y cc nL ret ∈ zU) : ∀ w ∈ zw y cc nL ret, w ∈ zU := fun w hw => by
  rcases List.mem_cons.mp hw with rfl | q
  · exact h
  · exact q
theorem zgV {big : List Cond} (hb : ∀ w ∈ zU, w ∈ big) {own C : String} {idx : Nat} {y : MethodName} {cc : ByteArray} {nL : Nat} {ret : Option FieldType} (h1 : Cond.methodLink own idx y ∈ zU) (h2 : Cond.instanceMethod y ∈ zU) (h3 : Cond.selects C y y ∈ zU) (h4 : Cond.initialized C ∈ zU) (h5 : Cond.code y cc nL ret ∈ zU) : GoodIn big (wsV own idx C y (zw y cc nL ret)) := by
  refine zU_in hb (fun w hw => ?_)
  unfold wsV at hw
  rcases List.mem_append.mp hw with q | q
  · simp only [List.mem_cons, List.not_mem_nil, or_false] at q
    rcases q with rfl | rfl | rfl | rfl
    · exact h1
    · exact h2
    · exact h3
    · exact h4
  · exact zw_zU h5 w q
theorem zgS {big : List Cond} (hb : ∀ w ∈ zU, w ∈ big) {own : String} {idx : Nat} {y : MethodName} {cc : ByteArray} {nL : Nat} {ret : Option FieldType} (h1 : Cond.methodLink own idx y ∈ zU) (h2 : Cond.static y ∈ zU) (h4 : Cond.initialized y.cls ∈ zU) (h5 : Cond.code y cc nL ret ∈ zU) : GoodIn big (va_wsS own idx y (zw y cc nL ret)) := by
  refine zU_in hb (fun w hw => ?_)
  unfold va_wsS at hw
  rcases List.mem_append.mp hw with q | q
  · simp only [List.mem_cons, List.not_mem_nil, or_false] at q
    rcases q with rfl | rfl | rfl
    · exact h1
    · exact h2
    · exact h4
  · exact zw_zU h5 w q
theorem zbw {y : MethodName} {cc : ByteArray} {nL : Nat} {ret : Option FieldType} : ∀ w ∈ zU, w ∈ zw y cc nL ret := fun _ h => zm h
abbrev wsX0_init : List Cond := zw yX0_init cX0_init 1 none
abbrev wsX0_start : List Cond := zw yX0_start cX0_start 6 none
abbrev wsX0_become : List Cond := zw yX0_become cX0_become 2 none
abbrev wsX1_init : List Cond := zw yX1_init cX1_init 1 none
abbrev wsX1_has : List Cond := zw yX1_has cX1_has 2 (some .boolean)
abbrev wsX1_add : List Cond := zw yX1_add cX1_add 4 none
abbrev wsX1_become : List Cond := zw yX1_become cX1_become 2 none
abbrev wsX1_become_ : List Cond := zw yX1_become_ cX1_become_ 4 none
abbrev wsX1_exchange : List Cond := zw yX1_exchange cX1_exchange 3 none
abbrev wsX1_exchange_ : List Cond := zw yX1_exchange_ cX1_exchange_ 4 none
abbrev wsX1_remove : List Cond := zw yX1_remove cX1_remove 3 none
abbrev wsX1_untried : List Cond := zw yX1_untried cX1_untried 6 (some .int)
abbrev wsX1_isBehindRide : List Cond := zw yX1_isBehindRide cX1_isBehindRide 2 (some .boolean)
abbrev wsX1_lengths : List Cond := zw yX1_lengths cX1_lengths 3 (some .int)
abbrev wsX1_changes : List Cond := zw yX1_changes cX1_changes 3 (some .int)
abbrev wsX1_rides : List Cond := zw yX1_rides cX1_rides 3 (some .int)
abbrev wsX2_init : List Cond := zw yX2_init cX2_init 1 none
abbrev wsX2_settled : List Cond := zw yX2_settled cX2_settled 3 (some .int)
abbrev wsX2_isBestAgainst : List Cond := zw yX2_isBestAgainst cX2_isBestAgainst 5 (some .boolean)
abbrev wsX2_hindered : List Cond := zw yX2_hindered cX2_hindered 3 (some .int)
abbrev wsX3_init : List Cond := zw yX3_init cX3_init 2 none
abbrev wsX3_has : List Cond := zw yX3_has cX3_has 2 (some .boolean)
abbrev wsX3_add : List Cond := zw yX3_add cX3_add 5 none
abbrev wsX3_planTries : List Cond := zw yX3_planTries cX3_planTries 4 none
abbrev wsX3_become : List Cond := zw yX3_become cX3_become 3 none
abbrev wsX3_allTries : List Cond := zw yX3_allTries cX3_allTries 4 (some .int)
abbrev wsX4_ofLetter : List Cond := zw yX4_ofLetter cX4_ofLetter 1 (some .int)
abbrev wsX4_isRide : List Cond := zw yX4_isRide cX4_isRide 1 (some .boolean)
abbrev wsX4_takes : List Cond := zw yX4_takes cX4_takes 1 (some .int)
abbrev wsX4_secondsTrying : List Cond := zw yX4_secondsTrying cX4_secondsTrying 3 (some .int)
abbrev wsX4_legsBehind : List Cond := zw yX4_legsBehind cX4_legsBehind 5 (some .int)
abbrev wsX5_init : List Cond := zw yX5_init cX5_init 1 none
abbrev wsX5_below : List Cond := zw yX5_below cX5_below 2 (some .int)
abbrev wsX6_power : List Cond := zw yX6_power cX6_power 6 (some .long)
abbrev wsX6_waysWithin : List Cond := zw yX6_waysWithin cX6_waysWithin 9 (some .long)
abbrev wsX6_partInLeastTerms : List Cond := zw yX6_partInLeastTerms cX6_partInLeastTerms 7 (some .long)
abbrev wsX6_commonDivisor : List Cond := zw yX6_commonDivisor cX6_commonDivisor 11 (some .long)
abbrev wsX7_init : List Cond := zw yX7_init cX7_init 1 none
abbrev wsX7_look : List Cond := zw yX7_look cX7_look 4 none
abbrev wsX7_secondsFrom : List Cond := zw yX7_secondsFrom cX7_secondsFrom 5 (some .int)
abbrev wsX7_easiestBest : List Cond := zw yX7_easiestBest cX7_easiestBest 5 (some .int)
abbrev wsX7_leastFinish : List Cond := zw yX7_leastFinish cX7_leastFinish 3 (some .int)
abbrev wsX7_bestTries : List Cond := zw yX7_bestTries cX7_bestTries 4 (some .int)
abbrev wsX7_fewestTries : List Cond := zw yX7_fewestTries cX7_fewestTries 4 (some .int)
abbrev wsX7_emptyNext : List Cond := zw yX7_emptyNext cX7_emptyNext 2 none
abbrev wsX7_takeNext : List Cond := zw yX7_takeNext cX7_takeNext 2 none
abbrev wsX7_goOnFrom : List Cond := zw yX7_goOnFrom cX7_goOnFrom 6 none
abbrev wsX7_goOnFromLegs : List Cond := zw yX7_goOnFromLegs cX7_goOnFromLegs 9 none
abbrev wsX8_init : List Cond := zw yX8_init cX8_init 1 none
abbrev wsX8_isFull : List Cond := zw yX8_isFull cX8_isFull 1 (some .boolean)
abbrev wsX8_put : List Cond := zw yX8_put cX8_put 2 (some .int)
abbrev wsX8_forget : List Cond := zw yX8_forget cX8_forget 2 (some .int)
abbrev wsX8_firstUnlike : List Cond := zw yX8_firstUnlike cX8_firstUnlike 4 (some .int)
abbrev wsX9_init : List Cond := zw yX9_init cX9_init 1 none
abbrev wsX9_isFull : List Cond := zw yX9_isFull cX9_isFull 1 (some .boolean)
abbrev wsX9_put : List Cond := zw yX9_put cX9_put 2 (some .int)
abbrev wsX9_forget : List Cond := zw yX9_forget cX9_forget 1 none
abbrev wsX9_faultIn : List Cond := zw yX9_faultIn cX9_faultIn 3 (some .int)
abbrev wsX9_placeOfBadLetter : List Cond := zw yX9_placeOfBadLetter cX9_placeOfBadLetter 5 (some .int)
abbrev wsX9_leastInside : List Cond := zw yX9_leastInside cX9_leastInside 1 (some .int)
abbrev wsX9_mostInside : List Cond := zw yX9_mostInside cX9_mostInside 1 (some .int)
abbrev wsX9_fits : List Cond := zw yX9_fits cX9_fits 3 (some .boolean)
abbrev wsX9_endOf : List Cond := zw yX9_endOf cX9_endOf 3 (some .int)
abbrev wsX9_digit : List Cond := zw yX9_digit cX9_digit 2 (some .int)
abbrev wsX9_letterAt : List Cond := zw yX9_letterAt cX9_letterAt 2 (some .int)
abbrev wsX9_placeOfBadStatement : List Cond := zw yX9_placeOfBadStatement cX9_placeOfBadStatement 7 (some .int)
abbrev wsX9_isAsItMustBe : List Cond := zw yX9_isAsItMustBe cX9_isAsItMustBe 7 (some .boolean)
abbrev wsX9_areTries : List Cond := zw yX9_areTries cX9_areTries 4 (some .boolean)
abbrev wsX9_tellTo : List Cond := zw yX9_tellTo cX9_tellTo 6 (some .int)
abbrev wsX9_tellOne : List Cond := zw yX9_tellOne cX9_tellOne 8 none
abbrev wsX10_init : List Cond := zw yX10_init cX10_init 1 none
abbrev wsX10_load : List Cond := zw yX10_load cX10_load 3 none
abbrev wsX10_run : List Cond := zw yX10_run cX10_run 5 (some .int)
abbrev wsX10_rideAt : List Cond := zw yX10_rideAt cX10_rideAt 3 none
abbrev wsX10_leaveOut : List Cond := zw yX10_leaveOut cX10_leaveOut 3 none
abbrev wsX10_legsAtFinish : List Cond := zw yX10_legsAtFinish cX10_legsAtFinish 1 (some .int)
abbrev wsX10_gone : List Cond := zw yX10_gone cX10_gone 2 (some .int)
abbrev wsX10_sectionAt : List Cond := zw yX10_sectionAt cX10_sectionAt 3 (some .int)
abbrev wsX10_isPastIn : List Cond := zw yX10_isPastIn cX10_isPastIn 3 (some .boolean)
abbrev wsX10_howOftenPast : List Cond := zw yX10_howOftenPast cX10_howOftenPast 4 (some .int)
abbrev wsX10_firstPast : List Cond := zw yX10_firstPast cX10_firstPast 3 (some .int)
abbrev wsX10_slowest : List Cond := zw yX10_slowest cX10_slowest 3 (some .int)
abbrev wsX10_secondsOfChanges : List Cond := zw yX10_secondsOfChanges cX10_secondsOfChanges 3 (some .int)
abbrev wsX11_init : List Cond := zw yX11_init cX11_init 1 none
abbrev wsX11_letter : List Cond := zw yX11_letter cX11_letter 2 (some .int)
abbrev wsX11_race : List Cond := zw yX11_race cX11_race 2 (some .int)
abbrev wsX11_section : List Cond := zw yX11_section cX11_section 3 (some .int)
abbrev wsX11_athlete : List Cond := zw yX11_athlete cX11_athlete 3 (some .int)
abbrev wsX11_tries : List Cond := zw yX11_tries cX11_tries 3 (some .int)
abbrev wsX11_turn : List Cond := zw yX11_turn cX11_turn 5 (some .int)
abbrev wsX11_swap : List Cond := zw yX11_swap cX11_swap 3 (some .int)
abbrev wsX11_skill : List Cond := zw yX11_skill cX11_skill 5 (some .int)
abbrev wsX11_tryHard : List Cond := zw yX11_tryHard cX11_tryHard 5 (some .int)
abbrev wsX11_by : List Cond := zw yX11_by cX11_by 4 (some .int)
abbrev wsX11_finish : List Cond := zw yX11_finish cX11_finish 4 (some .int)
abbrev wsX11_at : List Cond := zw yX11_at cX11_at 3 (some .int)
abbrev wsX11_overtakes : List Cond := zw yX11_overtakes cX11_overtakes 4 (some .int)
abbrev wsX11_bestPlan : List Cond := zw yX11_bestPlan cX11_bestPlan 3 (some .int)
abbrev wsX11_hardest : List Cond := zw yX11_hardest cX11_hardest 3 (some .int)
abbrev wsX11_leastTries : List Cond := zw yX11_leastTries cX11_leastTries 3 (some .int)
abbrev wsX11_drink : List Cond := zw yX11_drink cX11_drink 7 (some .int)
abbrev wsX11_train : List Cond := zw yX11_train cX11_train 8 (some .int)
abbrev wsX11_weakest : List Cond := zw yX11_weakest cX11_weakest 2 (some .int)
abbrev wsX11_meadow : List Cond := zw yX11_meadow cX11_meadow 6 (some .int)
abbrev wsX11_leave : List Cond := zw yX11_leave cX11_leave 7 (some .int)
abbrev wsX11_order : List Cond := zw yX11_order cX11_order 7 (some .int)
abbrev wsX11_puncture : List Cond := zw yX11_puncture cX11_puncture 11 (some .long)
abbrev wsX11_mean : List Cond := zw yX11_mean cX11_mean 8 (some .long)
abbrev wsX11_tube : List Cond := zw yX11_tube cX11_tube 6 (some .int)
abbrev wsX11_draw : List Cond := zw yX11_draw cX11_draw 8 (some .int)
abbrev wsX11_two : List Cond := zw yX11_two cX11_two 5 (some .int)
abbrev wsX11_whatWas : List Cond := zw yX11_whatWas cX11_whatWas 3 (some .int)
abbrev wsX11_row : List Cond := zw yX11_row cX11_row 2 (some .int)
abbrev wsX11_judge : List Cond := zw yX11_judge cX11_judge 3 (some .int)
abbrev wsX11_clear : List Cond := zw yX11_clear cX11_clear 1 (some .int)
abbrev wsX11_lots : List Cond := zw yX11_lots cX11_lots 7 (some .int)
abbrev wsX11_image : List Cond := zw yX11_image cX11_image 1 (some .int)
abbrev wsX11_on : List Cond := zw yX11_on cX11_on 1 (some .int)
abbrev wsX11_count : List Cond := zw yX11_count cX11_count 2 (some .int)
abbrev wsX11_refuse : List Cond := zw yX11_refuse cX11_refuse 3 (some .int)
abbrev wsX11_runPlan : List Cond := zw yX11_runPlan cX11_runPlan 2 (some .int)
abbrev wsX11_finishWith : List Cond := zw yX11_finishWith cX11_finishWith 4 (some .int)
abbrev wsX11_finishTrying : List Cond := zw yX11_finishTrying cX11_finishTrying 4 (some .int)
abbrev wsX11_placeBehind : List Cond := zw yX11_placeBehind cX11_placeBehind 4 (some .int)
abbrev wsX11_isPart : List Cond := zw yX11_isPart cX11_isPart 1 (some .boolean)
abbrev wsX11_refusalOfOdds : List Cond := zw yX11_refusalOfOdds cX11_refusalOfOdds 5 (some .int)
abbrev wsX11_kindsAsTold : List Cond := zw yX11_kindsAsTold cX11_kindsAsTold 4 (some .int)
abbrev wsX11_figuresAsTold : List Cond := zw yX11_figuresAsTold cX11_figuresAsTold 4 (some .int)
abbrev wsX11_isAsTold : List Cond := zw yX11_isAsTold cX11_isAsTold 5 (some .boolean)
abbrev wsX11_raceByLot : List Cond := zw yX11_raceByLot cX11_raceByLot 4 (some .boolean)
abbrev wsX12_init : List Cond := zw yX12_init cX12_init 2 none
abbrev wsX12_isIn : List Cond := zw yX12_isIn cX12_isIn 3 (some .boolean)
abbrev wsX12_least : List Cond := zw yX12_least cX12_least 2 (some .int)
abbrev wsX12_most : List Cond := zw yX12_most cX12_most 2 (some .int)
abbrev wsX12_lays : List Cond := zw yX12_lays cX12_lays 3 none
abbrev wsX12_no : List Cond := zw yX12_no cX12_no 2 (some .int)
abbrev wsX12_noFar : List Cond := zw yX12_noFar cX12_noFar 2 (some .int)
abbrev wsX12_noWide : List Cond := zw yX12_noWide cX12_noWide 2 (some .long)
abbrev wsX12_of : List Cond := zw yX12_of cX12_of 2 (some .int)
abbrev wsX12_athleteAt : List Cond := zw yX12_athleteAt cX12_athleteAt 2 (some .int)
abbrev wsX12_tried : List Cond := zw yX12_tried cX12_tried 2 (some .int)
abbrev wsX12_isSection : List Cond := zw yX12_isSection cX12_isSection 2 (some .boolean)
abbrev wsX12_isAthlete : List Cond := zw yX12_isAthlete cX12_isAthlete 2 (some .boolean)
abbrev wsX12_isRide : List Cond := zw yX12_isRide cX12_isRide 2 (some .boolean)
abbrev wsX12_takes : List Cond := zw yX12_takes cX12_takes 3 (some .int)
abbrev wsX12_plain : List Cond := zw yX12_plain cX12_plain 7 (some .int)
abbrev wsX12_secondsBy : List Cond := zw yX12_secondsBy cX12_secondsBy 6 (some .int)
abbrev wsX12_legsBehind : List Cond := zw yX12_legsBehind cX12_legsBehind 5 (some .int)
abbrev wsX12_goes : List Cond := zw yX12_goes cX12_goes 7 (some .int)
abbrev wsX12_finishOf : List Cond := zw yX12_finishOf cX12_finishOf 3 (some .int)
abbrev wsX12_letter : List Cond := zw yX12_letter cX12_letter 2 (some .int)
abbrev wsX12_here : List Cond := zw yX12_here cX12_here 1 (some .int)
abbrev wsX12_readsDigit : List Cond := zw yX12_readsDigit cX12_readsDigit 1 (some .boolean)
abbrev wsX12_readsDigits : List Cond := zw yX12_readsDigits cX12_readsDigits 4 (some .boolean)
abbrev wsX12_kindBy : List Cond := zw yX12_kindBy cX12_kindBy 1 (some .int)
abbrev wsX12_readsKind : List Cond := zw yX12_readsKind cX12_readsKind 2 (some .boolean)
abbrev wsX12_readsPlan : List Cond := zw yX12_readsPlan cX12_readsPlan 2 (some .boolean)
abbrev wsX12_readsStatement : List Cond := zw yX12_readsStatement cX12_readsStatement 3 (some .boolean)
abbrev wsX12_changes : List Cond := zw yX12_changes cX12_changes 6 none
abbrev wsX12_isDone : List Cond := zw yX12_isDone cX12_isDone 5 (some .boolean)
abbrev wsX12_race : List Cond := zw yX12_race cX12_race 6 (some .int)
abbrev wsX12_section : List Cond := zw yX12_section cX12_section 3 (some .int)
abbrev wsX12_athlete : List Cond := zw yX12_athlete cX12_athlete 3 (some .int)
abbrev wsX12_tries : List Cond := zw yX12_tries cX12_tries 3 (some .int)
abbrev wsX12_turn : List Cond := zw yX12_turn cX12_turn 5 (some .int)
abbrev wsX12_swap : List Cond := zw yX12_swap cX12_swap 3 (some .int)
abbrev wsX12_skill : List Cond := zw yX12_skill cX12_skill 5 (some .int)
abbrev wsX12_tryHard : List Cond := zw yX12_tryHard cX12_tryHard 5 (some .int)
abbrev wsX12_by : List Cond := zw yX12_by cX12_by 5 (some .int)
abbrev wsX12_finish : List Cond := zw yX12_finish cX12_finish 6 (some .int)
abbrev wsX12_at : List Cond := zw yX12_at cX12_at 5 (some .int)
abbrev wsX12_overtakes : List Cond := zw yX12_overtakes cX12_overtakes 8 (some .int)
abbrev wsX12_findsPlans : List Cond := zw yX12_findsPlans cX12_findsPlans 6 none
abbrev wsX12_withTries : List Cond := zw yX12_withTries cX12_withTries 5 (some .int)
abbrev wsX12_bestPlan : List Cond := zw yX12_bestPlan cX12_bestPlan 6 (some .int)
abbrev wsX12_hardest : List Cond := zw yX12_hardest cX12_hardest 5 (some .int)
abbrev wsX12_leastTries : List Cond := zw yX12_leastTries cX12_leastTries 8 (some .int)
abbrev wsX12_drink : List Cond := zw yX12_drink cX12_drink 7 (some .int)
abbrev wsX12_finishWith : List Cond := zw yX12_finishWith cX12_finishWith 4 (some .int)
abbrev wsX12_train : List Cond := zw yX12_train cX12_train 5 (some .int)
abbrev wsX12_weakest : List Cond := zw yX12_weakest cX12_weakest 5 (some .int)
abbrev wsX12_meadow : List Cond := zw yX12_meadow cX12_meadow 6 (some .int)
abbrev wsX12_leave : List Cond := zw yX12_leave cX12_leave 8 (some .int)
abbrev wsX12_order : List Cond := zw yX12_order cX12_order 7 (some .int)
abbrev wsX12_ridesMany : List Cond := zw yX12_ridesMany cX12_ridesMany 3 (some .int)
abbrev wsX12_gcd : List Cond := zw yX12_gcd cX12_gcd 10 (some .long)
abbrev wsX12_partOf : List Cond := zw yX12_partOf cX12_partOf 5 (some .long)
abbrev wsX12_puncture : List Cond := zw yX12_puncture cX12_puncture 18 (some .long)
abbrev wsX12_mean : List Cond := zw yX12_mean cX12_mean 5 (some .long)
abbrev wsX12_tube : List Cond := zw yX12_tube cX12_tube 4 (some .int)
abbrev wsX12_draw : List Cond := zw yX12_draw cX12_draw 8 (some .int)
abbrev wsX12_finishAgainst : List Cond := zw yX12_finishAgainst cX12_finishAgainst 5 (some .int)
abbrev wsX12_two : List Cond := zw yX12_two cX12_two 8 (some .int)
abbrev wsX12_whatWas : List Cond := zw yX12_whatWas cX12_whatWas 8 (some .int)
abbrev wsX12_row : List Cond := zw yX12_row cX12_row 2 (some .int)
abbrev wsX12_judge : List Cond := zw yX12_judge cX12_judge 5 (some .int)
abbrev wsX12_clear : List Cond := zw yX12_clear cX12_clear 2 (some .int)
abbrev wsX12_drawn : List Cond := zw yX12_drawn cX12_drawn 2 (some .int)
abbrev wsX12_lots : List Cond := zw yX12_lots cX12_lots 10 (some .int)
abbrev wsX12_image : List Cond := zw yX12_image cX12_image 1 (some .int)
abbrev wsX12_on : List Cond := zw yX12_on cX12_on 1 (some .int)
abbrev wsX12_count : List Cond := zw yX12_count cX12_count 5 (some .int)
theorem inU_0 : ∀ w ∈ wsX00, w ∈ zU := zU_all [125, 127] (by decide +kernel)
theorem inU_1 : ∀ w ∈ wsX10, w ∈ zU := zU_all [99, 101, 103, 105] (by decide +kernel)
theorem inU_2 : ∀ w ∈ wsX20, w ∈ zU := zU_all [252, 254] (by decide +kernel)
theorem inU_3 : ∀ w ∈ wsX30, w ∈ zU := zU_all [138, 140, 142] (by decide +kernel)
theorem inU_5 : ∀ w ∈ wsX50, w ∈ zU := zU_all [267, 269] (by decide +kernel)
theorem inU_7 : ∀ w ∈ wsX70, w ∈ zU := zU_all [225, 227, 229, 231, 233, 235, 237, 239] (by decide +kernel)
theorem inU_8 : ∀ w ∈ wsX80, w ∈ zU := zU_all [169, 171] (by decide +kernel)
theorem inU_9 : ∀ w ∈ wsX90, w ∈ zU := zU_all [154, 156] (by decide +kernel)
theorem inU_10 : ∀ w ∈ wsX100, w ∈ zU := zU_all [196, 198, 200, 202, 204, 206] (by decide +kernel)
theorem inU_11 : ∀ w ∈ wsX110, w ∈ zU := zU_all [283, 285, 287, 289, 291, 293, 295, 297, 299, 301, 303] (by decide +kernel)
theorem inU_12 : ∀ w ∈ wsX120, w ∈ zU := zU_all [829, 831, 833, 835, 837, 839, 841, 843, 845, 847, 849, 851, 853, 855, 857, 859, 861, 863, 865, 867, 869] (by decide +kernel)
end
section
/-! decode rows: the classes inside -/
theorem dJ9_max_7cf53_0 : decode cJ9_max_7cf53 0 = .ok (.iload_n 0, 1) := by decide +kernel
theorem dJ9_max_7cf53_1 : decode cJ9_max_7cf53 1 = .ok (.iload_n 1, 1) := by decide +kernel
theorem dJ9_max_7cf53_2 : decode cJ9_max_7cf53 2 = .ok (.if_icmp .lt 7, 3) := by decide +kernel
theorem dJ9_max_7cf53_5 : decode cJ9_max_7cf53 5 = .ok (.iload_n 0, 1) := by decide +kernel
theorem dJ9_max_7cf53_6 : decode cJ9_max_7cf53 6 = .ok (.goto 4, 3) := by decide +kernel
theorem dJ9_max_7cf53_9 : decode cJ9_max_7cf53 9 = .ok (.iload_n 1, 1) := by decide +kernel
theorem dJ9_max_7cf53_10 : decode cJ9_max_7cf53 10 = .ok (.ireturn, 1) := by decide +kernel
theorem dJ9_min_7cf53_0 : decode cJ9_min_7cf53 0 = .ok (.iload_n 0, 1) := by decide +kernel
theorem dJ9_min_7cf53_1 : decode cJ9_min_7cf53 1 = .ok (.iload_n 1, 1) := by decide +kernel
theorem dJ9_min_7cf53_2 : decode cJ9_min_7cf53 2 = .ok (.if_icmp .gt 7, 3) := by decide +kernel
theorem dJ9_min_7cf53_5 : decode cJ9_min_7cf53 5 = .ok (.iload_n 0, 1) := by decide +kernel
theorem dJ9_min_7cf53_6 : decode cJ9_min_7cf53 6 = .ok (.goto 4, 3) := by decide +kernel
theorem dJ9_min_7cf53_9 : decode cJ9_min_7cf53 9 = .ok (.iload_n 1, 1) := by decide +kernel
theorem dJ9_min_7cf53_10 : decode cJ9_min_7cf53 10 = .ok (.ireturn, 1) := by decide +kernel
theorem dX0_init_0 : decode cX0_init 0 = .ok (.aload_n 0, 1) := by decide +kernel
theorem dX0_init_1 : decode cX0_init 1 = .ok (.invokespecial 3, 3) := by decide +kernel
theorem dX0_init_4 : decode cX0_init 4 = .ok (.aload_n 0, 1) := by decide +kernel
theorem dX0_init_5 : decode cX0_init 5 = .ok (.iconst 4, 1) := by decide +kernel
theorem dX0_init_6 : decode cX0_init 6 = .ok (.newarray .int, 2) := by decide +kernel
theorem dX0_init_8 : decode cX0_init 8 = .ok (.putfield 9, 3) := by decide +kernel
theorem dX0_init_11 : decode cX0_init 11 = .ok (.aload_n 0, 1) := by decide +kernel
theorem dX0_init_12 : decode cX0_init 12 = .ok (.bipush 10, 2) := by decide +kernel
theorem dX0_init_14 : decode cX0_init 14 = .ok (.newarray .int, 2) := by decide +kernel
theorem dX0_init_16 : decode cX0_init 16 = .ok (.putfield 15, 3) := by decide +kernel
theorem dX0_init_19 : decode cX0_init 19 = .ok (.return_, 1) := by decide +kernel
theorem dX0_start_0 : decode cX0_start 0 = .ok (.aload_n 0, 1) := by decide +kernel
theorem dX0_start_1 : decode cX0_start 1 = .ok (.getfield 9, 3) := by decide +kernel
theorem dX0_start_4 : decode cX0_start 4 = .ok (.iconst 0, 1) := by decide +kernel
theorem dX0_start_5 : decode cX0_start 5 = .ok (.iload_n 1, 1) := by decide +kernel
theorem dX0_start_6 : decode cX0_start 6 = .ok (.iastore, 1) := by decide +kernel
theorem dX0_start_7 : decode cX0_start 7 = .ok (.aload_n 0, 1) := by decide +kernel
theorem dX0_start_8 : decode cX0_start 8 = .ok (.getfield 9, 3) := by decide +kernel
theorem dX0_start_11 : decode cX0_start 11 = .ok (.iconst 1, 1) := by decide +kernel
theorem dX0_start_12 : decode cX0_start 12 = .ok (.iload_n 2, 1) := by decide +kernel
theorem dX0_start_13 : decode cX0_start 13 = .ok (.iastore, 1) := by decide +kernel
theorem dX0_start_14 : decode cX0_start 14 = .ok (.aload_n 0, 1) := by decide +kernel
theorem dX0_start_15 : decode cX0_start 15 = .ok (.getfield 9, 3) := by decide +kernel
theorem dX0_start_18 : decode cX0_start 18 = .ok (.iconst 2, 1) := by decide +kernel
theorem dX0_start_19 : decode cX0_start 19 = .ok (.iload_n 3, 1) := by decide +kernel
theorem dX0_start_20 : decode cX0_start 20 = .ok (.iastore, 1) := by decide +kernel
theorem dX0_start_21 : decode cX0_start 21 = .ok (.aload_n 0, 1) := by decide +kernel
theorem dX0_start_22 : decode cX0_start 22 = .ok (.getfield 9, 3) := by decide +kernel
theorem dX0_start_25 : decode cX0_start 25 = .ok (.iconst 3, 1) := by decide +kernel
theorem dX0_start_26 : decode cX0_start 26 = .ok (.iload 4, 2) := by decide +kernel
theorem dX0_start_28 : decode cX0_start 28 = .ok (.iastore, 1) := by decide +kernel
theorem dX0_start_29 : decode cX0_start 29 = .ok (.iconst 0, 1) := by decide +kernel
theorem dX0_start_30 : decode cX0_start 30 = .ok (.istore 5, 2) := by decide +kernel
theorem dX0_start_32 : decode cX0_start 32 = .ok (.iload 5, 2) := by decide +kernel
theorem dX0_start_34 : decode cX0_start 34 = .ok (.bipush 10, 2) := by decide +kernel
theorem dX0_start_36 : decode cX0_start 36 = .ok (.if_icmp .ge 17, 3) := by decide +kernel
theorem dX0_start_39 : decode cX0_start 39 = .ok (.aload_n 0, 1) := by decide +kernel
theorem dX0_start_40 : decode cX0_start 40 = .ok (.getfield 15, 3) := by decide +kernel
theorem dX0_start_43 : decode cX0_start 43 = .ok (.iload 5, 2) := by decide +kernel
theorem dX0_start_45 : decode cX0_start 45 = .ok (.iconst 1, 1) := by decide +kernel
theorem dX0_start_46 : decode cX0_start 46 = .ok (.iastore, 1) := by decide +kernel
theorem dX0_start_47 : decode cX0_start 47 = .ok (.iinc 5 1, 3) := by decide +kernel
theorem dX0_start_50 : decode cX0_start 50 = .ok (.goto (-18), 3) := by decide +kernel
theorem dX0_start_53 : decode cX0_start 53 = .ok (.return_, 1) := by decide +kernel
theorem dX0_become_0 : decode cX0_become 0 = .ok (.aload_n 1, 1) := by decide +kernel
theorem dX0_become_1 : decode cX0_become 1 = .ok (.getfield 9, 3) := by decide +kernel
theorem dX0_become_4 : decode cX0_become 4 = .ok (.iconst 0, 1) := by decide +kernel
theorem dX0_become_5 : decode cX0_become 5 = .ok (.aload_n 0, 1) := by decide +kernel
theorem dX0_become_6 : decode cX0_become 6 = .ok (.getfield 9, 3) := by decide +kernel
theorem dX0_become_9 : decode cX0_become 9 = .ok (.iconst 0, 1) := by decide +kernel
theorem dX0_become_10 : decode cX0_become 10 = .ok (.aload_n 0, 1) := by decide +kernel
theorem dX0_become_11 : decode cX0_become 11 = .ok (.getfield 9, 3) := by decide +kernel
theorem dX0_become_14 : decode cX0_become 14 = .ok (.arraylength, 1) := by decide +kernel
theorem dX0_become_15 : decode cX0_become 15 = .ok (.invokestatic 18, 3) := by decide +kernel
theorem dX0_become_18 : decode cX0_become 18 = .ok (.aload_n 1, 1) := by decide +kernel
theorem dX0_become_19 : decode cX0_become 19 = .ok (.getfield 15, 3) := by decide +kernel
theorem dX0_become_22 : decode cX0_become 22 = .ok (.iconst 0, 1) := by decide +kernel
theorem dX0_become_23 : decode cX0_become 23 = .ok (.aload_n 0, 1) := by decide +kernel
theorem dX0_become_24 : decode cX0_become 24 = .ok (.getfield 15, 3) := by decide +kernel
theorem dX0_become_27 : decode cX0_become 27 = .ok (.iconst 0, 1) := by decide +kernel
theorem dX0_become_28 : decode cX0_become 28 = .ok (.bipush 10, 2) := by decide +kernel
theorem dX0_become_30 : decode cX0_become 30 = .ok (.invokestatic 18, 3) := by decide +kernel
theorem dX0_become_33 : decode cX0_become 33 = .ok (.return_, 1) := by decide +kernel
theorem dX1_init_0 : decode cX1_init 0 = .ok (.aload_n 0, 1) := by decide +kernel
theorem dX1_init_1 : decode cX1_init 1 = .ok (.invokespecial 3, 3) := by decide +kernel
theorem dX1_init_4 : decode cX1_init 4 = .ok (.aload_n 0, 1) := by decide +kernel
theorem dX1_init_5 : decode cX1_init 5 = .ok (.iconst 0, 1) := by decide +kernel
theorem dX1_init_6 : decode cX1_init 6 = .ok (.putfield 9, 3) := by decide +kernel
theorem dX1_init_9 : decode cX1_init 9 = .ok (.aload_n 0, 1) := by decide +kernel
theorem dX1_init_10 : decode cX1_init 10 = .ok (.bipush 10, 2) := by decide +kernel
theorem dX1_init_12 : decode cX1_init 12 = .ok (.newarray .int, 2) := by decide +kernel
theorem dX1_init_14 : decode cX1_init 14 = .ok (.putfield 15, 3) := by decide +kernel
theorem dX1_init_17 : decode cX1_init 17 = .ok (.aload_n 0, 1) := by decide +kernel
theorem dX1_init_18 : decode cX1_init 18 = .ok (.bipush 10, 2) := by decide +kernel
theorem dX1_init_20 : decode cX1_init 20 = .ok (.newarray .int, 2) := by decide +kernel
theorem dX1_init_22 : decode cX1_init 22 = .ok (.putfield 19, 3) := by decide +kernel
theorem dX1_init_25 : decode cX1_init 25 = .ok (.aload_n 0, 1) := by decide +kernel
theorem dX1_init_26 : decode cX1_init 26 = .ok (.bipush 10, 2) := by decide +kernel
theorem dX1_init_28 : decode cX1_init 28 = .ok (.newarray .int, 2) := by decide +kernel
theorem dX1_init_30 : decode cX1_init 30 = .ok (.putfield 22, 3) := by decide +kernel
theorem dX1_init_33 : decode cX1_init 33 = .ok (.return_, 1) := by decide +kernel
theorem dX1_has_0 : decode cX1_has 0 = .ok (.iload_n 1, 1) := by decide +kernel
theorem dX1_has_1 : decode cX1_has 1 = .ok (.ifCond .lt 15, 3) := by decide +kernel
theorem dX1_has_4 : decode cX1_has 4 = .ok (.iload_n 1, 1) := by decide +kernel
theorem dX1_has_5 : decode cX1_has 5 = .ok (.aload_n 0, 1) := by decide +kernel
theorem dX1_has_6 : decode cX1_has 6 = .ok (.getfield 9, 3) := by decide +kernel
theorem dX1_has_9 : decode cX1_has 9 = .ok (.if_icmp .ge 7, 3) := by decide +kernel
theorem dX1_has_12 : decode cX1_has 12 = .ok (.iconst 1, 1) := by decide +kernel
theorem dX1_has_13 : decode cX1_has 13 = .ok (.goto 4, 3) := by decide +kernel
theorem dX1_has_16 : decode cX1_has 16 = .ok (.iconst 0, 1) := by decide +kernel
theorem dX1_has_17 : decode cX1_has 17 = .ok (.ireturn, 1) := by decide +kernel
theorem dX1_add_0 : decode cX1_add 0 = .ok (.aload_n 0, 1) := by decide +kernel
theorem dX1_add_1 : decode cX1_add 1 = .ok (.getfield 9, 3) := by decide +kernel
theorem dX1_add_4 : decode cX1_add 4 = .ok (.bipush 10, 2) := by decide +kernel
theorem dX1_add_6 : decode cX1_add 6 = .ok (.if_icmp .ge 43, 3) := by decide +kernel
theorem dX1_add_9 : decode cX1_add 9 = .ok (.aload_n 0, 1) := by decide +kernel
theorem dX1_add_10 : decode cX1_add 10 = .ok (.getfield 15, 3) := by decide +kernel
theorem dX1_add_13 : decode cX1_add 13 = .ok (.aload_n 0, 1) := by decide +kernel
theorem dX1_add_14 : decode cX1_add 14 = .ok (.getfield 9, 3) := by decide +kernel
theorem dX1_add_17 : decode cX1_add 17 = .ok (.iload_n 1, 1) := by decide +kernel
theorem dX1_add_18 : decode cX1_add 18 = .ok (.iastore, 1) := by decide +kernel
theorem dX1_add_19 : decode cX1_add 19 = .ok (.aload_n 0, 1) := by decide +kernel
theorem dX1_add_20 : decode cX1_add 20 = .ok (.getfield 19, 3) := by decide +kernel
theorem dX1_add_23 : decode cX1_add 23 = .ok (.aload_n 0, 1) := by decide +kernel
theorem dX1_add_24 : decode cX1_add 24 = .ok (.getfield 9, 3) := by decide +kernel
theorem dX1_add_27 : decode cX1_add 27 = .ok (.iload_n 2, 1) := by decide +kernel
theorem dX1_add_28 : decode cX1_add 28 = .ok (.iastore, 1) := by decide +kernel
theorem dX1_add_29 : decode cX1_add 29 = .ok (.aload_n 0, 1) := by decide +kernel
theorem dX1_add_30 : decode cX1_add 30 = .ok (.getfield 22, 3) := by decide +kernel
theorem dX1_add_33 : decode cX1_add 33 = .ok (.aload_n 0, 1) := by decide +kernel
theorem dX1_add_34 : decode cX1_add 34 = .ok (.getfield 9, 3) := by decide +kernel
theorem dX1_add_37 : decode cX1_add 37 = .ok (.iload_n 3, 1) := by decide +kernel
theorem dX1_add_38 : decode cX1_add 38 = .ok (.iastore, 1) := by decide +kernel
theorem dX1_add_39 : decode cX1_add 39 = .ok (.aload_n 0, 1) := by decide +kernel
theorem dX1_add_40 : decode cX1_add 40 = .ok (.dup, 1) := by decide +kernel
theorem dX1_add_41 : decode cX1_add 41 = .ok (.getfield 9, 3) := by decide +kernel
theorem dX1_add_44 : decode cX1_add 44 = .ok (.iconst 1, 1) := by decide +kernel
theorem dX1_add_45 : decode cX1_add 45 = .ok (.iadd, 1) := by decide +kernel
theorem dX1_add_46 : decode cX1_add 46 = .ok (.putfield 9, 3) := by decide +kernel
theorem dX1_add_49 : decode cX1_add 49 = .ok (.return_, 1) := by decide +kernel
theorem dX1_become_0 : decode cX1_become 0 = .ok (.aload_n 0, 1) := by decide +kernel
theorem dX1_become_1 : decode cX1_become 1 = .ok (.aload_n 1, 1) := by decide +kernel
theorem dX1_become_2 : decode cX1_become 2 = .ok (.getfield 9, 3) := by decide +kernel
theorem dX1_become_5 : decode cX1_become 5 = .ok (.putfield 9, 3) := by decide +kernel
theorem dX1_become_8 : decode cX1_become 8 = .ok (.aload_n 1, 1) := by decide +kernel
theorem dX1_become_9 : decode cX1_become 9 = .ok (.getfield 15, 3) := by decide +kernel
theorem dX1_become_12 : decode cX1_become 12 = .ok (.iconst 0, 1) := by decide +kernel
theorem dX1_become_13 : decode cX1_become 13 = .ok (.aload_n 0, 1) := by decide +kernel
theorem dX1_become_14 : decode cX1_become 14 = .ok (.getfield 15, 3) := by decide +kernel
theorem dX1_become_17 : decode cX1_become 17 = .ok (.iconst 0, 1) := by decide +kernel
theorem dX1_become_18 : decode cX1_become 18 = .ok (.bipush 10, 2) := by decide +kernel
theorem dX1_become_20 : decode cX1_become 20 = .ok (.invokestatic 25, 3) := by decide +kernel
theorem dX1_become_23 : decode cX1_become 23 = .ok (.aload_n 1, 1) := by decide +kernel
theorem dX1_become_24 : decode cX1_become 24 = .ok (.getfield 19, 3) := by decide +kernel
theorem dX1_become_27 : decode cX1_become 27 = .ok (.iconst 0, 1) := by decide +kernel
theorem dX1_become_28 : decode cX1_become 28 = .ok (.aload_n 0, 1) := by decide +kernel
theorem dX1_become_29 : decode cX1_become 29 = .ok (.getfield 19, 3) := by decide +kernel
theorem dX1_become_32 : decode cX1_become 32 = .ok (.iconst 0, 1) := by decide +kernel
theorem dX1_become_33 : decode cX1_become 33 = .ok (.bipush 10, 2) := by decide +kernel
theorem dX1_become_35 : decode cX1_become 35 = .ok (.invokestatic 25, 3) := by decide +kernel
theorem dX1_become_38 : decode cX1_become 38 = .ok (.aload_n 1, 1) := by decide +kernel
theorem dX1_become_39 : decode cX1_become 39 = .ok (.getfield 22, 3) := by decide +kernel
theorem dX1_become_42 : decode cX1_become 42 = .ok (.iconst 0, 1) := by decide +kernel
theorem dX1_become_43 : decode cX1_become 43 = .ok (.aload_n 0, 1) := by decide +kernel
theorem dX1_become_44 : decode cX1_become 44 = .ok (.getfield 22, 3) := by decide +kernel
theorem dX1_become_47 : decode cX1_become 47 = .ok (.iconst 0, 1) := by decide +kernel
theorem dX1_become_48 : decode cX1_become 48 = .ok (.bipush 10, 2) := by decide +kernel
theorem dX1_become_50 : decode cX1_become 50 = .ok (.invokestatic 25, 3) := by decide +kernel
theorem dX1_become_53 : decode cX1_become 53 = .ok (.return_, 1) := by decide +kernel
theorem dX1_become__0 : decode cX1_become_ 0 = .ok (.aload_n 0, 1) := by decide +kernel
theorem dX1_become__1 : decode cX1_become_ 1 = .ok (.iload_n 1, 1) := by decide +kernel
theorem dX1_become__2 : decode cX1_become_ 2 = .ok (.invokevirtual 31, 3) := by decide +kernel
theorem dX1_become__5 : decode cX1_become_ 5 = .ok (.ifCond .eq 17, 3) := by decide +kernel
theorem dX1_become__8 : decode cX1_become_ 8 = .ok (.aload_n 0, 1) := by decide +kernel
theorem dX1_become__9 : decode cX1_become_ 9 = .ok (.getfield 15, 3) := by decide +kernel
theorem dX1_become__12 : decode cX1_become_ 12 = .ok (.iload_n 1, 1) := by decide +kernel
theorem dX1_become__13 : decode cX1_become_ 13 = .ok (.iload_n 2, 1) := by decide +kernel
theorem dX1_become__14 : decode cX1_become_ 14 = .ok (.iastore, 1) := by decide +kernel
theorem dX1_become__15 : decode cX1_become_ 15 = .ok (.aload_n 0, 1) := by decide +kernel
theorem dX1_become__16 : decode cX1_become_ 16 = .ok (.getfield 19, 3) := by decide +kernel
theorem dX1_become__19 : decode cX1_become_ 19 = .ok (.iload_n 1, 1) := by decide +kernel
theorem dX1_become__20 : decode cX1_become_ 20 = .ok (.iload_n 3, 1) := by decide +kernel
theorem dX1_become__21 : decode cX1_become_ 21 = .ok (.iastore, 1) := by decide +kernel
theorem dX1_become__22 : decode cX1_become_ 22 = .ok (.return_, 1) := by decide +kernel
theorem dX1_exchange_0 : decode cX1_exchange 0 = .ok (.aload_n 0, 1) := by decide +kernel
theorem dX1_exchange_1 : decode cX1_exchange 1 = .ok (.iload_n 1, 1) := by decide +kernel
theorem dX1_exchange_2 : decode cX1_exchange 2 = .ok (.invokevirtual 31, 3) := by decide +kernel
theorem dX1_exchange_5 : decode cX1_exchange 5 = .ok (.ifCond .eq 38, 3) := by decide +kernel
theorem dX1_exchange_8 : decode cX1_exchange 8 = .ok (.aload_n 0, 1) := by decide +kernel
theorem dX1_exchange_9 : decode cX1_exchange 9 = .ok (.iload_n 2, 1) := by decide +kernel
theorem dX1_exchange_10 : decode cX1_exchange 10 = .ok (.invokevirtual 31, 3) := by decide +kernel
theorem dX1_exchange_13 : decode cX1_exchange 13 = .ok (.ifCond .eq 30, 3) := by decide +kernel
theorem dX1_exchange_16 : decode cX1_exchange 16 = .ok (.aload_n 0, 1) := by decide +kernel
theorem dX1_exchange_17 : decode cX1_exchange 17 = .ok (.getfield 15, 3) := by decide +kernel
theorem dX1_exchange_20 : decode cX1_exchange 20 = .ok (.iload_n 1, 1) := by decide +kernel
theorem dX1_exchange_21 : decode cX1_exchange 21 = .ok (.iload_n 2, 1) := by decide +kernel
theorem dX1_exchange_22 : decode cX1_exchange 22 = .ok (.invokestatic 35, 3) := by decide +kernel
theorem dX1_exchange_25 : decode cX1_exchange 25 = .ok (.aload_n 0, 1) := by decide +kernel
theorem dX1_exchange_26 : decode cX1_exchange 26 = .ok (.getfield 19, 3) := by decide +kernel
theorem dX1_exchange_29 : decode cX1_exchange 29 = .ok (.iload_n 1, 1) := by decide +kernel
theorem dX1_exchange_30 : decode cX1_exchange 30 = .ok (.iload_n 2, 1) := by decide +kernel
theorem dX1_exchange_31 : decode cX1_exchange 31 = .ok (.invokestatic 35, 3) := by decide +kernel
theorem dX1_exchange_34 : decode cX1_exchange 34 = .ok (.aload_n 0, 1) := by decide +kernel
theorem dX1_exchange_35 : decode cX1_exchange 35 = .ok (.getfield 22, 3) := by decide +kernel
theorem dX1_exchange_38 : decode cX1_exchange 38 = .ok (.iload_n 1, 1) := by decide +kernel
theorem dX1_exchange_39 : decode cX1_exchange 39 = .ok (.iload_n 2, 1) := by decide +kernel
theorem dX1_exchange_40 : decode cX1_exchange 40 = .ok (.invokestatic 35, 3) := by decide +kernel
theorem dX1_exchange_43 : decode cX1_exchange 43 = .ok (.return_, 1) := by decide +kernel
theorem dX1_exchange__0 : decode cX1_exchange_ 0 = .ok (.aload_n 0, 1) := by decide +kernel
theorem dX1_exchange__1 : decode cX1_exchange_ 1 = .ok (.iload_n 1, 1) := by decide +kernel
theorem dX1_exchange__2 : decode cX1_exchange_ 2 = .ok (.iaload, 1) := by decide +kernel
theorem dX1_exchange__3 : decode cX1_exchange_ 3 = .ok (.istore_n 3, 1) := by decide +kernel
theorem dX1_exchange__4 : decode cX1_exchange_ 4 = .ok (.aload_n 0, 1) := by decide +kernel
theorem dX1_exchange__5 : decode cX1_exchange_ 5 = .ok (.iload_n 1, 1) := by decide +kernel
theorem dX1_exchange__6 : decode cX1_exchange_ 6 = .ok (.aload_n 0, 1) := by decide +kernel
theorem dX1_exchange__7 : decode cX1_exchange_ 7 = .ok (.iload_n 2, 1) := by decide +kernel
theorem dX1_exchange__8 : decode cX1_exchange_ 8 = .ok (.iaload, 1) := by decide +kernel
theorem dX1_exchange__9 : decode cX1_exchange_ 9 = .ok (.iastore, 1) := by decide +kernel
theorem dX1_exchange__10 : decode cX1_exchange_ 10 = .ok (.aload_n 0, 1) := by decide +kernel
theorem dX1_exchange__11 : decode cX1_exchange_ 11 = .ok (.iload_n 2, 1) := by decide +kernel
theorem dX1_exchange__12 : decode cX1_exchange_ 12 = .ok (.iload_n 3, 1) := by decide +kernel
theorem dX1_exchange__13 : decode cX1_exchange_ 13 = .ok (.iastore, 1) := by decide +kernel
theorem dX1_exchange__14 : decode cX1_exchange_ 14 = .ok (.return_, 1) := by decide +kernel
theorem dX1_remove_0 : decode cX1_remove 0 = .ok (.aload_n 0, 1) := by decide +kernel
theorem dX1_remove_1 : decode cX1_remove 1 = .ok (.iload_n 1, 1) := by decide +kernel
theorem dX1_remove_2 : decode cX1_remove 2 = .ok (.invokevirtual 31, 3) := by decide +kernel
theorem dX1_remove_5 : decode cX1_remove 5 = .ok (.ifCond .ne 4, 3) := by decide +kernel
theorem dX1_remove_8 : decode cX1_remove 8 = .ok (.return_, 1) := by decide +kernel
theorem dX1_remove_9 : decode cX1_remove 9 = .ok (.iload_n 1, 1) := by decide +kernel
theorem dX1_remove_10 : decode cX1_remove 10 = .ok (.istore_n 2, 1) := by decide +kernel
theorem dX1_remove_11 : decode cX1_remove 11 = .ok (.iload_n 2, 1) := by decide +kernel
theorem dX1_remove_12 : decode cX1_remove 12 = .ok (.iconst 1, 1) := by decide +kernel
theorem dX1_remove_13 : decode cX1_remove 13 = .ok (.iadd, 1) := by decide +kernel
theorem dX1_remove_14 : decode cX1_remove 14 = .ok (.aload_n 0, 1) := by decide +kernel
theorem dX1_remove_15 : decode cX1_remove 15 = .ok (.getfield 9, 3) := by decide +kernel
theorem dX1_remove_18 : decode cX1_remove 18 = .ok (.if_icmp .ge 51, 3) := by decide +kernel
theorem dX1_remove_21 : decode cX1_remove 21 = .ok (.aload_n 0, 1) := by decide +kernel
theorem dX1_remove_22 : decode cX1_remove 22 = .ok (.getfield 15, 3) := by decide +kernel
theorem dX1_remove_25 : decode cX1_remove 25 = .ok (.iload_n 2, 1) := by decide +kernel
theorem dX1_remove_26 : decode cX1_remove 26 = .ok (.aload_n 0, 1) := by decide +kernel
theorem dX1_remove_27 : decode cX1_remove 27 = .ok (.getfield 15, 3) := by decide +kernel
theorem dX1_remove_30 : decode cX1_remove 30 = .ok (.iload_n 2, 1) := by decide +kernel
theorem dX1_remove_31 : decode cX1_remove 31 = .ok (.iconst 1, 1) := by decide +kernel
theorem dX1_remove_32 : decode cX1_remove 32 = .ok (.iadd, 1) := by decide +kernel
theorem dX1_remove_33 : decode cX1_remove 33 = .ok (.iaload, 1) := by decide +kernel
theorem dX1_remove_34 : decode cX1_remove 34 = .ok (.iastore, 1) := by decide +kernel
theorem dX1_remove_35 : decode cX1_remove 35 = .ok (.aload_n 0, 1) := by decide +kernel
theorem dX1_remove_36 : decode cX1_remove 36 = .ok (.getfield 19, 3) := by decide +kernel
theorem dX1_remove_39 : decode cX1_remove 39 = .ok (.iload_n 2, 1) := by decide +kernel
theorem dX1_remove_40 : decode cX1_remove 40 = .ok (.aload_n 0, 1) := by decide +kernel
theorem dX1_remove_41 : decode cX1_remove 41 = .ok (.getfield 19, 3) := by decide +kernel
theorem dX1_remove_44 : decode cX1_remove 44 = .ok (.iload_n 2, 1) := by decide +kernel
theorem dX1_remove_45 : decode cX1_remove 45 = .ok (.iconst 1, 1) := by decide +kernel
theorem dX1_remove_46 : decode cX1_remove 46 = .ok (.iadd, 1) := by decide +kernel
theorem dX1_remove_47 : decode cX1_remove 47 = .ok (.iaload, 1) := by decide +kernel
theorem dX1_remove_48 : decode cX1_remove 48 = .ok (.iastore, 1) := by decide +kernel
theorem dX1_remove_49 : decode cX1_remove 49 = .ok (.aload_n 0, 1) := by decide +kernel
theorem dX1_remove_50 : decode cX1_remove 50 = .ok (.getfield 22, 3) := by decide +kernel
theorem dX1_remove_53 : decode cX1_remove 53 = .ok (.iload_n 2, 1) := by decide +kernel
theorem dX1_remove_54 : decode cX1_remove 54 = .ok (.aload_n 0, 1) := by decide +kernel
theorem dX1_remove_55 : decode cX1_remove 55 = .ok (.getfield 22, 3) := by decide +kernel
theorem dX1_remove_58 : decode cX1_remove 58 = .ok (.iload_n 2, 1) := by decide +kernel
theorem dX1_remove_59 : decode cX1_remove 59 = .ok (.iconst 1, 1) := by decide +kernel
theorem dX1_remove_60 : decode cX1_remove 60 = .ok (.iadd, 1) := by decide +kernel
theorem dX1_remove_61 : decode cX1_remove 61 = .ok (.iaload, 1) := by decide +kernel
theorem dX1_remove_62 : decode cX1_remove 62 = .ok (.iastore, 1) := by decide +kernel
theorem dX1_remove_63 : decode cX1_remove 63 = .ok (.iinc 2 1, 3) := by decide +kernel
theorem dX1_remove_66 : decode cX1_remove 66 = .ok (.goto (-55), 3) := by decide +kernel
theorem dX1_remove_69 : decode cX1_remove 69 = .ok (.aload_n 0, 1) := by decide +kernel
theorem dX1_remove_70 : decode cX1_remove 70 = .ok (.dup, 1) := by decide +kernel
theorem dX1_remove_71 : decode cX1_remove 71 = .ok (.getfield 9, 3) := by decide +kernel
theorem dX1_remove_74 : decode cX1_remove 74 = .ok (.iconst 1, 1) := by decide +kernel
theorem dX1_remove_75 : decode cX1_remove 75 = .ok (.isub, 1) := by decide +kernel
theorem dX1_remove_76 : decode cX1_remove 76 = .ok (.putfield 9, 3) := by decide +kernel
theorem dX1_remove_79 : decode cX1_remove 79 = .ok (.return_, 1) := by decide +kernel
theorem dX1_untried_0 : decode cX1_untried 0 = .ok (.aload_n 0, 1) := by decide +kernel
theorem dX1_untried_1 : decode cX1_untried 1 = .ok (.getfield 22, 3) := by decide +kernel
theorem dX1_untried_4 : decode cX1_untried 4 = .ok (.iload_n 1, 1) := by decide +kernel
theorem dX1_untried_5 : decode cX1_untried 5 = .ok (.iaload, 1) := by decide +kernel
theorem dX1_untried_6 : decode cX1_untried 6 = .ok (.istore_n 3, 1) := by decide +kernel
theorem dX1_untried_7 : decode cX1_untried 7 = .ok (.aload_n 0, 1) := by decide +kernel
theorem dX1_untried_8 : decode cX1_untried 8 = .ok (.getfield 19, 3) := by decide +kernel
theorem dX1_untried_11 : decode cX1_untried 11 = .ok (.iload_n 1, 1) := by decide +kernel
theorem dX1_untried_12 : decode cX1_untried 12 = .ok (.iaload, 1) := by decide +kernel
theorem dX1_untried_13 : decode cX1_untried 13 = .ok (.istore 4, 2) := by decide +kernel
theorem dX1_untried_15 : decode cX1_untried 15 = .ok (.aload_n 0, 1) := by decide +kernel
theorem dX1_untried_16 : decode cX1_untried 16 = .ok (.getfield 15, 3) := by decide +kernel
theorem dX1_untried_19 : decode cX1_untried 19 = .ok (.iload_n 1, 1) := by decide +kernel
theorem dX1_untried_20 : decode cX1_untried 20 = .ok (.iaload, 1) := by decide +kernel
theorem dX1_untried_21 : decode cX1_untried 21 = .ok (.tableswitch 143 0 5 #[39, 51, 66, 78, 93, 110], 39) := by decide +kernel
theorem dX1_untried_60 : decode cX1_untried 60 = .ok (.iload_n 3, 1) := by decide +kernel
theorem dX1_untried_61 : decode cX1_untried 61 = .ok (.bipush 20, 2) := by decide +kernel
theorem dX1_untried_63 : decode cX1_untried 63 = .ok (.aload_n 2, 1) := by decide +kernel
theorem dX1_untried_64 : decode cX1_untried 64 = .ok (.getfield 39, 3) := by decide +kernel
theorem dX1_untried_67 : decode cX1_untried 67 = .ok (.iconst 0, 1) := by decide +kernel
theorem dX1_untried_68 : decode cX1_untried 68 = .ok (.iaload, 1) := by decide +kernel
theorem dX1_untried_69 : decode cX1_untried 69 = .ok (.isub, 1) := by decide +kernel
theorem dX1_untried_70 : decode cX1_untried 70 = .ok (.imul, 1) := by decide +kernel
theorem dX1_untried_71 : decode cX1_untried 71 = .ok (.ireturn, 1) := by decide +kernel
theorem dX1_untried_72 : decode cX1_untried 72 = .ok (.iload_n 3, 1) := by decide +kernel
theorem dX1_untried_73 : decode cX1_untried 73 = .ok (.bipush 20, 2) := by decide +kernel
theorem dX1_untried_75 : decode cX1_untried 75 = .ok (.aload_n 2, 1) := by decide +kernel
theorem dX1_untried_76 : decode cX1_untried 76 = .ok (.getfield 39, 3) := by decide +kernel
theorem dX1_untried_79 : decode cX1_untried 79 = .ok (.iconst 0, 1) := by decide +kernel
theorem dX1_untried_80 : decode cX1_untried 80 = .ok (.iaload, 1) := by decide +kernel
theorem dX1_untried_81 : decode cX1_untried 81 = .ok (.isub, 1) := by decide +kernel
theorem dX1_untried_82 : decode cX1_untried 82 = .ok (.iload 4, 2) := by decide +kernel
theorem dX1_untried_84 : decode cX1_untried 84 = .ok (.isub, 1) := by decide +kernel
theorem dX1_untried_85 : decode cX1_untried 85 = .ok (.imul, 1) := by decide +kernel
theorem dX1_untried_86 : decode cX1_untried 86 = .ok (.ireturn, 1) := by decide +kernel
theorem dX1_untried_87 : decode cX1_untried 87 = .ok (.iload_n 3, 1) := by decide +kernel
theorem dX1_untried_88 : decode cX1_untried 88 = .ok (.bipush 20, 2) := by decide +kernel
theorem dX1_untried_90 : decode cX1_untried 90 = .ok (.aload_n 2, 1) := by decide +kernel
theorem dX1_untried_91 : decode cX1_untried 91 = .ok (.getfield 39, 3) := by decide +kernel
theorem dX1_untried_94 : decode cX1_untried 94 = .ok (.iconst 1, 1) := by decide +kernel
theorem dX1_untried_95 : decode cX1_untried 95 = .ok (.iaload, 1) := by decide +kernel
theorem dX1_untried_96 : decode cX1_untried 96 = .ok (.isub, 1) := by decide +kernel
theorem dX1_untried_97 : decode cX1_untried 97 = .ok (.imul, 1) := by decide +kernel
theorem dX1_untried_98 : decode cX1_untried 98 = .ok (.ireturn, 1) := by decide +kernel
theorem dX1_untried_99 : decode cX1_untried 99 = .ok (.iload_n 3, 1) := by decide +kernel
theorem dX1_untried_100 : decode cX1_untried 100 = .ok (.bipush 20, 2) := by decide +kernel
theorem dX1_untried_102 : decode cX1_untried 102 = .ok (.aload_n 2, 1) := by decide +kernel
theorem dX1_untried_103 : decode cX1_untried 103 = .ok (.getfield 39, 3) := by decide +kernel
theorem dX1_untried_106 : decode cX1_untried 106 = .ok (.iconst 1, 1) := by decide +kernel
theorem dX1_untried_107 : decode cX1_untried 107 = .ok (.iaload, 1) := by decide +kernel
theorem dX1_untried_108 : decode cX1_untried 108 = .ok (.isub, 1) := by decide +kernel
theorem dX1_untried_109 : decode cX1_untried 109 = .ok (.iload 4, 2) := by decide +kernel
theorem dX1_untried_111 : decode cX1_untried 111 = .ok (.iadd, 1) := by decide +kernel
theorem dX1_untried_112 : decode cX1_untried 112 = .ok (.imul, 1) := by decide +kernel
theorem dX1_untried_113 : decode cX1_untried 113 = .ok (.ireturn, 1) := by decide +kernel
theorem dX1_untried_114 : decode cX1_untried 114 = .ok (.iload_n 3, 1) := by decide +kernel
theorem dX1_untried_115 : decode cX1_untried 115 = .ok (.bipush 20, 2) := by decide +kernel
theorem dX1_untried_117 : decode cX1_untried 117 = .ok (.aload_n 2, 1) := by decide +kernel
theorem dX1_untried_118 : decode cX1_untried 118 = .ok (.getfield 39, 3) := by decide +kernel
theorem dX1_untried_121 : decode cX1_untried 121 = .ok (.iconst 1, 1) := by decide +kernel
theorem dX1_untried_122 : decode cX1_untried 122 = .ok (.iaload, 1) := by decide +kernel
theorem dX1_untried_123 : decode cX1_untried 123 = .ok (.isub, 1) := by decide +kernel
theorem dX1_untried_124 : decode cX1_untried 124 = .ok (.iload 4, 2) := by decide +kernel
theorem dX1_untried_126 : decode cX1_untried 126 = .ok (.iconst 2, 1) := by decide +kernel
theorem dX1_untried_127 : decode cX1_untried 127 = .ok (.idiv, 1) := by decide +kernel
theorem dX1_untried_128 : decode cX1_untried 128 = .ok (.iadd, 1) := by decide +kernel
theorem dX1_untried_129 : decode cX1_untried 129 = .ok (.imul, 1) := by decide +kernel
theorem dX1_untried_130 : decode cX1_untried 130 = .ok (.ireturn, 1) := by decide +kernel
theorem dX1_untried_131 : decode cX1_untried 131 = .ok (.aload_n 0, 1) := by decide +kernel
theorem dX1_untried_132 : decode cX1_untried 132 = .ok (.iload_n 1, 1) := by decide +kernel
theorem dX1_untried_133 : decode cX1_untried 133 = .ok (.invokevirtual 44, 3) := by decide +kernel
theorem dX1_untried_136 : decode cX1_untried 136 = .ok (.ifCond .eq 10, 3) := by decide +kernel
theorem dX1_untried_139 : decode cX1_untried 139 = .ok (.iload_n 3, 1) := by decide +kernel
theorem dX1_untried_140 : decode cX1_untried 140 = .ok (.iload 4, 2) := by decide +kernel
theorem dX1_untried_142 : decode cX1_untried 142 = .ok (.iadd, 1) := by decide +kernel
theorem dX1_untried_143 : decode cX1_untried 143 = .ok (.goto 4, 3) := by decide +kernel
theorem dX1_untried_146 : decode cX1_untried 146 = .ok (.iconst 0, 1) := by decide +kernel
theorem dX1_untried_147 : decode cX1_untried 147 = .ok (.istore 5, 2) := by decide +kernel
theorem dX1_untried_149 : decode cX1_untried 149 = .ok (.iload_n 3, 1) := by decide +kernel
theorem dX1_untried_150 : decode cX1_untried 150 = .ok (.bipush 22, 2) := by decide +kernel
theorem dX1_untried_152 : decode cX1_untried 152 = .ok (.aload_n 2, 1) := by decide +kernel
theorem dX1_untried_153 : decode cX1_untried 153 = .ok (.getfield 39, 3) := by decide +kernel
theorem dX1_untried_156 : decode cX1_untried 156 = .ok (.iconst 2, 1) := by decide +kernel
theorem dX1_untried_157 : decode cX1_untried 157 = .ok (.iaload, 1) := by decide +kernel
theorem dX1_untried_158 : decode cX1_untried 158 = .ok (.isub, 1) := by decide +kernel
theorem dX1_untried_159 : decode cX1_untried 159 = .ok (.imul, 1) := by decide +kernel
theorem dX1_untried_160 : decode cX1_untried 160 = .ok (.iload 5, 2) := by decide +kernel
theorem dX1_untried_162 : decode cX1_untried 162 = .ok (.iadd, 1) := by decide +kernel
theorem dX1_untried_163 : decode cX1_untried 163 = .ok (.ireturn, 1) := by decide +kernel
theorem dX1_untried_164 : decode cX1_untried 164 = .ok (.bipush 10, 2) := by decide +kernel
theorem dX1_untried_166 : decode cX1_untried 166 = .ok (.iconst 5, 1) := by decide +kernel
theorem dX1_untried_167 : decode cX1_untried 167 = .ok (.iload 4, 2) := by decide +kernel
theorem dX1_untried_169 : decode cX1_untried 169 = .ok (.imul, 1) := by decide +kernel
theorem dX1_untried_170 : decode cX1_untried 170 = .ok (.iadd, 1) := by decide +kernel
theorem dX1_untried_171 : decode cX1_untried 171 = .ok (.ireturn, 1) := by decide +kernel
theorem dX1_isBehindRide_0 : decode cX1_isBehindRide 0 = .ok (.iload_n 1, 1) := by decide +kernel
theorem dX1_isBehindRide_1 : decode cX1_isBehindRide 1 = .ok (.ifCond .le 21, 3) := by decide +kernel
theorem dX1_isBehindRide_4 : decode cX1_isBehindRide 4 = .ok (.aload_n 0, 1) := by decide +kernel
theorem dX1_isBehindRide_5 : decode cX1_isBehindRide 5 = .ok (.getfield 15, 3) := by decide +kernel
theorem dX1_isBehindRide_8 : decode cX1_isBehindRide 8 = .ok (.iload_n 1, 1) := by decide +kernel
theorem dX1_isBehindRide_9 : decode cX1_isBehindRide 9 = .ok (.iconst 1, 1) := by decide +kernel
theorem dX1_isBehindRide_10 : decode cX1_isBehindRide 10 = .ok (.isub, 1) := by decide +kernel
theorem dX1_isBehindRide_11 : decode cX1_isBehindRide 11 = .ok (.iaload, 1) := by decide +kernel
theorem dX1_isBehindRide_12 : decode cX1_isBehindRide 12 = .ok (.invokestatic 47, 3) := by decide +kernel
theorem dX1_isBehindRide_15 : decode cX1_isBehindRide 15 = .ok (.ifCond .eq 7, 3) := by decide +kernel
theorem dX1_isBehindRide_18 : decode cX1_isBehindRide 18 = .ok (.iconst 1, 1) := by decide +kernel
theorem dX1_isBehindRide_19 : decode cX1_isBehindRide 19 = .ok (.goto 4, 3) := by decide +kernel
theorem dX1_isBehindRide_22 : decode cX1_isBehindRide 22 = .ok (.iconst 0, 1) := by decide +kernel
theorem dX1_isBehindRide_23 : decode cX1_isBehindRide 23 = .ok (.ireturn, 1) := by decide +kernel
theorem dX1_lengths_0 : decode cX1_lengths 0 = .ok (.iconst 0, 1) := by decide +kernel
theorem dX1_lengths_1 : decode cX1_lengths 1 = .ok (.istore_n 1, 1) := by decide +kernel
theorem dX1_lengths_2 : decode cX1_lengths 2 = .ok (.iconst 0, 1) := by decide +kernel
theorem dX1_lengths_3 : decode cX1_lengths 3 = .ok (.istore_n 2, 1) := by decide +kernel
theorem dX1_lengths_4 : decode cX1_lengths 4 = .ok (.iload_n 2, 1) := by decide +kernel
theorem dX1_lengths_5 : decode cX1_lengths 5 = .ok (.aload_n 0, 1) := by decide +kernel
theorem dX1_lengths_6 : decode cX1_lengths 6 = .ok (.getfield 9, 3) := by decide +kernel
theorem dX1_lengths_9 : decode cX1_lengths 9 = .ok (.if_icmp .ge 18, 3) := by decide +kernel
theorem dX1_lengths_12 : decode cX1_lengths 12 = .ok (.iload_n 1, 1) := by decide +kernel
theorem dX1_lengths_13 : decode cX1_lengths 13 = .ok (.aload_n 0, 1) := by decide +kernel
theorem dX1_lengths_14 : decode cX1_lengths 14 = .ok (.getfield 22, 3) := by decide +kernel
theorem dX1_lengths_17 : decode cX1_lengths 17 = .ok (.iload_n 2, 1) := by decide +kernel
theorem dX1_lengths_18 : decode cX1_lengths 18 = .ok (.iaload, 1) := by decide +kernel
theorem dX1_lengths_19 : decode cX1_lengths 19 = .ok (.iadd, 1) := by decide +kernel
theorem dX1_lengths_20 : decode cX1_lengths 20 = .ok (.istore_n 1, 1) := by decide +kernel
theorem dX1_lengths_21 : decode cX1_lengths 21 = .ok (.iinc 2 1, 3) := by decide +kernel
theorem dX1_lengths_24 : decode cX1_lengths 24 = .ok (.goto (-20), 3) := by decide +kernel
theorem dX1_lengths_27 : decode cX1_lengths 27 = .ok (.iload_n 1, 1) := by decide +kernel
theorem dX1_lengths_28 : decode cX1_lengths 28 = .ok (.ireturn, 1) := by decide +kernel
theorem dX1_changes_0 : decode cX1_changes 0 = .ok (.iconst 0, 1) := by decide +kernel
theorem dX1_changes_1 : decode cX1_changes 1 = .ok (.istore_n 1, 1) := by decide +kernel
theorem dX1_changes_2 : decode cX1_changes 2 = .ok (.iconst 0, 1) := by decide +kernel
theorem dX1_changes_3 : decode cX1_changes 3 = .ok (.istore_n 2, 1) := by decide +kernel
theorem dX1_changes_4 : decode cX1_changes 4 = .ok (.iload_n 2, 1) := by decide +kernel
theorem dX1_changes_5 : decode cX1_changes 5 = .ok (.aload_n 0, 1) := by decide +kernel
theorem dX1_changes_6 : decode cX1_changes 6 = .ok (.getfield 9, 3) := by decide +kernel
theorem dX1_changes_9 : decode cX1_changes 9 = .ok (.if_icmp .ge 23, 3) := by decide +kernel
theorem dX1_changes_12 : decode cX1_changes 12 = .ok (.aload_n 0, 1) := by decide +kernel
theorem dX1_changes_13 : decode cX1_changes 13 = .ok (.getfield 15, 3) := by decide +kernel
theorem dX1_changes_16 : decode cX1_changes 16 = .ok (.iload_n 2, 1) := by decide +kernel
theorem dX1_changes_17 : decode cX1_changes 17 = .ok (.iaload, 1) := by decide +kernel
theorem dX1_changes_18 : decode cX1_changes 18 = .ok (.bipush 6, 2) := by decide +kernel
theorem dX1_changes_20 : decode cX1_changes 20 = .ok (.if_icmp .ne 6, 3) := by decide +kernel
theorem dX1_changes_23 : decode cX1_changes 23 = .ok (.iinc 1 1, 3) := by decide +kernel
theorem dX1_changes_26 : decode cX1_changes 26 = .ok (.iinc 2 1, 3) := by decide +kernel
theorem dX1_changes_29 : decode cX1_changes 29 = .ok (.goto (-25), 3) := by decide +kernel
theorem dX1_changes_32 : decode cX1_changes 32 = .ok (.iload_n 1, 1) := by decide +kernel
theorem dX1_changes_33 : decode cX1_changes 33 = .ok (.ireturn, 1) := by decide +kernel
theorem dX1_rides_0 : decode cX1_rides 0 = .ok (.iconst 0, 1) := by decide +kernel
theorem dX1_rides_1 : decode cX1_rides 1 = .ok (.istore_n 1, 1) := by decide +kernel
theorem dX1_rides_2 : decode cX1_rides 2 = .ok (.iconst 0, 1) := by decide +kernel
theorem dX1_rides_3 : decode cX1_rides 3 = .ok (.istore_n 2, 1) := by decide +kernel
theorem dX1_rides_4 : decode cX1_rides 4 = .ok (.iload_n 2, 1) := by decide +kernel
theorem dX1_rides_5 : decode cX1_rides 5 = .ok (.aload_n 0, 1) := by decide +kernel
theorem dX1_rides_6 : decode cX1_rides 6 = .ok (.getfield 9, 3) := by decide +kernel
theorem dX1_rides_9 : decode cX1_rides 9 = .ok (.if_icmp .ge 24, 3) := by decide +kernel
theorem dX1_rides_12 : decode cX1_rides 12 = .ok (.aload_n 0, 1) := by decide +kernel
theorem dX1_rides_13 : decode cX1_rides 13 = .ok (.getfield 15, 3) := by decide +kernel
theorem dX1_rides_16 : decode cX1_rides 16 = .ok (.iload_n 2, 1) := by decide +kernel
theorem dX1_rides_17 : decode cX1_rides 17 = .ok (.iaload, 1) := by decide +kernel
theorem dX1_rides_18 : decode cX1_rides 18 = .ok (.invokestatic 47, 3) := by decide +kernel
theorem dX1_rides_21 : decode cX1_rides 21 = .ok (.ifCond .eq 6, 3) := by decide +kernel
theorem dX1_rides_24 : decode cX1_rides 24 = .ok (.iinc 1 1, 3) := by decide +kernel
theorem dX1_rides_27 : decode cX1_rides 27 = .ok (.iinc 2 1, 3) := by decide +kernel
theorem dX1_rides_30 : decode cX1_rides 30 = .ok (.goto (-26), 3) := by decide +kernel
theorem dX1_rides_33 : decode cX1_rides 33 = .ok (.iload_n 1, 1) := by decide +kernel
theorem dX1_rides_34 : decode cX1_rides 34 = .ok (.ireturn, 1) := by decide +kernel
theorem dX2_init_0 : decode cX2_init 0 = .ok (.aload_n 0, 1) := by decide +kernel
theorem dX2_init_1 : decode cX2_init 1 = .ok (.invokespecial 3, 3) := by decide +kernel
theorem dX2_init_4 : decode cX2_init 4 = .ok (.aload_n 0, 1) := by decide +kernel
theorem dX2_init_5 : decode cX2_init 5 = .ok (.iconst 4, 1) := by decide +kernel
theorem dX2_init_6 : decode cX2_init 6 = .ok (.newarray .int, 2) := by decide +kernel
theorem dX2_init_8 : decode cX2_init 8 = .ok (.putfield 9, 3) := by decide +kernel
theorem dX2_init_11 : decode cX2_init 11 = .ok (.aload_n 0, 1) := by decide +kernel
theorem dX2_init_12 : decode cX2_init 12 = .ok (.iconst 4, 1) := by decide +kernel
theorem dX2_init_13 : decode cX2_init 13 = .ok (.newarray .int, 2) := by decide +kernel
theorem dX2_init_15 : decode cX2_init 15 = .ok (.putfield 15, 3) := by decide +kernel
theorem dX2_init_18 : decode cX2_init 18 = .ok (.return_, 1) := by decide +kernel
theorem dX2_settled_0 : decode cX2_settled 0 = .ok (.iconst 0, 1) := by decide +kernel
theorem dX2_settled_1 : decode cX2_settled 1 = .ok (.istore_n 1, 1) := by decide +kernel
theorem dX2_settled_2 : decode cX2_settled 2 = .ok (.iload_n 1, 1) := by decide +kernel
theorem dX2_settled_3 : decode cX2_settled 3 = .ok (.iconst 3, 1) := by decide +kernel
theorem dX2_settled_4 : decode cX2_settled 4 = .ok (.if_icmp .gt 53, 3) := by decide +kernel
theorem dX2_settled_7 : decode cX2_settled 7 = .ok (.iconst 0, 1) := by decide +kernel
theorem dX2_settled_8 : decode cX2_settled 8 = .ok (.istore_n 2, 1) := by decide +kernel
theorem dX2_settled_9 : decode cX2_settled 9 = .ok (.iload_n 2, 1) := by decide +kernel
theorem dX2_settled_10 : decode cX2_settled 10 = .ok (.iconst 3, 1) := by decide +kernel
theorem dX2_settled_11 : decode cX2_settled 11 = .ok (.if_icmp .gt 40, 3) := by decide +kernel
theorem dX2_settled_14 : decode cX2_settled 14 = .ok (.aload_n 0, 1) := by decide +kernel
theorem dX2_settled_15 : decode cX2_settled 15 = .ok (.getfield 9, 3) := by decide +kernel
theorem dX2_settled_18 : decode cX2_settled 18 = .ok (.iload_n 1, 1) := by decide +kernel
theorem dX2_settled_19 : decode cX2_settled 19 = .ok (.iload_n 2, 1) := by decide +kernel
theorem dX2_settled_20 : decode cX2_settled 20 = .ok (.invokestatic 18, 3) := by decide +kernel
theorem dX2_settled_23 : decode cX2_settled 23 = .ok (.ifCond .eq 22, 3) := by decide +kernel
theorem dX2_settled_26 : decode cX2_settled 26 = .ok (.aload_n 0, 1) := by decide +kernel
theorem dX2_settled_27 : decode cX2_settled 27 = .ok (.getfield 15, 3) := by decide +kernel
theorem dX2_settled_30 : decode cX2_settled 30 = .ok (.iload_n 2, 1) := by decide +kernel
theorem dX2_settled_31 : decode cX2_settled 31 = .ok (.iload_n 1, 1) := by decide +kernel
theorem dX2_settled_32 : decode cX2_settled 32 = .ok (.invokestatic 18, 3) := by decide +kernel
theorem dX2_settled_35 : decode cX2_settled 35 = .ok (.ifCond .eq 10, 3) := by decide +kernel
theorem dX2_settled_38 : decode cX2_settled 38 = .ok (.bipush 10, 2) := by decide +kernel
theorem dX2_settled_40 : decode cX2_settled 40 = .ok (.iload_n 1, 1) := by decide +kernel
theorem dX2_settled_41 : decode cX2_settled 41 = .ok (.imul, 1) := by decide +kernel
theorem dX2_settled_42 : decode cX2_settled 42 = .ok (.iload_n 2, 1) := by decide +kernel
theorem dX2_settled_43 : decode cX2_settled 43 = .ok (.iadd, 1) := by decide +kernel
theorem dX2_settled_44 : decode cX2_settled 44 = .ok (.ireturn, 1) := by decide +kernel
theorem dX2_settled_45 : decode cX2_settled 45 = .ok (.iinc 2 1, 3) := by decide +kernel
theorem dX2_settled_48 : decode cX2_settled 48 = .ok (.goto (-39), 3) := by decide +kernel
theorem dX2_settled_51 : decode cX2_settled 51 = .ok (.iinc 1 1, 3) := by decide +kernel
theorem dX2_settled_54 : decode cX2_settled 54 = .ok (.goto (-52), 3) := by decide +kernel
theorem dX2_settled_57 : decode cX2_settled 57 = .ok (.bipush (-9), 2) := by decide +kernel
theorem dX2_settled_59 : decode cX2_settled 59 = .ok (.ireturn, 1) := by decide +kernel
theorem dX2_isBestAgainst_0 : decode cX2_isBestAgainst 0 = .ok (.aload_n 0, 1) := by decide +kernel
theorem dX2_isBestAgainst_1 : decode cX2_isBestAgainst 1 = .ok (.iload_n 1, 1) := by decide +kernel
theorem dX2_isBestAgainst_2 : decode cX2_isBestAgainst 2 = .ok (.iload_n 2, 1) := by decide +kernel
theorem dX2_isBestAgainst_3 : decode cX2_isBestAgainst 3 = .ok (.invokestatic 22, 3) := by decide +kernel
theorem dX2_isBestAgainst_6 : decode cX2_isBestAgainst 6 = .ok (.istore_n 3, 1) := by decide +kernel
theorem dX2_isBestAgainst_7 : decode cX2_isBestAgainst 7 = .ok (.iconst 0, 1) := by decide +kernel
theorem dX2_isBestAgainst_8 : decode cX2_isBestAgainst 8 = .ok (.istore 4, 2) := by decide +kernel
theorem dX2_isBestAgainst_10 : decode cX2_isBestAgainst 10 = .ok (.iload 4, 2) := by decide +kernel
theorem dX2_isBestAgainst_12 : decode cX2_isBestAgainst 12 = .ok (.iconst 3, 1) := by decide +kernel
theorem dX2_isBestAgainst_13 : decode cX2_isBestAgainst 13 = .ok (.if_icmp .gt 22, 3) := by decide +kernel
theorem dX2_isBestAgainst_16 : decode cX2_isBestAgainst 16 = .ok (.aload_n 0, 1) := by decide +kernel
theorem dX2_isBestAgainst_17 : decode cX2_isBestAgainst 17 = .ok (.iload 4, 2) := by decide +kernel
theorem dX2_isBestAgainst_19 : decode cX2_isBestAgainst 19 = .ok (.iload_n 2, 1) := by decide +kernel
theorem dX2_isBestAgainst_20 : decode cX2_isBestAgainst 20 = .ok (.invokestatic 22, 3) := by decide +kernel
theorem dX2_isBestAgainst_23 : decode cX2_isBestAgainst 23 = .ok (.iload_n 3, 1) := by decide +kernel
theorem dX2_isBestAgainst_24 : decode cX2_isBestAgainst 24 = .ok (.if_icmp .ge 5, 3) := by decide +kernel
theorem dX2_isBestAgainst_27 : decode cX2_isBestAgainst 27 = .ok (.iconst 0, 1) := by decide +kernel
theorem dX2_isBestAgainst_28 : decode cX2_isBestAgainst 28 = .ok (.ireturn, 1) := by decide +kernel
theorem dX2_isBestAgainst_29 : decode cX2_isBestAgainst 29 = .ok (.iinc 4 1, 3) := by decide +kernel
theorem dX2_isBestAgainst_32 : decode cX2_isBestAgainst 32 = .ok (.goto (-22), 3) := by decide +kernel
theorem dX2_isBestAgainst_35 : decode cX2_isBestAgainst 35 = .ok (.iconst 1, 1) := by decide +kernel
theorem dX2_isBestAgainst_36 : decode cX2_isBestAgainst 36 = .ok (.ireturn, 1) := by decide +kernel
theorem dX2_hindered_0 : decode cX2_hindered 0 = .ok (.iload_n 1, 1) := by decide +kernel
theorem dX2_hindered_1 : decode cX2_hindered 1 = .ok (.iload_n 2, 1) := by decide +kernel
theorem dX2_hindered_2 : decode cX2_hindered 2 = .ok (.if_icmp .ge 11, 3) := by decide +kernel
theorem dX2_hindered_5 : decode cX2_hindered 5 = .ok (.aload_n 0, 1) := by decide +kernel
theorem dX2_hindered_6 : decode cX2_hindered 6 = .ok (.iload_n 1, 1) := by decide +kernel
theorem dX2_hindered_7 : decode cX2_hindered 7 = .ok (.iaload, 1) := by decide +kernel
theorem dX2_hindered_8 : decode cX2_hindered 8 = .ok (.iconst 5, 1) := by decide +kernel
theorem dX2_hindered_9 : decode cX2_hindered 9 = .ok (.iadd, 1) := by decide +kernel
theorem dX2_hindered_10 : decode cX2_hindered 10 = .ok (.goto 6, 3) := by decide +kernel
theorem dX2_hindered_13 : decode cX2_hindered 13 = .ok (.aload_n 0, 1) := by decide +kernel
theorem dX2_hindered_14 : decode cX2_hindered 14 = .ok (.iload_n 1, 1) := by decide +kernel
theorem dX2_hindered_15 : decode cX2_hindered 15 = .ok (.iaload, 1) := by decide +kernel
theorem dX2_hindered_16 : decode cX2_hindered 16 = .ok (.ireturn, 1) := by decide +kernel
theorem dX3_init_0 : decode cX3_init 0 = .ok (.aload_n 0, 1) := by decide +kernel
theorem dX3_init_1 : decode cX3_init 1 = .ok (.invokespecial 3, 3) := by decide +kernel
theorem dX3_init_4 : decode cX3_init 4 = .ok (.aload_n 0, 1) := by decide +kernel
theorem dX3_init_5 : decode cX3_init 5 = .ok (.new 9, 3) := by decide +kernel
theorem dX3_init_8 : decode cX3_init 8 = .ok (.dup, 1) := by decide +kernel
theorem dX3_init_9 : decode cX3_init 9 = .ok (.invokespecial 11, 3) := by decide +kernel
theorem dX3_init_12 : decode cX3_init 12 = .ok (.putfield 12, 3) := by decide +kernel
theorem dX3_init_15 : decode cX3_init 15 = .ok (.aload_n 0, 1) := by decide +kernel
theorem dX3_init_16 : decode cX3_init 16 = .ok (.iconst 5, 1) := by decide +kernel
theorem dX3_init_17 : decode cX3_init 17 = .ok (.anewarray 18, 3) := by decide +kernel
theorem dX3_init_20 : decode cX3_init 20 = .ok (.putfield 20, 3) := by decide +kernel
theorem dX3_init_23 : decode cX3_init 23 = .ok (.aload_n 0, 1) := by decide +kernel
theorem dX3_init_24 : decode cX3_init 24 = .ok (.iconst 0, 1) := by decide +kernel
theorem dX3_init_25 : decode cX3_init 25 = .ok (.putfield 24, 3) := by decide +kernel
theorem dX3_init_28 : decode cX3_init 28 = .ok (.iconst 0, 1) := by decide +kernel
theorem dX3_init_29 : decode cX3_init 29 = .ok (.istore_n 1, 1) := by decide +kernel
theorem dX3_init_30 : decode cX3_init 30 = .ok (.iload_n 1, 1) := by decide +kernel
theorem dX3_init_31 : decode cX3_init 31 = .ok (.iconst 5, 1) := by decide +kernel
theorem dX3_init_32 : decode cX3_init 32 = .ok (.if_icmp .ge 22, 3) := by decide +kernel
theorem dX3_init_35 : decode cX3_init 35 = .ok (.aload_n 0, 1) := by decide +kernel
theorem dX3_init_36 : decode cX3_init 36 = .ok (.getfield 20, 3) := by decide +kernel
theorem dX3_init_39 : decode cX3_init 39 = .ok (.iload_n 1, 1) := by decide +kernel
theorem dX3_init_40 : decode cX3_init 40 = .ok (.new 18, 3) := by decide +kernel
theorem dX3_init_43 : decode cX3_init 43 = .ok (.dup, 1) := by decide +kernel
theorem dX3_init_44 : decode cX3_init 44 = .ok (.invokespecial 28, 3) := by decide +kernel
theorem dX3_init_47 : decode cX3_init 47 = .ok (.aastore, 1) := by decide +kernel
theorem dX3_init_48 : decode cX3_init 48 = .ok (.iinc 1 1, 3) := by decide +kernel
theorem dX3_init_51 : decode cX3_init 51 = .ok (.goto (-21), 3) := by decide +kernel
theorem dX3_init_54 : decode cX3_init 54 = .ok (.return_, 1) := by decide +kernel
theorem dX3_has_0 : decode cX3_has 0 = .ok (.iload_n 1, 1) := by decide +kernel
theorem dX3_has_1 : decode cX3_has 1 = .ok (.ifCond .lt 15, 3) := by decide +kernel
theorem dX3_has_4 : decode cX3_has 4 = .ok (.iload_n 1, 1) := by decide +kernel
theorem dX3_has_5 : decode cX3_has 5 = .ok (.aload_n 0, 1) := by decide +kernel
theorem dX3_has_6 : decode cX3_has 6 = .ok (.getfield 24, 3) := by decide +kernel
theorem dX3_has_9 : decode cX3_has 9 = .ok (.if_icmp .ge 7, 3) := by decide +kernel
theorem dX3_has_12 : decode cX3_has 12 = .ok (.iconst 1, 1) := by decide +kernel
theorem dX3_has_13 : decode cX3_has 13 = .ok (.goto 4, 3) := by decide +kernel
theorem dX3_has_16 : decode cX3_has 16 = .ok (.iconst 0, 1) := by decide +kernel
theorem dX3_has_17 : decode cX3_has 17 = .ok (.ireturn, 1) := by decide +kernel
theorem dX3_add_0 : decode cX3_add 0 = .ok (.aload_n 0, 1) := by decide +kernel
theorem dX3_add_1 : decode cX3_add 1 = .ok (.getfield 24, 3) := by decide +kernel
theorem dX3_add_4 : decode cX3_add 4 = .ok (.iconst 5, 1) := by decide +kernel
theorem dX3_add_5 : decode cX3_add 5 = .ok (.if_icmp .ge 30, 3) := by decide +kernel
theorem dX3_add_8 : decode cX3_add 8 = .ok (.aload_n 0, 1) := by decide +kernel
theorem dX3_add_9 : decode cX3_add 9 = .ok (.getfield 20, 3) := by decide +kernel
theorem dX3_add_12 : decode cX3_add 12 = .ok (.aload_n 0, 1) := by decide +kernel
theorem dX3_add_13 : decode cX3_add 13 = .ok (.getfield 24, 3) := by decide +kernel
theorem dX3_add_16 : decode cX3_add 16 = .ok (.aaload, 1) := by decide +kernel
theorem dX3_add_17 : decode cX3_add 17 = .ok (.iload_n 1, 1) := by decide +kernel
theorem dX3_add_18 : decode cX3_add 18 = .ok (.iload_n 2, 1) := by decide +kernel
theorem dX3_add_19 : decode cX3_add 19 = .ok (.iload_n 3, 1) := by decide +kernel
theorem dX3_add_20 : decode cX3_add 20 = .ok (.iload 4, 2) := by decide +kernel
theorem dX3_add_22 : decode cX3_add 22 = .ok (.invokevirtual 29, 3) := by decide +kernel
theorem dX3_add_25 : decode cX3_add 25 = .ok (.aload_n 0, 1) := by decide +kernel
theorem dX3_add_26 : decode cX3_add 26 = .ok (.dup, 1) := by decide +kernel
theorem dX3_add_27 : decode cX3_add 27 = .ok (.getfield 24, 3) := by decide +kernel
theorem dX3_add_30 : decode cX3_add 30 = .ok (.iconst 1, 1) := by decide +kernel
theorem dX3_add_31 : decode cX3_add 31 = .ok (.iadd, 1) := by decide +kernel
theorem dX3_add_32 : decode cX3_add 32 = .ok (.putfield 24, 3) := by decide +kernel
theorem dX3_add_35 : decode cX3_add 35 = .ok (.return_, 1) := by decide +kernel
theorem dX3_planTries_0 : decode cX3_planTries 0 = .ok (.aload_n 0, 1) := by decide +kernel
theorem dX3_planTries_1 : decode cX3_planTries 1 = .ok (.iload_n 1, 1) := by decide +kernel
theorem dX3_planTries_2 : decode cX3_planTries 2 = .ok (.invokevirtual 33, 3) := by decide +kernel
theorem dX3_planTries_5 : decode cX3_planTries 5 = .ok (.ifCond .eq 25, 3) := by decide +kernel
theorem dX3_planTries_8 : decode cX3_planTries 8 = .ok (.iload_n 2, 1) := by decide +kernel
theorem dX3_planTries_9 : decode cX3_planTries 9 = .ok (.ifCond .lt 21, 3) := by decide +kernel
theorem dX3_planTries_12 : decode cX3_planTries 12 = .ok (.iload_n 2, 1) := by decide +kernel
theorem dX3_planTries_13 : decode cX3_planTries 13 = .ok (.bipush 10, 2) := by decide +kernel
theorem dX3_planTries_15 : decode cX3_planTries 15 = .ok (.if_icmp .ge 15, 3) := by decide +kernel
theorem dX3_planTries_18 : decode cX3_planTries 18 = .ok (.aload_n 0, 1) := by decide +kernel
theorem dX3_planTries_19 : decode cX3_planTries 19 = .ok (.getfield 20, 3) := by decide +kernel
theorem dX3_planTries_22 : decode cX3_planTries 22 = .ok (.iload_n 1, 1) := by decide +kernel
theorem dX3_planTries_23 : decode cX3_planTries 23 = .ok (.aaload, 1) := by decide +kernel
theorem dX3_planTries_24 : decode cX3_planTries 24 = .ok (.getfield 37, 3) := by decide +kernel
theorem dX3_planTries_27 : decode cX3_planTries 27 = .ok (.iload_n 2, 1) := by decide +kernel
theorem dX3_planTries_28 : decode cX3_planTries 28 = .ok (.iload_n 3, 1) := by decide +kernel
theorem dX3_planTries_29 : decode cX3_planTries 29 = .ok (.iastore, 1) := by decide +kernel
theorem dX3_planTries_30 : decode cX3_planTries 30 = .ok (.return_, 1) := by decide +kernel
theorem dX3_become_0 : decode cX3_become 0 = .ok (.aload_n 0, 1) := by decide +kernel
theorem dX3_become_1 : decode cX3_become 1 = .ok (.getfield 12, 3) := by decide +kernel
theorem dX3_become_4 : decode cX3_become 4 = .ok (.aload_n 1, 1) := by decide +kernel
theorem dX3_become_5 : decode cX3_become 5 = .ok (.getfield 12, 3) := by decide +kernel
theorem dX3_become_8 : decode cX3_become 8 = .ok (.invokevirtual 41, 3) := by decide +kernel
theorem dX3_become_11 : decode cX3_become 11 = .ok (.aload_n 0, 1) := by decide +kernel
theorem dX3_become_12 : decode cX3_become 12 = .ok (.aload_n 1, 1) := by decide +kernel
theorem dX3_become_13 : decode cX3_become 13 = .ok (.getfield 24, 3) := by decide +kernel
theorem dX3_become_16 : decode cX3_become 16 = .ok (.putfield 24, 3) := by decide +kernel
theorem dX3_become_19 : decode cX3_become 19 = .ok (.iconst 0, 1) := by decide +kernel
theorem dX3_become_20 : decode cX3_become 20 = .ok (.istore_n 2, 1) := by decide +kernel
theorem dX3_become_21 : decode cX3_become 21 = .ok (.iload_n 2, 1) := by decide +kernel
theorem dX3_become_22 : decode cX3_become 22 = .ok (.aload_n 0, 1) := by decide +kernel
theorem dX3_become_23 : decode cX3_become 23 = .ok (.getfield 24, 3) := by decide +kernel
theorem dX3_become_26 : decode cX3_become 26 = .ok (.if_icmp .ge 24, 3) := by decide +kernel
theorem dX3_become_29 : decode cX3_become 29 = .ok (.aload_n 0, 1) := by decide +kernel
theorem dX3_become_30 : decode cX3_become 30 = .ok (.getfield 20, 3) := by decide +kernel
theorem dX3_become_33 : decode cX3_become 33 = .ok (.iload_n 2, 1) := by decide +kernel
theorem dX3_become_34 : decode cX3_become 34 = .ok (.aaload, 1) := by decide +kernel
theorem dX3_become_35 : decode cX3_become 35 = .ok (.aload_n 1, 1) := by decide +kernel
theorem dX3_become_36 : decode cX3_become 36 = .ok (.getfield 20, 3) := by decide +kernel
theorem dX3_become_39 : decode cX3_become 39 = .ok (.iload_n 2, 1) := by decide +kernel
theorem dX3_become_40 : decode cX3_become 40 = .ok (.aaload, 1) := by decide +kernel
theorem dX3_become_41 : decode cX3_become 41 = .ok (.invokevirtual 45, 3) := by decide +kernel
theorem dX3_become_44 : decode cX3_become 44 = .ok (.iinc 2 1, 3) := by decide +kernel
theorem dX3_become_47 : decode cX3_become 47 = .ok (.goto (-26), 3) := by decide +kernel
theorem dX3_become_50 : decode cX3_become 50 = .ok (.return_, 1) := by decide +kernel
theorem dX3_allTries_0 : decode cX3_allTries 0 = .ok (.iconst 0, 1) := by decide +kernel
theorem dX3_allTries_1 : decode cX3_allTries 1 = .ok (.istore_n 1, 1) := by decide +kernel
theorem dX3_allTries_2 : decode cX3_allTries 2 = .ok (.iconst 0, 1) := by decide +kernel
theorem dX3_allTries_3 : decode cX3_allTries 3 = .ok (.istore_n 2, 1) := by decide +kernel
theorem dX3_allTries_4 : decode cX3_allTries 4 = .ok (.iload_n 2, 1) := by decide +kernel
theorem dX3_allTries_5 : decode cX3_allTries 5 = .ok (.aload_n 0, 1) := by decide +kernel
theorem dX3_allTries_6 : decode cX3_allTries 6 = .ok (.getfield 24, 3) := by decide +kernel
theorem dX3_allTries_9 : decode cX3_allTries 9 = .ok (.if_icmp .ge 42, 3) := by decide +kernel
theorem dX3_allTries_12 : decode cX3_allTries 12 = .ok (.iconst 0, 1) := by decide +kernel
theorem dX3_allTries_13 : decode cX3_allTries 13 = .ok (.istore_n 3, 1) := by decide +kernel
theorem dX3_allTries_14 : decode cX3_allTries 14 = .ok (.iload_n 3, 1) := by decide +kernel
theorem dX3_allTries_15 : decode cX3_allTries 15 = .ok (.aload_n 0, 1) := by decide +kernel
theorem dX3_allTries_16 : decode cX3_allTries 16 = .ok (.getfield 12, 3) := by decide +kernel
theorem dX3_allTries_19 : decode cX3_allTries 19 = .ok (.getfield 48, 3) := by decide +kernel
theorem dX3_allTries_22 : decode cX3_allTries 22 = .ok (.if_icmp .ge 23, 3) := by decide +kernel
theorem dX3_allTries_25 : decode cX3_allTries 25 = .ok (.iload_n 1, 1) := by decide +kernel
theorem dX3_allTries_26 : decode cX3_allTries 26 = .ok (.aload_n 0, 1) := by decide +kernel
theorem dX3_allTries_27 : decode cX3_allTries 27 = .ok (.getfield 20, 3) := by decide +kernel
theorem dX3_allTries_30 : decode cX3_allTries 30 = .ok (.iload_n 2, 1) := by decide +kernel
theorem dX3_allTries_31 : decode cX3_allTries 31 = .ok (.aaload, 1) := by decide +kernel
theorem dX3_allTries_32 : decode cX3_allTries 32 = .ok (.getfield 37, 3) := by decide +kernel
theorem dX3_allTries_35 : decode cX3_allTries 35 = .ok (.iload_n 3, 1) := by decide +kernel
theorem dX3_allTries_36 : decode cX3_allTries 36 = .ok (.iaload, 1) := by decide +kernel
theorem dX3_allTries_37 : decode cX3_allTries 37 = .ok (.iadd, 1) := by decide +kernel
theorem dX3_allTries_38 : decode cX3_allTries 38 = .ok (.istore_n 1, 1) := by decide +kernel
theorem dX3_allTries_39 : decode cX3_allTries 39 = .ok (.iinc 3 1, 3) := by decide +kernel
theorem dX3_allTries_42 : decode cX3_allTries 42 = .ok (.goto (-28), 3) := by decide +kernel
theorem dX3_allTries_45 : decode cX3_allTries 45 = .ok (.iinc 2 1, 3) := by decide +kernel
theorem dX3_allTries_48 : decode cX3_allTries 48 = .ok (.goto (-44), 3) := by decide +kernel
theorem dX3_allTries_51 : decode cX3_allTries 51 = .ok (.iload_n 1, 1) := by decide +kernel
theorem dX3_allTries_52 : decode cX3_allTries 52 = .ok (.ireturn, 1) := by decide +kernel
theorem dX4_ofLetter_0 : decode cX4_ofLetter 0 = .ok (.iload_n 0, 1) := by decide +kernel
theorem dX4_ofLetter_1 : decode cX4_ofLetter 1 = .ok (.tableswitch 114 99 119 #[111, 101, 114, 109, 114, 105, 114, 114, 114, 114, 114, 114, 114, 114, 114, 103, 99, 114, 114, 114, 107], 99) := by decide +kernel
theorem dX4_ofLetter_100 : decode cX4_ofLetter 100 = .ok (.iconst 0, 1) := by decide +kernel
theorem dX4_ofLetter_101 : decode cX4_ofLetter 101 = .ok (.ireturn, 1) := by decide +kernel
theorem dX4_ofLetter_102 : decode cX4_ofLetter 102 = .ok (.iconst 1, 1) := by decide +kernel
theorem dX4_ofLetter_103 : decode cX4_ofLetter 103 = .ok (.ireturn, 1) := by decide +kernel
theorem dX4_ofLetter_104 : decode cX4_ofLetter 104 = .ok (.iconst 2, 1) := by decide +kernel
theorem dX4_ofLetter_105 : decode cX4_ofLetter 105 = .ok (.ireturn, 1) := by decide +kernel
theorem dX4_ofLetter_106 : decode cX4_ofLetter 106 = .ok (.iconst 3, 1) := by decide +kernel
theorem dX4_ofLetter_107 : decode cX4_ofLetter 107 = .ok (.ireturn, 1) := by decide +kernel
theorem dX4_ofLetter_108 : decode cX4_ofLetter 108 = .ok (.iconst 4, 1) := by decide +kernel
theorem dX4_ofLetter_109 : decode cX4_ofLetter 109 = .ok (.ireturn, 1) := by decide +kernel
theorem dX4_ofLetter_110 : decode cX4_ofLetter 110 = .ok (.iconst 5, 1) := by decide +kernel
theorem dX4_ofLetter_111 : decode cX4_ofLetter 111 = .ok (.ireturn, 1) := by decide +kernel
theorem dX4_ofLetter_112 : decode cX4_ofLetter 112 = .ok (.bipush 6, 2) := by decide +kernel
theorem dX4_ofLetter_114 : decode cX4_ofLetter 114 = .ok (.ireturn, 1) := by decide +kernel
theorem dX4_ofLetter_115 : decode cX4_ofLetter 115 = .ok (.bipush (-9), 2) := by decide +kernel
theorem dX4_ofLetter_117 : decode cX4_ofLetter 117 = .ok (.ireturn, 1) := by decide +kernel
theorem dX4_isRide_0 : decode cX4_isRide 0 = .ok (.iload_n 0, 1) := by decide +kernel
theorem dX4_isRide_1 : decode cX4_isRide 1 = .ok (.iconst 2, 1) := by decide +kernel
theorem dX4_isRide_2 : decode cX4_isRide 2 = .ok (.if_icmp .eq 13, 3) := by decide +kernel
theorem dX4_isRide_5 : decode cX4_isRide 5 = .ok (.iload_n 0, 1) := by decide +kernel
theorem dX4_isRide_6 : decode cX4_isRide 6 = .ok (.iconst 3, 1) := by decide +kernel
theorem dX4_isRide_7 : decode cX4_isRide 7 = .ok (.if_icmp .eq 8, 3) := by decide +kernel
theorem dX4_isRide_10 : decode cX4_isRide 10 = .ok (.iload_n 0, 1) := by decide +kernel
theorem dX4_isRide_11 : decode cX4_isRide 11 = .ok (.iconst 4, 1) := by decide +kernel
theorem dX4_isRide_12 : decode cX4_isRide 12 = .ok (.if_icmp .ne 7, 3) := by decide +kernel
theorem dX4_isRide_15 : decode cX4_isRide 15 = .ok (.iconst 1, 1) := by decide +kernel
theorem dX4_isRide_16 : decode cX4_isRide 16 = .ok (.goto 4, 3) := by decide +kernel
theorem dX4_isRide_19 : decode cX4_isRide 19 = .ok (.iconst 0, 1) := by decide +kernel
theorem dX4_isRide_20 : decode cX4_isRide 20 = .ok (.ireturn, 1) := by decide +kernel
theorem dX4_takes_0 : decode cX4_takes 0 = .ok (.iload_n 0, 1) := by decide +kernel
theorem dX4_takes_1 : decode cX4_takes 1 = .ok (.tableswitch 45 0 5 #[39, 39, 41, 43, 41, 41], 39) := by decide +kernel
theorem dX4_takes_40 : decode cX4_takes 40 = .ok (.iconst 1, 1) := by decide +kernel
theorem dX4_takes_41 : decode cX4_takes 41 = .ok (.ireturn, 1) := by decide +kernel
theorem dX4_takes_42 : decode cX4_takes 42 = .ok (.iconst 2, 1) := by decide +kernel
theorem dX4_takes_43 : decode cX4_takes 43 = .ok (.ireturn, 1) := by decide +kernel
theorem dX4_takes_44 : decode cX4_takes 44 = .ok (.iconst 3, 1) := by decide +kernel
theorem dX4_takes_45 : decode cX4_takes 45 = .ok (.ireturn, 1) := by decide +kernel
theorem dX4_takes_46 : decode cX4_takes 46 = .ok (.iconst 0, 1) := by decide +kernel
theorem dX4_takes_47 : decode cX4_takes 47 = .ok (.ireturn, 1) := by decide +kernel
theorem dX4_secondsTrying_0 : decode cX4_secondsTrying 0 = .ok (.iload_n 2, 1) := by decide +kernel
theorem dX4_secondsTrying_1 : decode cX4_secondsTrying 1 = .ok (.ifCond .le 14, 3) := by decide +kernel
theorem dX4_secondsTrying_4 : decode cX4_secondsTrying 4 = .ok (.iload_n 0, 1) := by decide +kernel
theorem dX4_secondsTrying_5 : decode cX4_secondsTrying 5 = .ok (.iload_n 0, 1) := by decide +kernel
theorem dX4_secondsTrying_6 : decode cX4_secondsTrying 6 = .ok (.iload_n 1, 1) := by decide +kernel
theorem dX4_secondsTrying_7 : decode cX4_secondsTrying 7 = .ok (.imul, 1) := by decide +kernel
theorem dX4_secondsTrying_8 : decode cX4_secondsTrying 8 = .ok (.bipush 10, 2) := by decide +kernel
theorem dX4_secondsTrying_10 : decode cX4_secondsTrying 10 = .ok (.idiv, 1) := by decide +kernel
theorem dX4_secondsTrying_11 : decode cX4_secondsTrying 11 = .ok (.isub, 1) := by decide +kernel
theorem dX4_secondsTrying_12 : decode cX4_secondsTrying 12 = .ok (.goto 8, 3) := by decide +kernel
theorem dX4_secondsTrying_15 : decode cX4_secondsTrying 15 = .ok (.iload_n 0, 1) := by decide +kernel
theorem dX4_secondsTrying_16 : decode cX4_secondsTrying 16 = .ok (.iload_n 0, 1) := by decide +kernel
theorem dX4_secondsTrying_17 : decode cX4_secondsTrying 17 = .ok (.iconst 4, 1) := by decide +kernel
theorem dX4_secondsTrying_18 : decode cX4_secondsTrying 18 = .ok (.idiv, 1) := by decide +kernel
theorem dX4_secondsTrying_19 : decode cX4_secondsTrying 19 = .ok (.iadd, 1) := by decide +kernel
theorem dX4_secondsTrying_20 : decode cX4_secondsTrying 20 = .ok (.ireturn, 1) := by decide +kernel
theorem dX4_legsBehind_0 : decode cX4_legsBehind 0 = .ok (.iload_n 3, 1) := by decide +kernel
theorem dX4_legsBehind_1 : decode cX4_legsBehind 1 = .ok (.ifCond .le 20, 3) := by decide +kernel
theorem dX4_legsBehind_4 : decode cX4_legsBehind 4 = .ok (.iconst 0, 1) := by decide +kernel
theorem dX4_legsBehind_5 : decode cX4_legsBehind 5 = .ok (.iload_n 3, 1) := by decide +kernel
theorem dX4_legsBehind_6 : decode cX4_legsBehind 6 = .ok (.iload_n 0, 1) := by decide +kernel
theorem dX4_legsBehind_7 : decode cX4_legsBehind 7 = .ok (.invokestatic 11, 3) := by decide +kernel
theorem dX4_legsBehind_10 : decode cX4_legsBehind 10 = .ok (.iload_n 1, 1) := by decide +kernel
theorem dX4_legsBehind_11 : decode cX4_legsBehind 11 = .ok (.imul, 1) := by decide +kernel
theorem dX4_legsBehind_12 : decode cX4_legsBehind 12 = .ok (.iload_n 2, 1) := by decide +kernel
theorem dX4_legsBehind_13 : decode cX4_legsBehind 13 = .ok (.imul, 1) := by decide +kernel
theorem dX4_legsBehind_14 : decode cX4_legsBehind 14 = .ok (.isub, 1) := by decide +kernel
theorem dX4_legsBehind_15 : decode cX4_legsBehind 15 = .ok (.invokestatic 15, 3) := by decide +kernel
theorem dX4_legsBehind_18 : decode cX4_legsBehind 18 = .ok (.goto 4, 3) := by decide +kernel
theorem dX4_legsBehind_21 : decode cX4_legsBehind 21 = .ok (.iconst 0, 1) := by decide +kernel
theorem dX4_legsBehind_22 : decode cX4_legsBehind 22 = .ok (.istore 4, 2) := by decide +kernel
theorem dX4_legsBehind_24 : decode cX4_legsBehind 24 = .ok (.iload_n 0, 1) := by decide +kernel
theorem dX4_legsBehind_25 : decode cX4_legsBehind 25 = .ok (.bipush 6, 2) := by decide +kernel
theorem dX4_legsBehind_27 : decode cX4_legsBehind 27 = .ok (.if_icmp .ne 15, 3) := by decide +kernel
theorem dX4_legsBehind_30 : decode cX4_legsBehind 30 = .ok (.bipush 99, 2) := by decide +kernel
theorem dX4_legsBehind_32 : decode cX4_legsBehind 32 = .ok (.iload 4, 2) := by decide +kernel
theorem dX4_legsBehind_34 : decode cX4_legsBehind 34 = .ok (.iconst 5, 1) := by decide +kernel
theorem dX4_legsBehind_35 : decode cX4_legsBehind 35 = .ok (.iadd, 1) := by decide +kernel
theorem dX4_legsBehind_36 : decode cX4_legsBehind 36 = .ok (.invokestatic 21, 3) := by decide +kernel
theorem dX4_legsBehind_39 : decode cX4_legsBehind 39 = .ok (.goto 5, 3) := by decide +kernel
theorem dX4_legsBehind_42 : decode cX4_legsBehind 42 = .ok (.iload 4, 2) := by decide +kernel
theorem dX4_legsBehind_44 : decode cX4_legsBehind 44 = .ok (.ireturn, 1) := by decide +kernel
theorem dX5_init_0 : decode cX5_init 0 = .ok (.aload_n 0, 1) := by decide +kernel
theorem dX5_init_1 : decode cX5_init 1 = .ok (.invokespecial 1, 3) := by decide +kernel
theorem dX5_init_4 : decode cX5_init 4 = .ok (.aload_n 0, 1) := by decide +kernel
theorem dX5_init_5 : decode cX5_init 5 = .ok (.iconst 0, 1) := by decide +kernel
theorem dX5_init_6 : decode cX5_init 6 = .ok (.putfield 7, 3) := by decide +kernel
theorem dX5_init_9 : decode cX5_init 9 = .ok (.aload_n 0, 1) := by decide +kernel
theorem dX5_init_10 : decode cX5_init 10 = .ok (.iconst 0, 1) := by decide +kernel
theorem dX5_init_11 : decode cX5_init 11 = .ok (.putfield 13, 3) := by decide +kernel
theorem dX5_init_14 : decode cX5_init 14 = .ok (.return_, 1) := by decide +kernel
theorem dX5_below_0 : decode cX5_below 0 = .ok (.aload_n 0, 1) := by decide +kernel
theorem dX5_below_1 : decode cX5_below 1 = .ok (.aload_n 0, 1) := by decide +kernel
theorem dX5_below_2 : decode cX5_below 2 = .ok (.getfield 7, 3) := by decide +kernel
theorem dX5_below_5 : decode cX5_below 5 = .ok (.ldc 16, 2) := by decide +kernel
theorem dX5_below_7 : decode cX5_below 7 = .ok (.imul, 1) := by decide +kernel
theorem dX5_below_8 : decode cX5_below 8 = .ok (.ldc 17, 2) := by decide +kernel
theorem dX5_below_10 : decode cX5_below 10 = .ok (.iadd, 1) := by decide +kernel
theorem dX5_below_11 : decode cX5_below 11 = .ok (.putfield 7, 3) := by decide +kernel
theorem dX5_below_14 : decode cX5_below 14 = .ok (.iload_n 1, 1) := by decide +kernel
theorem dX5_below_15 : decode cX5_below 15 = .ok (.ifCond .le 19, 3) := by decide +kernel
theorem dX5_below_18 : decode cX5_below 18 = .ok (.aload_n 0, 1) := by decide +kernel
theorem dX5_below_19 : decode cX5_below 19 = .ok (.getfield 7, 3) := by decide +kernel
theorem dX5_below_22 : decode cX5_below 22 = .ok (.ldc 18, 2) := by decide +kernel
theorem dX5_below_24 : decode cX5_below 24 = .ok (.iand, 1) := by decide +kernel
theorem dX5_below_25 : decode cX5_below 25 = .ok (.sipush 256, 3) := by decide +kernel
theorem dX5_below_28 : decode cX5_below 28 = .ok (.idiv, 1) := by decide +kernel
theorem dX5_below_29 : decode cX5_below 29 = .ok (.iload_n 1, 1) := by decide +kernel
theorem dX5_below_30 : decode cX5_below 30 = .ok (.irem, 1) := by decide +kernel
theorem dX5_below_31 : decode cX5_below 31 = .ok (.goto 4, 3) := by decide +kernel
theorem dX5_below_34 : decode cX5_below 34 = .ok (.iconst 0, 1) := by decide +kernel
theorem dX5_below_35 : decode cX5_below 35 = .ok (.ireturn, 1) := by decide +kernel
theorem dX6_power_0 : decode cX6_power 0 = .ok (.lconst 1, 1) := by decide +kernel
theorem dX6_power_1 : decode cX6_power 1 = .ok (.lstore_n 3, 1) := by decide +kernel
theorem dX6_power_2 : decode cX6_power 2 = .ok (.iconst 0, 1) := by decide +kernel
theorem dX6_power_3 : decode cX6_power 3 = .ok (.istore 5, 2) := by decide +kernel
theorem dX6_power_5 : decode cX6_power 5 = .ok (.iload 5, 2) := by decide +kernel
theorem dX6_power_7 : decode cX6_power 7 = .ok (.iload_n 2, 1) := by decide +kernel
theorem dX6_power_8 : decode cX6_power 8 = .ok (.if_icmp .ge 13, 3) := by decide +kernel
theorem dX6_power_11 : decode cX6_power 11 = .ok (.lload_n 3, 1) := by decide +kernel
theorem dX6_power_12 : decode cX6_power 12 = .ok (.lload_n 0, 1) := by decide +kernel
theorem dX6_power_13 : decode cX6_power 13 = .ok (.lmul, 1) := by decide +kernel
theorem dX6_power_14 : decode cX6_power 14 = .ok (.lstore_n 3, 1) := by decide +kernel
theorem dX6_power_15 : decode cX6_power 15 = .ok (.iinc 5 1, 3) := by decide +kernel
theorem dX6_power_18 : decode cX6_power 18 = .ok (.goto (-13), 3) := by decide +kernel
theorem dX6_power_21 : decode cX6_power 21 = .ok (.lload_n 3, 1) := by decide +kernel
theorem dX6_power_22 : decode cX6_power 22 = .ok (.lreturn, 1) := by decide +kernel
theorem dX6_waysWithin_0 : decode cX6_waysWithin 0 = .ok (.lconst 0, 1) := by decide +kernel
theorem dX6_waysWithin_1 : decode cX6_waysWithin 1 = .ok (.lstore 4, 2) := by decide +kernel
theorem dX6_waysWithin_3 : decode cX6_waysWithin 3 = .ok (.lconst 1, 1) := by decide +kernel
theorem dX6_waysWithin_4 : decode cX6_waysWithin 4 = .ok (.lstore 6, 2) := by decide +kernel
theorem dX6_waysWithin_6 : decode cX6_waysWithin 6 = .ok (.iconst 0, 1) := by decide +kernel
theorem dX6_waysWithin_7 : decode cX6_waysWithin 7 = .ok (.istore 8, 2) := by decide +kernel
theorem dX6_waysWithin_9 : decode cX6_waysWithin 9 = .ok (.iload 8, 2) := by decide +kernel
theorem dX6_waysWithin_11 : decode cX6_waysWithin 11 = .ok (.iload_n 0, 1) := by decide +kernel
theorem dX6_waysWithin_12 : decode cX6_waysWithin 12 = .ok (.if_icmp .gt 52, 3) := by decide +kernel
theorem dX6_waysWithin_15 : decode cX6_waysWithin 15 = .ok (.iload 8, 2) := by decide +kernel
theorem dX6_waysWithin_17 : decode cX6_waysWithin 17 = .ok (.iload_n 2, 1) := by decide +kernel
theorem dX6_waysWithin_18 : decode cX6_waysWithin 18 = .ok (.imul, 1) := by decide +kernel
theorem dX6_waysWithin_19 : decode cX6_waysWithin 19 = .ok (.iload_n 3, 1) := by decide +kernel
theorem dX6_waysWithin_20 : decode cX6_waysWithin 20 = .ok (.if_icmp .gt 22, 3) := by decide +kernel
theorem dX6_waysWithin_23 : decode cX6_waysWithin 23 = .ok (.lload 4, 2) := by decide +kernel
theorem dX6_waysWithin_25 : decode cX6_waysWithin 25 = .ok (.lload 6, 2) := by decide +kernel
theorem dX6_waysWithin_27 : decode cX6_waysWithin 27 = .ok (.iload_n 1, 1) := by decide +kernel
theorem dX6_waysWithin_28 : decode cX6_waysWithin 28 = .ok (.iconst 1, 1) := by decide +kernel
theorem dX6_waysWithin_29 : decode cX6_waysWithin 29 = .ok (.isub, 1) := by decide +kernel
theorem dX6_waysWithin_30 : decode cX6_waysWithin 30 = .ok (.i2l, 1) := by decide +kernel
theorem dX6_waysWithin_31 : decode cX6_waysWithin 31 = .ok (.iload_n 0, 1) := by decide +kernel
theorem dX6_waysWithin_32 : decode cX6_waysWithin 32 = .ok (.iload 8, 2) := by decide +kernel
theorem dX6_waysWithin_34 : decode cX6_waysWithin 34 = .ok (.isub, 1) := by decide +kernel
theorem dX6_waysWithin_35 : decode cX6_waysWithin 35 = .ok (.invokestatic 7, 3) := by decide +kernel
theorem dX6_waysWithin_38 : decode cX6_waysWithin 38 = .ok (.lmul, 1) := by decide +kernel
theorem dX6_waysWithin_39 : decode cX6_waysWithin 39 = .ok (.ladd, 1) := by decide +kernel
theorem dX6_waysWithin_40 : decode cX6_waysWithin 40 = .ok (.lstore 4, 2) := by decide +kernel
theorem dX6_waysWithin_42 : decode cX6_waysWithin 42 = .ok (.lload 6, 2) := by decide +kernel
theorem dX6_waysWithin_44 : decode cX6_waysWithin 44 = .ok (.iload_n 0, 1) := by decide +kernel
theorem dX6_waysWithin_45 : decode cX6_waysWithin 45 = .ok (.iload 8, 2) := by decide +kernel
theorem dX6_waysWithin_47 : decode cX6_waysWithin 47 = .ok (.isub, 1) := by decide +kernel
theorem dX6_waysWithin_48 : decode cX6_waysWithin 48 = .ok (.i2l, 1) := by decide +kernel
theorem dX6_waysWithin_49 : decode cX6_waysWithin 49 = .ok (.lmul, 1) := by decide +kernel
theorem dX6_waysWithin_50 : decode cX6_waysWithin 50 = .ok (.iload 8, 2) := by decide +kernel
theorem dX6_waysWithin_52 : decode cX6_waysWithin 52 = .ok (.iconst 1, 1) := by decide +kernel
theorem dX6_waysWithin_53 : decode cX6_waysWithin 53 = .ok (.iadd, 1) := by decide +kernel
theorem dX6_waysWithin_54 : decode cX6_waysWithin 54 = .ok (.i2l, 1) := by decide +kernel
theorem dX6_waysWithin_55 : decode cX6_waysWithin 55 = .ok (.ldiv, 1) := by decide +kernel
theorem dX6_waysWithin_56 : decode cX6_waysWithin 56 = .ok (.lstore 6, 2) := by decide +kernel
theorem dX6_waysWithin_58 : decode cX6_waysWithin 58 = .ok (.iinc 8 1, 3) := by decide +kernel
theorem dX6_waysWithin_61 : decode cX6_waysWithin 61 = .ok (.goto (-52), 3) := by decide +kernel
theorem dX6_waysWithin_64 : decode cX6_waysWithin 64 = .ok (.lload 4, 2) := by decide +kernel
theorem dX6_waysWithin_66 : decode cX6_waysWithin 66 = .ok (.lreturn, 1) := by decide +kernel
theorem dX6_partInLeastTerms_0 : decode cX6_partInLeastTerms 0 = .ok (.lload_n 0, 1) := by decide +kernel
theorem dX6_partInLeastTerms_1 : decode cX6_partInLeastTerms 1 = .ok (.lload_n 2, 1) := by decide +kernel
theorem dX6_partInLeastTerms_2 : decode cX6_partInLeastTerms 2 = .ok (.invokestatic 13, 3) := by decide +kernel
theorem dX6_partInLeastTerms_5 : decode cX6_partInLeastTerms 5 = .ok (.lstore 5, 2) := by decide +kernel
theorem dX6_partInLeastTerms_7 : decode cX6_partInLeastTerms 7 = .ok (.lload 5, 2) := by decide +kernel
theorem dX6_partInLeastTerms_9 : decode cX6_partInLeastTerms 9 = .ok (.lconst 0, 1) := by decide +kernel
theorem dX6_partInLeastTerms_10 : decode cX6_partInLeastTerms 10 = .ok (.lcmp, 1) := by decide +kernel
theorem dX6_partInLeastTerms_11 : decode cX6_partInLeastTerms 11 = .ok (.ifCond .ne 7, 3) := by decide +kernel
theorem dX6_partInLeastTerms_14 : decode cX6_partInLeastTerms 14 = .ok (.lconst 0, 1) := by decide +kernel
theorem dX6_partInLeastTerms_15 : decode cX6_partInLeastTerms 15 = .ok (.goto 16, 3) := by decide +kernel
theorem dX6_partInLeastTerms_18 : decode cX6_partInLeastTerms 18 = .ok (.iload 4, 2) := by decide +kernel
theorem dX6_partInLeastTerms_20 : decode cX6_partInLeastTerms 20 = .ok (.ifCond .ne 7, 3) := by decide +kernel
theorem dX6_partInLeastTerms_23 : decode cX6_partInLeastTerms 23 = .ok (.lload_n 0, 1) := by decide +kernel
theorem dX6_partInLeastTerms_24 : decode cX6_partInLeastTerms 24 = .ok (.goto 4, 3) := by decide +kernel
theorem dX6_partInLeastTerms_27 : decode cX6_partInLeastTerms 27 = .ok (.lload_n 2, 1) := by decide +kernel
theorem dX6_partInLeastTerms_28 : decode cX6_partInLeastTerms 28 = .ok (.lload 5, 2) := by decide +kernel
theorem dX6_partInLeastTerms_30 : decode cX6_partInLeastTerms 30 = .ok (.ldiv, 1) := by decide +kernel
theorem dX6_partInLeastTerms_31 : decode cX6_partInLeastTerms 31 = .ok (.lreturn, 1) := by decide +kernel
theorem dX6_commonDivisor_0 : decode cX6_commonDivisor 0 = .ok (.lload_n 0, 1) := by decide +kernel
theorem dX6_commonDivisor_1 : decode cX6_commonDivisor 1 = .ok (.lstore 4, 2) := by decide +kernel
theorem dX6_commonDivisor_3 : decode cX6_commonDivisor 3 = .ok (.lload_n 2, 1) := by decide +kernel
theorem dX6_commonDivisor_4 : decode cX6_commonDivisor 4 = .ok (.lstore 6, 2) := by decide +kernel
theorem dX6_commonDivisor_6 : decode cX6_commonDivisor 6 = .ok (.iconst 0, 1) := by decide +kernel
theorem dX6_commonDivisor_7 : decode cX6_commonDivisor 7 = .ok (.istore 8, 2) := by decide +kernel
theorem dX6_commonDivisor_9 : decode cX6_commonDivisor 9 = .ok (.iload 8, 2) := by decide +kernel
theorem dX6_commonDivisor_11 : decode cX6_commonDivisor 11 = .ok (.sipush 200, 3) := by decide +kernel
theorem dX6_commonDivisor_14 : decode cX6_commonDivisor 14 = .ok (.if_icmp .ge 31, 3) := by decide +kernel
theorem dX6_commonDivisor_17 : decode cX6_commonDivisor 17 = .ok (.lload 6, 2) := by decide +kernel
theorem dX6_commonDivisor_19 : decode cX6_commonDivisor 19 = .ok (.lconst 0, 1) := by decide +kernel
theorem dX6_commonDivisor_20 : decode cX6_commonDivisor 20 = .ok (.lcmp, 1) := by decide +kernel
theorem dX6_commonDivisor_21 : decode cX6_commonDivisor 21 = .ok (.ifCond .eq 24, 3) := by decide +kernel
theorem dX6_commonDivisor_24 : decode cX6_commonDivisor 24 = .ok (.lload 4, 2) := by decide +kernel
theorem dX6_commonDivisor_26 : decode cX6_commonDivisor 26 = .ok (.lload 6, 2) := by decide +kernel
theorem dX6_commonDivisor_28 : decode cX6_commonDivisor 28 = .ok (.lrem, 1) := by decide +kernel
theorem dX6_commonDivisor_29 : decode cX6_commonDivisor 29 = .ok (.lstore 9, 2) := by decide +kernel
theorem dX6_commonDivisor_31 : decode cX6_commonDivisor 31 = .ok (.lload 6, 2) := by decide +kernel
theorem dX6_commonDivisor_33 : decode cX6_commonDivisor 33 = .ok (.lstore 4, 2) := by decide +kernel
theorem dX6_commonDivisor_35 : decode cX6_commonDivisor 35 = .ok (.lload 9, 2) := by decide +kernel
theorem dX6_commonDivisor_37 : decode cX6_commonDivisor 37 = .ok (.lstore 6, 2) := by decide +kernel
theorem dX6_commonDivisor_39 : decode cX6_commonDivisor 39 = .ok (.iinc 8 1, 3) := by decide +kernel
theorem dX6_commonDivisor_42 : decode cX6_commonDivisor 42 = .ok (.goto (-33), 3) := by decide +kernel
theorem dX6_commonDivisor_45 : decode cX6_commonDivisor 45 = .ok (.lload 4, 2) := by decide +kernel
theorem dX6_commonDivisor_47 : decode cX6_commonDivisor 47 = .ok (.lreturn, 1) := by decide +kernel
theorem dX7_init_0 : decode cX7_init 0 = .ok (.aload_n 0, 1) := by decide +kernel
theorem dX7_init_1 : decode cX7_init 1 = .ok (.invokespecial 3, 3) := by decide +kernel
theorem dX7_init_4 : decode cX7_init 4 = .ok (.aload_n 0, 1) := by decide +kernel
theorem dX7_init_5 : decode cX7_init 5 = .ok (.iconst 0, 1) := by decide +kernel
theorem dX7_init_6 : decode cX7_init 6 = .ok (.putfield 9, 3) := by decide +kernel
theorem dX7_init_9 : decode cX7_init 9 = .ok (.aload_n 0, 1) := by decide +kernel
theorem dX7_init_10 : decode cX7_init 10 = .ok (.iconst 0, 1) := by decide +kernel
theorem dX7_init_11 : decode cX7_init 11 = .ok (.putfield 15, 3) := by decide +kernel
theorem dX7_init_14 : decode cX7_init 14 = .ok (.aload_n 0, 1) := by decide +kernel
theorem dX7_init_15 : decode cX7_init 15 = .ok (.bipush 10, 2) := by decide +kernel
theorem dX7_init_17 : decode cX7_init 17 = .ok (.newarray .int, 2) := by decide +kernel
theorem dX7_init_19 : decode cX7_init 19 = .ok (.putfield 18, 3) := by decide +kernel
theorem dX7_init_22 : decode cX7_init 22 = .ok (.aload_n 0, 1) := by decide +kernel
theorem dX7_init_23 : decode cX7_init 23 = .ok (.bipush 10, 2) := by decide +kernel
theorem dX7_init_25 : decode cX7_init 25 = .ok (.newarray .int, 2) := by decide +kernel
theorem dX7_init_27 : decode cX7_init 27 = .ok (.putfield 22, 3) := by decide +kernel
theorem dX7_init_30 : decode cX7_init 30 = .ok (.aload_n 0, 1) := by decide +kernel
theorem dX7_init_31 : decode cX7_init 31 = .ok (.bipush 10, 2) := by decide +kernel
theorem dX7_init_33 : decode cX7_init 33 = .ok (.newarray .int, 2) := by decide +kernel
theorem dX7_init_35 : decode cX7_init 35 = .ok (.putfield 25, 3) := by decide +kernel
theorem dX7_init_38 : decode cX7_init 38 = .ok (.aload_n 0, 1) := by decide +kernel
theorem dX7_init_39 : decode cX7_init 39 = .ok (.bipush 11, 2) := by decide +kernel
theorem dX7_init_41 : decode cX7_init 41 = .ok (.bipush 100, 2) := by decide +kernel
theorem dX7_init_43 : decode cX7_init 43 = .ok (.multianewarray 28 2, 4) := by decide +kernel
theorem dX7_init_47 : decode cX7_init 47 = .ok (.putfield 30, 3) := by decide +kernel
theorem dX7_init_50 : decode cX7_init 50 = .ok (.aload_n 0, 1) := by decide +kernel
theorem dX7_init_51 : decode cX7_init 51 = .ok (.sipush 3100, 3) := by decide +kernel
theorem dX7_init_54 : decode cX7_init 54 = .ok (.newarray .int, 2) := by decide +kernel
theorem dX7_init_56 : decode cX7_init 56 = .ok (.putfield 33, 3) := by decide +kernel
theorem dX7_init_59 : decode cX7_init 59 = .ok (.aload_n 0, 1) := by decide +kernel
theorem dX7_init_60 : decode cX7_init 60 = .ok (.sipush 3100, 3) := by decide +kernel
theorem dX7_init_63 : decode cX7_init 63 = .ok (.newarray .int, 2) := by decide +kernel
theorem dX7_init_65 : decode cX7_init 65 = .ok (.putfield 36, 3) := by decide +kernel
theorem dX7_init_68 : decode cX7_init 68 = .ok (.return_, 1) := by decide +kernel
theorem dX7_look_0 : decode cX7_look 0 = .ok (.aload_n 0, 1) := by decide +kernel
theorem dX7_look_1 : decode cX7_look 1 = .ok (.aload_n 1, 1) := by decide +kernel
theorem dX7_look_2 : decode cX7_look 2 = .ok (.getfield 39, 3) := by decide +kernel
theorem dX7_look_5 : decode cX7_look 5 = .ok (.putfield 9, 3) := by decide +kernel
theorem dX7_look_8 : decode cX7_look 8 = .ok (.aload_n 0, 1) := by decide +kernel
theorem dX7_look_9 : decode cX7_look 9 = .ok (.aload_n 2, 1) := by decide +kernel
theorem dX7_look_10 : decode cX7_look 10 = .ok (.getfield 42, 3) := by decide +kernel
theorem dX7_look_13 : decode cX7_look 13 = .ok (.iconst 3, 1) := by decide +kernel
theorem dX7_look_14 : decode cX7_look 14 = .ok (.iaload, 1) := by decide +kernel
theorem dX7_look_15 : decode cX7_look 15 = .ok (.putfield 15, 3) := by decide +kernel
theorem dX7_look_18 : decode cX7_look 18 = .ok (.iconst 0, 1) := by decide +kernel
theorem dX7_look_19 : decode cX7_look 19 = .ok (.istore_n 3, 1) := by decide +kernel
theorem dX7_look_20 : decode cX7_look 20 = .ok (.iload_n 3, 1) := by decide +kernel
theorem dX7_look_21 : decode cX7_look 21 = .ok (.aload_n 0, 1) := by decide +kernel
theorem dX7_look_22 : decode cX7_look 22 = .ok (.getfield 9, 3) := by decide +kernel
theorem dX7_look_25 : decode cX7_look 25 = .ok (.if_icmp .ge 45, 3) := by decide +kernel
theorem dX7_look_28 : decode cX7_look 28 = .ok (.aload_n 0, 1) := by decide +kernel
theorem dX7_look_29 : decode cX7_look 29 = .ok (.getfield 18, 3) := by decide +kernel
theorem dX7_look_32 : decode cX7_look 32 = .ok (.iload_n 3, 1) := by decide +kernel
theorem dX7_look_33 : decode cX7_look 33 = .ok (.aload_n 1, 1) := by decide +kernel
theorem dX7_look_34 : decode cX7_look 34 = .ok (.getfield 47, 3) := by decide +kernel
theorem dX7_look_37 : decode cX7_look 37 = .ok (.iload_n 3, 1) := by decide +kernel
theorem dX7_look_38 : decode cX7_look 38 = .ok (.iaload, 1) := by decide +kernel
theorem dX7_look_39 : decode cX7_look 39 = .ok (.iastore, 1) := by decide +kernel
theorem dX7_look_40 : decode cX7_look 40 = .ok (.aload_n 0, 1) := by decide +kernel
theorem dX7_look_41 : decode cX7_look 41 = .ok (.getfield 22, 3) := by decide +kernel
theorem dX7_look_44 : decode cX7_look 44 = .ok (.iload_n 3, 1) := by decide +kernel
theorem dX7_look_45 : decode cX7_look 45 = .ok (.aload_n 1, 1) := by decide +kernel
theorem dX7_look_46 : decode cX7_look 46 = .ok (.getfield 48, 3) := by decide +kernel
theorem dX7_look_49 : decode cX7_look 49 = .ok (.iload_n 3, 1) := by decide +kernel
theorem dX7_look_50 : decode cX7_look 50 = .ok (.iaload, 1) := by decide +kernel
theorem dX7_look_51 : decode cX7_look 51 = .ok (.iastore, 1) := by decide +kernel
theorem dX7_look_52 : decode cX7_look 52 = .ok (.aload_n 0, 1) := by decide +kernel
theorem dX7_look_53 : decode cX7_look 53 = .ok (.getfield 25, 3) := by decide +kernel
theorem dX7_look_56 : decode cX7_look 56 = .ok (.iload_n 3, 1) := by decide +kernel
theorem dX7_look_57 : decode cX7_look 57 = .ok (.aload_n 1, 1) := by decide +kernel
theorem dX7_look_58 : decode cX7_look 58 = .ok (.iload_n 3, 1) := by decide +kernel
theorem dX7_look_59 : decode cX7_look 59 = .ok (.aload_n 2, 1) := by decide +kernel
theorem dX7_look_60 : decode cX7_look 60 = .ok (.invokevirtual 49, 3) := by decide +kernel
theorem dX7_look_63 : decode cX7_look 63 = .ok (.iastore, 1) := by decide +kernel
theorem dX7_look_64 : decode cX7_look 64 = .ok (.iinc 3 1, 3) := by decide +kernel
theorem dX7_look_67 : decode cX7_look 67 = .ok (.goto (-47), 3) := by decide +kernel
theorem dX7_look_70 : decode cX7_look 70 = .ok (.return_, 1) := by decide +kernel
theorem dX7_secondsFrom_0 : decode cX7_secondsFrom 0 = .ok (.aload_n 0, 1) := by decide +kernel
theorem dX7_secondsFrom_1 : decode cX7_secondsFrom 1 = .ok (.getfield 18, 3) := by decide +kernel
theorem dX7_secondsFrom_4 : decode cX7_secondsFrom 4 = .ok (.iload_n 1, 1) := by decide +kernel
theorem dX7_secondsFrom_5 : decode cX7_secondsFrom 5 = .ok (.iaload, 1) := by decide +kernel
theorem dX7_secondsFrom_6 : decode cX7_secondsFrom 6 = .ok (.aload_n 0, 1) := by decide +kernel
theorem dX7_secondsFrom_7 : decode cX7_secondsFrom 7 = .ok (.getfield 22, 3) := by decide +kernel
theorem dX7_secondsFrom_10 : decode cX7_secondsFrom 10 = .ok (.iload_n 1, 1) := by decide +kernel
theorem dX7_secondsFrom_11 : decode cX7_secondsFrom 11 = .ok (.iaload, 1) := by decide +kernel
theorem dX7_secondsFrom_12 : decode cX7_secondsFrom 12 = .ok (.iload_n 3, 1) := by decide +kernel
theorem dX7_secondsFrom_13 : decode cX7_secondsFrom 13 = .ok (.iload_n 2, 1) := by decide +kernel
theorem dX7_secondsFrom_14 : decode cX7_secondsFrom 14 = .ok (.invokestatic 52, 3) := by decide +kernel
theorem dX7_secondsFrom_17 : decode cX7_secondsFrom 17 = .ok (.istore 4, 2) := by decide +kernel
theorem dX7_secondsFrom_19 : decode cX7_secondsFrom 19 = .ok (.aload_n 0, 1) := by decide +kernel
theorem dX7_secondsFrom_20 : decode cX7_secondsFrom 20 = .ok (.getfield 25, 3) := by decide +kernel
theorem dX7_secondsFrom_23 : decode cX7_secondsFrom 23 = .ok (.iload_n 1, 1) := by decide +kernel
theorem dX7_secondsFrom_24 : decode cX7_secondsFrom 24 = .ok (.iaload, 1) := by decide +kernel
theorem dX7_secondsFrom_25 : decode cX7_secondsFrom 25 = .ok (.iload_n 3, 1) := by decide +kernel
theorem dX7_secondsFrom_26 : decode cX7_secondsFrom 26 = .ok (.iload_n 2, 1) := by decide +kernel
theorem dX7_secondsFrom_27 : decode cX7_secondsFrom 27 = .ok (.invokestatic 58, 3) := by decide +kernel
theorem dX7_secondsFrom_30 : decode cX7_secondsFrom 30 = .ok (.aload_n 0, 1) := by decide +kernel
theorem dX7_secondsFrom_31 : decode cX7_secondsFrom 31 = .ok (.getfield 30, 3) := by decide +kernel
theorem dX7_secondsFrom_34 : decode cX7_secondsFrom 34 = .ok (.iload_n 1, 1) := by decide +kernel
theorem dX7_secondsFrom_35 : decode cX7_secondsFrom 35 = .ok (.iconst 1, 1) := by decide +kernel
theorem dX7_secondsFrom_36 : decode cX7_secondsFrom 36 = .ok (.iadd, 1) := by decide +kernel
theorem dX7_secondsFrom_37 : decode cX7_secondsFrom 37 = .ok (.aaload, 1) := by decide +kernel
theorem dX7_secondsFrom_38 : decode cX7_secondsFrom 38 = .ok (.iload 4, 2) := by decide +kernel
theorem dX7_secondsFrom_40 : decode cX7_secondsFrom 40 = .ok (.iaload, 1) := by decide +kernel
theorem dX7_secondsFrom_41 : decode cX7_secondsFrom 41 = .ok (.iadd, 1) := by decide +kernel
theorem dX7_secondsFrom_42 : decode cX7_secondsFrom 42 = .ok (.ireturn, 1) := by decide +kernel
theorem dX7_easiestBest_0 : decode cX7_easiestBest 0 = .ok (.iconst 0, 1) := by decide +kernel
theorem dX7_easiestBest_1 : decode cX7_easiestBest 1 = .ok (.istore_n 3, 1) := by decide +kernel
theorem dX7_easiestBest_2 : decode cX7_easiestBest 2 = .ok (.iconst 1, 1) := by decide +kernel
theorem dX7_easiestBest_3 : decode cX7_easiestBest 3 = .ok (.istore 4, 2) := by decide +kernel
theorem dX7_easiestBest_5 : decode cX7_easiestBest 5 = .ok (.iload 4, 2) := by decide +kernel
theorem dX7_easiestBest_7 : decode cX7_easiestBest 7 = .ok (.iconst 3, 1) := by decide +kernel
theorem dX7_easiestBest_8 : decode cX7_easiestBest 8 = .ok (.if_icmp .gt 30, 3) := by decide +kernel
theorem dX7_easiestBest_11 : decode cX7_easiestBest 11 = .ok (.aload_n 0, 1) := by decide +kernel
theorem dX7_easiestBest_12 : decode cX7_easiestBest 12 = .ok (.iload_n 1, 1) := by decide +kernel
theorem dX7_easiestBest_13 : decode cX7_easiestBest 13 = .ok (.iload_n 2, 1) := by decide +kernel
theorem dX7_easiestBest_14 : decode cX7_easiestBest 14 = .ok (.iload 4, 2) := by decide +kernel
theorem dX7_easiestBest_16 : decode cX7_easiestBest 16 = .ok (.invokevirtual 62, 3) := by decide +kernel
theorem dX7_easiestBest_19 : decode cX7_easiestBest 19 = .ok (.aload_n 0, 1) := by decide +kernel
theorem dX7_easiestBest_20 : decode cX7_easiestBest 20 = .ok (.iload_n 1, 1) := by decide +kernel
theorem dX7_easiestBest_21 : decode cX7_easiestBest 21 = .ok (.iload_n 2, 1) := by decide +kernel
theorem dX7_easiestBest_22 : decode cX7_easiestBest 22 = .ok (.iload_n 3, 1) := by decide +kernel
theorem dX7_easiestBest_23 : decode cX7_easiestBest 23 = .ok (.invokevirtual 62, 3) := by decide +kernel
theorem dX7_easiestBest_26 : decode cX7_easiestBest 26 = .ok (.if_icmp .ge 6, 3) := by decide +kernel
theorem dX7_easiestBest_29 : decode cX7_easiestBest 29 = .ok (.iload 4, 2) := by decide +kernel
theorem dX7_easiestBest_31 : decode cX7_easiestBest 31 = .ok (.istore_n 3, 1) := by decide +kernel
theorem dX7_easiestBest_32 : decode cX7_easiestBest 32 = .ok (.iinc 4 1, 3) := by decide +kernel
theorem dX7_easiestBest_35 : decode cX7_easiestBest 35 = .ok (.goto (-30), 3) := by decide +kernel
theorem dX7_easiestBest_38 : decode cX7_easiestBest 38 = .ok (.iload_n 3, 1) := by decide +kernel
theorem dX7_easiestBest_39 : decode cX7_easiestBest 39 = .ok (.ireturn, 1) := by decide +kernel
theorem dX7_leastFinish_0 : decode cX7_leastFinish 0 = .ok (.iconst 0, 1) := by decide +kernel
theorem dX7_leastFinish_1 : decode cX7_leastFinish 1 = .ok (.istore_n 1, 1) := by decide +kernel
theorem dX7_leastFinish_2 : decode cX7_leastFinish 2 = .ok (.iload_n 1, 1) := by decide +kernel
theorem dX7_leastFinish_3 : decode cX7_leastFinish 3 = .ok (.bipush 100, 2) := by decide +kernel
theorem dX7_leastFinish_5 : decode cX7_leastFinish 5 = .ok (.if_icmp .ge 21, 3) := by decide +kernel
theorem dX7_leastFinish_8 : decode cX7_leastFinish 8 = .ok (.aload_n 0, 1) := by decide +kernel
theorem dX7_leastFinish_9 : decode cX7_leastFinish 9 = .ok (.getfield 30, 3) := by decide +kernel
theorem dX7_leastFinish_12 : decode cX7_leastFinish 12 = .ok (.aload_n 0, 1) := by decide +kernel
theorem dX7_leastFinish_13 : decode cX7_leastFinish 13 = .ok (.getfield 9, 3) := by decide +kernel
theorem dX7_leastFinish_16 : decode cX7_leastFinish 16 = .ok (.aaload, 1) := by decide +kernel
theorem dX7_leastFinish_17 : decode cX7_leastFinish 17 = .ok (.iload_n 1, 1) := by decide +kernel
theorem dX7_leastFinish_18 : decode cX7_leastFinish 18 = .ok (.iconst 0, 1) := by decide +kernel
theorem dX7_leastFinish_19 : decode cX7_leastFinish 19 = .ok (.iastore, 1) := by decide +kernel
theorem dX7_leastFinish_20 : decode cX7_leastFinish 20 = .ok (.iinc 1 1, 3) := by decide +kernel
theorem dX7_leastFinish_23 : decode cX7_leastFinish 23 = .ok (.goto (-21), 3) := by decide +kernel
theorem dX7_leastFinish_26 : decode cX7_leastFinish 26 = .ok (.aload_n 0, 1) := by decide +kernel
theorem dX7_leastFinish_27 : decode cX7_leastFinish 27 = .ok (.getfield 9, 3) := by decide +kernel
theorem dX7_leastFinish_30 : decode cX7_leastFinish 30 = .ok (.iconst 1, 1) := by decide +kernel
theorem dX7_leastFinish_31 : decode cX7_leastFinish 31 = .ok (.isub, 1) := by decide +kernel
theorem dX7_leastFinish_32 : decode cX7_leastFinish 32 = .ok (.istore_n 1, 1) := by decide +kernel
theorem dX7_leastFinish_33 : decode cX7_leastFinish 33 = .ok (.iload_n 1, 1) := by decide +kernel
theorem dX7_leastFinish_34 : decode cX7_leastFinish 34 = .ok (.ifCond .lt 43, 3) := by decide +kernel
theorem dX7_leastFinish_37 : decode cX7_leastFinish 37 = .ok (.iconst 0, 1) := by decide +kernel
theorem dX7_leastFinish_38 : decode cX7_leastFinish 38 = .ok (.istore_n 2, 1) := by decide +kernel
theorem dX7_leastFinish_39 : decode cX7_leastFinish 39 = .ok (.iload_n 2, 1) := by decide +kernel
theorem dX7_leastFinish_40 : decode cX7_leastFinish 40 = .ok (.bipush 100, 2) := by decide +kernel
theorem dX7_leastFinish_42 : decode cX7_leastFinish 42 = .ok (.if_icmp .ge 29, 3) := by decide +kernel
theorem dX7_leastFinish_45 : decode cX7_leastFinish 45 = .ok (.aload_n 0, 1) := by decide +kernel
theorem dX7_leastFinish_46 : decode cX7_leastFinish 46 = .ok (.getfield 30, 3) := by decide +kernel
theorem dX7_leastFinish_49 : decode cX7_leastFinish 49 = .ok (.iload_n 1, 1) := by decide +kernel
theorem dX7_leastFinish_50 : decode cX7_leastFinish 50 = .ok (.aaload, 1) := by decide +kernel
theorem dX7_leastFinish_51 : decode cX7_leastFinish 51 = .ok (.iload_n 2, 1) := by decide +kernel
theorem dX7_leastFinish_52 : decode cX7_leastFinish 52 = .ok (.aload_n 0, 1) := by decide +kernel
theorem dX7_leastFinish_53 : decode cX7_leastFinish 53 = .ok (.iload_n 1, 1) := by decide +kernel
theorem dX7_leastFinish_54 : decode cX7_leastFinish 54 = .ok (.iload_n 2, 1) := by decide +kernel
theorem dX7_leastFinish_55 : decode cX7_leastFinish 55 = .ok (.aload_n 0, 1) := by decide +kernel
theorem dX7_leastFinish_56 : decode cX7_leastFinish 56 = .ok (.iload_n 1, 1) := by decide +kernel
theorem dX7_leastFinish_57 : decode cX7_leastFinish 57 = .ok (.iload_n 2, 1) := by decide +kernel
theorem dX7_leastFinish_58 : decode cX7_leastFinish 58 = .ok (.invokevirtual 65, 3) := by decide +kernel
theorem dX7_leastFinish_61 : decode cX7_leastFinish 61 = .ok (.invokevirtual 62, 3) := by decide +kernel
theorem dX7_leastFinish_64 : decode cX7_leastFinish 64 = .ok (.iastore, 1) := by decide +kernel
theorem dX7_leastFinish_65 : decode cX7_leastFinish 65 = .ok (.iinc 2 1, 3) := by decide +kernel
theorem dX7_leastFinish_68 : decode cX7_leastFinish 68 = .ok (.goto (-29), 3) := by decide +kernel
theorem dX7_leastFinish_71 : decode cX7_leastFinish 71 = .ok (.iinc 1 (-1), 3) := by decide +kernel
theorem dX7_leastFinish_74 : decode cX7_leastFinish 74 = .ok (.goto (-41), 3) := by decide +kernel
theorem dX7_leastFinish_77 : decode cX7_leastFinish 77 = .ok (.aload_n 0, 1) := by decide +kernel
theorem dX7_leastFinish_78 : decode cX7_leastFinish 78 = .ok (.getfield 30, 3) := by decide +kernel
theorem dX7_leastFinish_81 : decode cX7_leastFinish 81 = .ok (.iconst 0, 1) := by decide +kernel
theorem dX7_leastFinish_82 : decode cX7_leastFinish 82 = .ok (.aaload, 1) := by decide +kernel
theorem dX7_leastFinish_83 : decode cX7_leastFinish 83 = .ok (.aload_n 0, 1) := by decide +kernel
theorem dX7_leastFinish_84 : decode cX7_leastFinish 84 = .ok (.getfield 15, 3) := by decide +kernel
theorem dX7_leastFinish_87 : decode cX7_leastFinish 87 = .ok (.iaload, 1) := by decide +kernel
theorem dX7_leastFinish_88 : decode cX7_leastFinish 88 = .ok (.ireturn, 1) := by decide +kernel
theorem dX7_bestTries_0 : decode cX7_bestTries 0 = .ok (.aload_n 0, 1) := by decide +kernel
theorem dX7_bestTries_1 : decode cX7_bestTries 1 = .ok (.invokevirtual 69, 3) := by decide +kernel
theorem dX7_bestTries_4 : decode cX7_bestTries 4 = .ok (.pop, 1) := by decide +kernel
theorem dX7_bestTries_5 : decode cX7_bestTries 5 = .ok (.aload_n 0, 1) := by decide +kernel
theorem dX7_bestTries_6 : decode cX7_bestTries 6 = .ok (.getfield 15, 3) := by decide +kernel
theorem dX7_bestTries_9 : decode cX7_bestTries 9 = .ok (.istore_n 2, 1) := by decide +kernel
theorem dX7_bestTries_10 : decode cX7_bestTries 10 = .ok (.iconst 0, 1) := by decide +kernel
theorem dX7_bestTries_11 : decode cX7_bestTries 11 = .ok (.istore_n 3, 1) := by decide +kernel
theorem dX7_bestTries_12 : decode cX7_bestTries 12 = .ok (.iload_n 3, 1) := by decide +kernel
theorem dX7_bestTries_13 : decode cX7_bestTries 13 = .ok (.iload_n 1, 1) := by decide +kernel
theorem dX7_bestTries_14 : decode cX7_bestTries 14 = .ok (.if_icmp .ge 40, 3) := by decide +kernel
theorem dX7_bestTries_17 : decode cX7_bestTries 17 = .ok (.iload_n 3, 1) := by decide +kernel
theorem dX7_bestTries_18 : decode cX7_bestTries 18 = .ok (.aload_n 0, 1) := by decide +kernel
theorem dX7_bestTries_19 : decode cX7_bestTries 19 = .ok (.getfield 9, 3) := by decide +kernel
theorem dX7_bestTries_22 : decode cX7_bestTries 22 = .ok (.if_icmp .ge 32, 3) := by decide +kernel
theorem dX7_bestTries_25 : decode cX7_bestTries 25 = .ok (.aload_n 0, 1) := by decide +kernel
theorem dX7_bestTries_26 : decode cX7_bestTries 26 = .ok (.getfield 18, 3) := by decide +kernel
theorem dX7_bestTries_29 : decode cX7_bestTries 29 = .ok (.iload_n 3, 1) := by decide +kernel
theorem dX7_bestTries_30 : decode cX7_bestTries 30 = .ok (.iaload, 1) := by decide +kernel
theorem dX7_bestTries_31 : decode cX7_bestTries 31 = .ok (.aload_n 0, 1) := by decide +kernel
theorem dX7_bestTries_32 : decode cX7_bestTries 32 = .ok (.getfield 22, 3) := by decide +kernel
theorem dX7_bestTries_35 : decode cX7_bestTries 35 = .ok (.iload_n 3, 1) := by decide +kernel
theorem dX7_bestTries_36 : decode cX7_bestTries 36 = .ok (.iaload, 1) := by decide +kernel
theorem dX7_bestTries_37 : decode cX7_bestTries 37 = .ok (.aload_n 0, 1) := by decide +kernel
theorem dX7_bestTries_38 : decode cX7_bestTries 38 = .ok (.iload_n 3, 1) := by decide +kernel
theorem dX7_bestTries_39 : decode cX7_bestTries 39 = .ok (.iload_n 2, 1) := by decide +kernel
theorem dX7_bestTries_40 : decode cX7_bestTries 40 = .ok (.invokevirtual 65, 3) := by decide +kernel
theorem dX7_bestTries_43 : decode cX7_bestTries 43 = .ok (.iload_n 2, 1) := by decide +kernel
theorem dX7_bestTries_44 : decode cX7_bestTries 44 = .ok (.invokestatic 52, 3) := by decide +kernel
theorem dX7_bestTries_47 : decode cX7_bestTries 47 = .ok (.istore_n 2, 1) := by decide +kernel
theorem dX7_bestTries_48 : decode cX7_bestTries 48 = .ok (.iinc 3 1, 3) := by decide +kernel
theorem dX7_bestTries_51 : decode cX7_bestTries 51 = .ok (.goto (-39), 3) := by decide +kernel
theorem dX7_bestTries_54 : decode cX7_bestTries 54 = .ok (.iload_n 1, 1) := by decide +kernel
theorem dX7_bestTries_55 : decode cX7_bestTries 55 = .ok (.ifCond .lt 20, 3) := by decide +kernel
theorem dX7_bestTries_58 : decode cX7_bestTries 58 = .ok (.iload_n 1, 1) := by decide +kernel
theorem dX7_bestTries_59 : decode cX7_bestTries 59 = .ok (.aload_n 0, 1) := by decide +kernel
theorem dX7_bestTries_60 : decode cX7_bestTries 60 = .ok (.getfield 9, 3) := by decide +kernel
theorem dX7_bestTries_63 : decode cX7_bestTries 63 = .ok (.if_icmp .ge 12, 3) := by decide +kernel
theorem dX7_bestTries_66 : decode cX7_bestTries 66 = .ok (.aload_n 0, 1) := by decide +kernel
theorem dX7_bestTries_67 : decode cX7_bestTries 67 = .ok (.iload_n 1, 1) := by decide +kernel
theorem dX7_bestTries_68 : decode cX7_bestTries 68 = .ok (.iload_n 2, 1) := by decide +kernel
theorem dX7_bestTries_69 : decode cX7_bestTries 69 = .ok (.invokevirtual 65, 3) := by decide +kernel
theorem dX7_bestTries_72 : decode cX7_bestTries 72 = .ok (.goto 5, 3) := by decide +kernel
theorem dX7_bestTries_75 : decode cX7_bestTries 75 = .ok (.bipush (-9), 2) := by decide +kernel
theorem dX7_bestTries_77 : decode cX7_bestTries 77 = .ok (.ireturn, 1) := by decide +kernel
theorem dX7_fewestTries_0 : decode cX7_fewestTries 0 = .ok (.aload_n 0, 1) := by decide +kernel
theorem dX7_fewestTries_1 : decode cX7_fewestTries 1 = .ok (.invokevirtual 73, 3) := by decide +kernel
theorem dX7_fewestTries_4 : decode cX7_fewestTries 4 = .ok (.aload_n 0, 1) := by decide +kernel
theorem dX7_fewestTries_5 : decode cX7_fewestTries 5 = .ok (.getfield 36, 3) := by decide +kernel
theorem dX7_fewestTries_8 : decode cX7_fewestTries 8 = .ok (.aload_n 0, 1) := by decide +kernel
theorem dX7_fewestTries_9 : decode cX7_fewestTries 9 = .ok (.getfield 15, 3) := by decide +kernel
theorem dX7_fewestTries_12 : decode cX7_fewestTries 12 = .ok (.iconst 0, 1) := by decide +kernel
theorem dX7_fewestTries_13 : decode cX7_fewestTries 13 = .ok (.iastore, 1) := by decide +kernel
theorem dX7_fewestTries_14 : decode cX7_fewestTries 14 = .ok (.iconst 0, 1) := by decide +kernel
theorem dX7_fewestTries_15 : decode cX7_fewestTries 15 = .ok (.istore_n 2, 1) := by decide +kernel
theorem dX7_fewestTries_16 : decode cX7_fewestTries 16 = .ok (.iload_n 2, 1) := by decide +kernel
theorem dX7_fewestTries_17 : decode cX7_fewestTries 17 = .ok (.aload_n 0, 1) := by decide +kernel
theorem dX7_fewestTries_18 : decode cX7_fewestTries 18 = .ok (.getfield 9, 3) := by decide +kernel
theorem dX7_fewestTries_21 : decode cX7_fewestTries 21 = .ok (.if_icmp .ge 35, 3) := by decide +kernel
theorem dX7_fewestTries_24 : decode cX7_fewestTries 24 = .ok (.aload_n 0, 1) := by decide +kernel
theorem dX7_fewestTries_25 : decode cX7_fewestTries 25 = .ok (.invokevirtual 76, 3) := by decide +kernel
theorem dX7_fewestTries_28 : decode cX7_fewestTries 28 = .ok (.iconst 0, 1) := by decide +kernel
theorem dX7_fewestTries_29 : decode cX7_fewestTries 29 = .ok (.istore_n 3, 1) := by decide +kernel
theorem dX7_fewestTries_30 : decode cX7_fewestTries 30 = .ok (.iload_n 3, 1) := by decide +kernel
theorem dX7_fewestTries_31 : decode cX7_fewestTries 31 = .ok (.iload_n 2, 1) := by decide +kernel
theorem dX7_fewestTries_32 : decode cX7_fewestTries 32 = .ok (.iconst 3, 1) := by decide +kernel
theorem dX7_fewestTries_33 : decode cX7_fewestTries 33 = .ok (.imul, 1) := by decide +kernel
theorem dX7_fewestTries_34 : decode cX7_fewestTries 34 = .ok (.if_icmp .gt 16, 3) := by decide +kernel
theorem dX7_fewestTries_37 : decode cX7_fewestTries 37 = .ok (.aload_n 0, 1) := by decide +kernel
theorem dX7_fewestTries_38 : decode cX7_fewestTries 38 = .ok (.iload_n 2, 1) := by decide +kernel
theorem dX7_fewestTries_39 : decode cX7_fewestTries 39 = .ok (.iload_n 3, 1) := by decide +kernel
theorem dX7_fewestTries_40 : decode cX7_fewestTries 40 = .ok (.iload_n 1, 1) := by decide +kernel
theorem dX7_fewestTries_41 : decode cX7_fewestTries 41 = .ok (.invokevirtual 79, 3) := by decide +kernel
theorem dX7_fewestTries_44 : decode cX7_fewestTries 44 = .ok (.iinc 3 1, 3) := by decide +kernel
theorem dX7_fewestTries_47 : decode cX7_fewestTries 47 = .ok (.goto (-17), 3) := by decide +kernel
theorem dX7_fewestTries_50 : decode cX7_fewestTries 50 = .ok (.iinc 2 1, 3) := by decide +kernel
theorem dX7_fewestTries_53 : decode cX7_fewestTries 53 = .ok (.goto (-37), 3) := by decide +kernel
theorem dX7_fewestTries_56 : decode cX7_fewestTries 56 = .ok (.iconst 0, 1) := by decide +kernel
theorem dX7_fewestTries_57 : decode cX7_fewestTries 57 = .ok (.istore_n 2, 1) := by decide +kernel
theorem dX7_fewestTries_58 : decode cX7_fewestTries 58 = .ok (.iload_n 2, 1) := by decide +kernel
theorem dX7_fewestTries_59 : decode cX7_fewestTries 59 = .ok (.aload_n 0, 1) := by decide +kernel
theorem dX7_fewestTries_60 : decode cX7_fewestTries 60 = .ok (.getfield 36, 3) := by decide +kernel
theorem dX7_fewestTries_63 : decode cX7_fewestTries 63 = .ok (.arraylength, 1) := by decide +kernel
theorem dX7_fewestTries_64 : decode cX7_fewestTries 64 = .ok (.if_icmp .ge 24, 3) := by decide +kernel
theorem dX7_fewestTries_67 : decode cX7_fewestTries 67 = .ok (.aload_n 0, 1) := by decide +kernel
theorem dX7_fewestTries_68 : decode cX7_fewestTries 68 = .ok (.getfield 36, 3) := by decide +kernel
theorem dX7_fewestTries_71 : decode cX7_fewestTries 71 = .ok (.iload_n 2, 1) := by decide +kernel
theorem dX7_fewestTries_72 : decode cX7_fewestTries 72 = .ok (.iaload, 1) := by decide +kernel
theorem dX7_fewestTries_73 : decode cX7_fewestTries 73 = .ok (.iload_n 1, 1) := by decide +kernel
theorem dX7_fewestTries_74 : decode cX7_fewestTries 74 = .ok (.if_icmp .gt 8, 3) := by decide +kernel
theorem dX7_fewestTries_77 : decode cX7_fewestTries 77 = .ok (.iload_n 2, 1) := by decide +kernel
theorem dX7_fewestTries_78 : decode cX7_fewestTries 78 = .ok (.bipush 100, 2) := by decide +kernel
theorem dX7_fewestTries_80 : decode cX7_fewestTries 80 = .ok (.idiv, 1) := by decide +kernel
theorem dX7_fewestTries_81 : decode cX7_fewestTries 81 = .ok (.ireturn, 1) := by decide +kernel
theorem dX7_fewestTries_82 : decode cX7_fewestTries 82 = .ok (.iinc 2 1, 3) := by decide +kernel
theorem dX7_fewestTries_85 : decode cX7_fewestTries 85 = .ok (.goto (-27), 3) := by decide +kernel
theorem dX7_fewestTries_88 : decode cX7_fewestTries 88 = .ok (.bipush (-9), 2) := by decide +kernel
theorem dX7_fewestTries_90 : decode cX7_fewestTries 90 = .ok (.ireturn, 1) := by decide +kernel
theorem dX7_emptyNext_0 : decode cX7_emptyNext 0 = .ok (.iconst 0, 1) := by decide +kernel
theorem dX7_emptyNext_1 : decode cX7_emptyNext 1 = .ok (.istore_n 1, 1) := by decide +kernel
theorem dX7_emptyNext_2 : decode cX7_emptyNext 2 = .ok (.iload_n 1, 1) := by decide +kernel
theorem dX7_emptyNext_3 : decode cX7_emptyNext 3 = .ok (.aload_n 0, 1) := by decide +kernel
theorem dX7_emptyNext_4 : decode cX7_emptyNext 4 = .ok (.getfield 36, 3) := by decide +kernel
theorem dX7_emptyNext_7 : decode cX7_emptyNext 7 = .ok (.arraylength, 1) := by decide +kernel
theorem dX7_emptyNext_8 : decode cX7_emptyNext 8 = .ok (.if_icmp .ge 17, 3) := by decide +kernel
theorem dX7_emptyNext_11 : decode cX7_emptyNext 11 = .ok (.aload_n 0, 1) := by decide +kernel
theorem dX7_emptyNext_12 : decode cX7_emptyNext 12 = .ok (.getfield 36, 3) := by decide +kernel
theorem dX7_emptyNext_15 : decode cX7_emptyNext 15 = .ok (.iload_n 1, 1) := by decide +kernel
theorem dX7_emptyNext_16 : decode cX7_emptyNext 16 = .ok (.ldc 83, 2) := by decide +kernel
theorem dX7_emptyNext_18 : decode cX7_emptyNext 18 = .ok (.iastore, 1) := by decide +kernel
theorem dX7_emptyNext_19 : decode cX7_emptyNext 19 = .ok (.iinc 1 1, 3) := by decide +kernel
theorem dX7_emptyNext_22 : decode cX7_emptyNext 22 = .ok (.goto (-20), 3) := by decide +kernel
theorem dX7_emptyNext_25 : decode cX7_emptyNext 25 = .ok (.return_, 1) := by decide +kernel
theorem dX7_takeNext_0 : decode cX7_takeNext 0 = .ok (.aload_n 0, 1) := by decide +kernel
theorem dX7_takeNext_1 : decode cX7_takeNext 1 = .ok (.getfield 33, 3) := by decide +kernel
theorem dX7_takeNext_4 : decode cX7_takeNext 4 = .ok (.astore_n 1, 1) := by decide +kernel
theorem dX7_takeNext_5 : decode cX7_takeNext 5 = .ok (.aload_n 0, 1) := by decide +kernel
theorem dX7_takeNext_6 : decode cX7_takeNext 6 = .ok (.aload_n 0, 1) := by decide +kernel
theorem dX7_takeNext_7 : decode cX7_takeNext 7 = .ok (.getfield 36, 3) := by decide +kernel
theorem dX7_takeNext_10 : decode cX7_takeNext 10 = .ok (.putfield 33, 3) := by decide +kernel
theorem dX7_takeNext_13 : decode cX7_takeNext 13 = .ok (.aload_n 0, 1) := by decide +kernel
theorem dX7_takeNext_14 : decode cX7_takeNext 14 = .ok (.aload_n 1, 1) := by decide +kernel
theorem dX7_takeNext_15 : decode cX7_takeNext 15 = .ok (.putfield 36, 3) := by decide +kernel
theorem dX7_takeNext_18 : decode cX7_takeNext 18 = .ok (.aload_n 0, 1) := by decide +kernel
theorem dX7_takeNext_19 : decode cX7_takeNext 19 = .ok (.invokevirtual 73, 3) := by decide +kernel
theorem dX7_takeNext_22 : decode cX7_takeNext 22 = .ok (.return_, 1) := by decide +kernel
theorem dX7_goOnFrom_0 : decode cX7_goOnFrom 0 = .ok (.iconst 0, 1) := by decide +kernel
theorem dX7_goOnFrom_1 : decode cX7_goOnFrom 1 = .ok (.istore 4, 2) := by decide +kernel
theorem dX7_goOnFrom_3 : decode cX7_goOnFrom 3 = .ok (.iload 4, 2) := by decide +kernel
theorem dX7_goOnFrom_5 : decode cX7_goOnFrom 5 = .ok (.bipush 100, 2) := by decide +kernel
theorem dX7_goOnFrom_7 : decode cX7_goOnFrom 7 = .ok (.if_icmp .ge 39, 3) := by decide +kernel
theorem dX7_goOnFrom_10 : decode cX7_goOnFrom 10 = .ok (.aload_n 0, 1) := by decide +kernel
theorem dX7_goOnFrom_11 : decode cX7_goOnFrom 11 = .ok (.getfield 33, 3) := by decide +kernel
theorem dX7_goOnFrom_14 : decode cX7_goOnFrom 14 = .ok (.iload_n 2, 1) := by decide +kernel
theorem dX7_goOnFrom_15 : decode cX7_goOnFrom 15 = .ok (.bipush 100, 2) := by decide +kernel
theorem dX7_goOnFrom_17 : decode cX7_goOnFrom 17 = .ok (.imul, 1) := by decide +kernel
theorem dX7_goOnFrom_18 : decode cX7_goOnFrom 18 = .ok (.iload 4, 2) := by decide +kernel
theorem dX7_goOnFrom_20 : decode cX7_goOnFrom 20 = .ok (.iadd, 1) := by decide +kernel
theorem dX7_goOnFrom_21 : decode cX7_goOnFrom 21 = .ok (.iaload, 1) := by decide +kernel
theorem dX7_goOnFrom_22 : decode cX7_goOnFrom 22 = .ok (.istore 5, 2) := by decide +kernel
theorem dX7_goOnFrom_24 : decode cX7_goOnFrom 24 = .ok (.iload 5, 2) := by decide +kernel
theorem dX7_goOnFrom_26 : decode cX7_goOnFrom 26 = .ok (.iload_n 3, 1) := by decide +kernel
theorem dX7_goOnFrom_27 : decode cX7_goOnFrom 27 = .ok (.if_icmp .gt 13, 3) := by decide +kernel
theorem dX7_goOnFrom_30 : decode cX7_goOnFrom 30 = .ok (.aload_n 0, 1) := by decide +kernel
theorem dX7_goOnFrom_31 : decode cX7_goOnFrom 31 = .ok (.iload_n 1, 1) := by decide +kernel
theorem dX7_goOnFrom_32 : decode cX7_goOnFrom 32 = .ok (.iload_n 2, 1) := by decide +kernel
theorem dX7_goOnFrom_33 : decode cX7_goOnFrom 33 = .ok (.iload 4, 2) := by decide +kernel
theorem dX7_goOnFrom_35 : decode cX7_goOnFrom 35 = .ok (.iload 5, 2) := by decide +kernel
theorem dX7_goOnFrom_37 : decode cX7_goOnFrom 37 = .ok (.invokevirtual 84, 3) := by decide +kernel
theorem dX7_goOnFrom_40 : decode cX7_goOnFrom 40 = .ok (.iinc 4 1, 3) := by decide +kernel
theorem dX7_goOnFrom_43 : decode cX7_goOnFrom 43 = .ok (.goto (-40), 3) := by decide +kernel
theorem dX7_goOnFrom_46 : decode cX7_goOnFrom 46 = .ok (.return_, 1) := by decide +kernel
theorem dX7_goOnFromLegs_0 : decode cX7_goOnFromLegs 0 = .ok (.iconst 0, 1) := by decide +kernel
theorem dX7_goOnFromLegs_1 : decode cX7_goOnFromLegs 1 = .ok (.istore 5, 2) := by decide +kernel
theorem dX7_goOnFromLegs_3 : decode cX7_goOnFromLegs 3 = .ok (.iload 5, 2) := by decide +kernel
theorem dX7_goOnFromLegs_5 : decode cX7_goOnFromLegs 5 = .ok (.iconst 3, 1) := by decide +kernel
theorem dX7_goOnFromLegs_6 : decode cX7_goOnFromLegs 6 = .ok (.if_icmp .gt 77, 3) := by decide +kernel
theorem dX7_goOnFromLegs_9 : decode cX7_goOnFromLegs 9 = .ok (.aload_n 0, 1) := by decide +kernel
theorem dX7_goOnFromLegs_10 : decode cX7_goOnFromLegs 10 = .ok (.getfield 18, 3) := by decide +kernel
theorem dX7_goOnFromLegs_13 : decode cX7_goOnFromLegs 13 = .ok (.iload_n 1, 1) := by decide +kernel
theorem dX7_goOnFromLegs_14 : decode cX7_goOnFromLegs 14 = .ok (.iaload, 1) := by decide +kernel
theorem dX7_goOnFromLegs_15 : decode cX7_goOnFromLegs 15 = .ok (.aload_n 0, 1) := by decide +kernel
theorem dX7_goOnFromLegs_16 : decode cX7_goOnFromLegs 16 = .ok (.getfield 22, 3) := by decide +kernel
theorem dX7_goOnFromLegs_19 : decode cX7_goOnFromLegs 19 = .ok (.iload_n 1, 1) := by decide +kernel
theorem dX7_goOnFromLegs_20 : decode cX7_goOnFromLegs 20 = .ok (.iaload, 1) := by decide +kernel
theorem dX7_goOnFromLegs_21 : decode cX7_goOnFromLegs 21 = .ok (.iload 5, 2) := by decide +kernel
theorem dX7_goOnFromLegs_23 : decode cX7_goOnFromLegs 23 = .ok (.iload_n 3, 1) := by decide +kernel
theorem dX7_goOnFromLegs_24 : decode cX7_goOnFromLegs 24 = .ok (.invokestatic 52, 3) := by decide +kernel
theorem dX7_goOnFromLegs_27 : decode cX7_goOnFromLegs 27 = .ok (.istore 6, 2) := by decide +kernel
theorem dX7_goOnFromLegs_29 : decode cX7_goOnFromLegs 29 = .ok (.iload_n 2, 1) := by decide +kernel
theorem dX7_goOnFromLegs_30 : decode cX7_goOnFromLegs 30 = .ok (.iload 5, 2) := by decide +kernel
theorem dX7_goOnFromLegs_32 : decode cX7_goOnFromLegs 32 = .ok (.iadd, 1) := by decide +kernel
theorem dX7_goOnFromLegs_33 : decode cX7_goOnFromLegs 33 = .ok (.bipush 100, 2) := by decide +kernel
theorem dX7_goOnFromLegs_35 : decode cX7_goOnFromLegs 35 = .ok (.imul, 1) := by decide +kernel
theorem dX7_goOnFromLegs_36 : decode cX7_goOnFromLegs 36 = .ok (.iload 6, 2) := by decide +kernel
theorem dX7_goOnFromLegs_38 : decode cX7_goOnFromLegs 38 = .ok (.iadd, 1) := by decide +kernel
theorem dX7_goOnFromLegs_39 : decode cX7_goOnFromLegs 39 = .ok (.istore 7, 2) := by decide +kernel
theorem dX7_goOnFromLegs_41 : decode cX7_goOnFromLegs 41 = .ok (.iload 4, 2) := by decide +kernel
theorem dX7_goOnFromLegs_43 : decode cX7_goOnFromLegs 43 = .ok (.aload_n 0, 1) := by decide +kernel
theorem dX7_goOnFromLegs_44 : decode cX7_goOnFromLegs 44 = .ok (.getfield 25, 3) := by decide +kernel
theorem dX7_goOnFromLegs_47 : decode cX7_goOnFromLegs 47 = .ok (.iload_n 1, 1) := by decide +kernel
theorem dX7_goOnFromLegs_48 : decode cX7_goOnFromLegs 48 = .ok (.iaload, 1) := by decide +kernel
theorem dX7_goOnFromLegs_49 : decode cX7_goOnFromLegs 49 = .ok (.iload 5, 2) := by decide +kernel
theorem dX7_goOnFromLegs_51 : decode cX7_goOnFromLegs 51 = .ok (.iload_n 3, 1) := by decide +kernel
theorem dX7_goOnFromLegs_52 : decode cX7_goOnFromLegs 52 = .ok (.invokestatic 58, 3) := by decide +kernel
theorem dX7_goOnFromLegs_55 : decode cX7_goOnFromLegs 55 = .ok (.iadd, 1) := by decide +kernel
theorem dX7_goOnFromLegs_56 : decode cX7_goOnFromLegs 56 = .ok (.istore 8, 2) := by decide +kernel
theorem dX7_goOnFromLegs_58 : decode cX7_goOnFromLegs 58 = .ok (.aload_n 0, 1) := by decide +kernel
theorem dX7_goOnFromLegs_59 : decode cX7_goOnFromLegs 59 = .ok (.getfield 36, 3) := by decide +kernel
theorem dX7_goOnFromLegs_62 : decode cX7_goOnFromLegs 62 = .ok (.iload 7, 2) := by decide +kernel
theorem dX7_goOnFromLegs_64 : decode cX7_goOnFromLegs 64 = .ok (.aload_n 0, 1) := by decide +kernel
theorem dX7_goOnFromLegs_65 : decode cX7_goOnFromLegs 65 = .ok (.getfield 36, 3) := by decide +kernel
theorem dX7_goOnFromLegs_68 : decode cX7_goOnFromLegs 68 = .ok (.iload 7, 2) := by decide +kernel
theorem dX7_goOnFromLegs_70 : decode cX7_goOnFromLegs 70 = .ok (.iaload, 1) := by decide +kernel
theorem dX7_goOnFromLegs_71 : decode cX7_goOnFromLegs 71 = .ok (.iload 8, 2) := by decide +kernel
theorem dX7_goOnFromLegs_73 : decode cX7_goOnFromLegs 73 = .ok (.invokestatic 88, 3) := by decide +kernel
theorem dX7_goOnFromLegs_76 : decode cX7_goOnFromLegs 76 = .ok (.iastore, 1) := by decide +kernel
theorem dX7_goOnFromLegs_77 : decode cX7_goOnFromLegs 77 = .ok (.iinc 5 1, 3) := by decide +kernel
theorem dX7_goOnFromLegs_80 : decode cX7_goOnFromLegs 80 = .ok (.goto (-77), 3) := by decide +kernel
theorem dX7_goOnFromLegs_83 : decode cX7_goOnFromLegs 83 = .ok (.return_, 1) := by decide +kernel
theorem dX8_init_0 : decode cX8_init 0 = .ok (.aload_n 0, 1) := by decide +kernel
theorem dX8_init_1 : decode cX8_init 1 = .ok (.invokespecial 3, 3) := by decide +kernel
theorem dX8_init_4 : decode cX8_init 4 = .ok (.aload_n 0, 1) := by decide +kernel
theorem dX8_init_5 : decode cX8_init 5 = .ok (.iconst 0, 1) := by decide +kernel
theorem dX8_init_6 : decode cX8_init 6 = .ok (.putfield 9, 3) := by decide +kernel
theorem dX8_init_9 : decode cX8_init 9 = .ok (.aload_n 0, 1) := by decide +kernel
theorem dX8_init_10 : decode cX8_init 10 = .ok (.bipush 12, 2) := by decide +kernel
theorem dX8_init_12 : decode cX8_init 12 = .ok (.newarray .int, 2) := by decide +kernel
theorem dX8_init_14 : decode cX8_init 14 = .ok (.putfield 15, 3) := by decide +kernel
theorem dX8_init_17 : decode cX8_init 17 = .ok (.return_, 1) := by decide +kernel
theorem dX8_isFull_0 : decode cX8_isFull 0 = .ok (.aload_n 0, 1) := by decide +kernel
theorem dX8_isFull_1 : decode cX8_isFull 1 = .ok (.getfield 9, 3) := by decide +kernel
theorem dX8_isFull_4 : decode cX8_isFull 4 = .ok (.bipush 12, 2) := by decide +kernel
theorem dX8_isFull_6 : decode cX8_isFull 6 = .ok (.if_icmp .lt 7, 3) := by decide +kernel
theorem dX8_isFull_9 : decode cX8_isFull 9 = .ok (.iconst 1, 1) := by decide +kernel
theorem dX8_isFull_10 : decode cX8_isFull 10 = .ok (.goto 4, 3) := by decide +kernel
theorem dX8_isFull_13 : decode cX8_isFull 13 = .ok (.iconst 0, 1) := by decide +kernel
theorem dX8_isFull_14 : decode cX8_isFull 14 = .ok (.ireturn, 1) := by decide +kernel
theorem dX8_put_0 : decode cX8_put 0 = .ok (.aload_n 0, 1) := by decide +kernel
theorem dX8_put_1 : decode cX8_put 1 = .ok (.getfield 9, 3) := by decide +kernel
theorem dX8_put_4 : decode cX8_put 4 = .ok (.bipush 12, 2) := by decide +kernel
theorem dX8_put_6 : decode cX8_put 6 = .ok (.if_icmp .ge 23, 3) := by decide +kernel
theorem dX8_put_9 : decode cX8_put 9 = .ok (.aload_n 0, 1) := by decide +kernel
theorem dX8_put_10 : decode cX8_put 10 = .ok (.getfield 15, 3) := by decide +kernel
theorem dX8_put_13 : decode cX8_put 13 = .ok (.aload_n 0, 1) := by decide +kernel
theorem dX8_put_14 : decode cX8_put 14 = .ok (.getfield 9, 3) := by decide +kernel
theorem dX8_put_17 : decode cX8_put 17 = .ok (.iload_n 1, 1) := by decide +kernel
theorem dX8_put_18 : decode cX8_put 18 = .ok (.iastore, 1) := by decide +kernel
theorem dX8_put_19 : decode cX8_put 19 = .ok (.aload_n 0, 1) := by decide +kernel
theorem dX8_put_20 : decode cX8_put 20 = .ok (.dup, 1) := by decide +kernel
theorem dX8_put_21 : decode cX8_put 21 = .ok (.getfield 9, 3) := by decide +kernel
theorem dX8_put_24 : decode cX8_put 24 = .ok (.iconst 1, 1) := by decide +kernel
theorem dX8_put_25 : decode cX8_put 25 = .ok (.iadd, 1) := by decide +kernel
theorem dX8_put_26 : decode cX8_put 26 = .ok (.putfield 9, 3) := by decide +kernel
theorem dX8_put_29 : decode cX8_put 29 = .ok (.aload_n 0, 1) := by decide +kernel
theorem dX8_put_30 : decode cX8_put 30 = .ok (.getfield 9, 3) := by decide +kernel
theorem dX8_put_33 : decode cX8_put 33 = .ok (.ireturn, 1) := by decide +kernel
theorem dX8_forget_0 : decode cX8_forget 0 = .ok (.aload_n 0, 1) := by decide +kernel
theorem dX8_forget_1 : decode cX8_forget 1 = .ok (.getfield 9, 3) := by decide +kernel
theorem dX8_forget_4 : decode cX8_forget 4 = .ok (.istore_n 1, 1) := by decide +kernel
theorem dX8_forget_5 : decode cX8_forget 5 = .ok (.aload_n 0, 1) := by decide +kernel
theorem dX8_forget_6 : decode cX8_forget 6 = .ok (.iconst 0, 1) := by decide +kernel
theorem dX8_forget_7 : decode cX8_forget 7 = .ok (.putfield 9, 3) := by decide +kernel
theorem dX8_forget_10 : decode cX8_forget 10 = .ok (.iload_n 1, 1) := by decide +kernel
theorem dX8_forget_11 : decode cX8_forget 11 = .ok (.ireturn, 1) := by decide +kernel
theorem dX8_firstUnlike_0 : decode cX8_firstUnlike 0 = .ok (.iconst 0, 1) := by decide +kernel
theorem dX8_firstUnlike_1 : decode cX8_firstUnlike 1 = .ok (.istore_n 3, 1) := by decide +kernel
theorem dX8_firstUnlike_2 : decode cX8_firstUnlike 2 = .ok (.iload_n 3, 1) := by decide +kernel
theorem dX8_firstUnlike_3 : decode cX8_firstUnlike 3 = .ok (.aload_n 0, 1) := by decide +kernel
theorem dX8_firstUnlike_4 : decode cX8_firstUnlike 4 = .ok (.getfield 9, 3) := by decide +kernel
theorem dX8_firstUnlike_7 : decode cX8_firstUnlike 7 = .ok (.if_icmp .ge 34, 3) := by decide +kernel
theorem dX8_firstUnlike_10 : decode cX8_firstUnlike 10 = .ok (.iload_n 3, 1) := by decide +kernel
theorem dX8_firstUnlike_11 : decode cX8_firstUnlike 11 = .ok (.iload_n 2, 1) := by decide +kernel
theorem dX8_firstUnlike_12 : decode cX8_firstUnlike 12 = .ok (.if_icmp .ge 21, 3) := by decide +kernel
theorem dX8_firstUnlike_15 : decode cX8_firstUnlike 15 = .ok (.iload_n 3, 1) := by decide +kernel
theorem dX8_firstUnlike_16 : decode cX8_firstUnlike 16 = .ok (.aload_n 1, 1) := by decide +kernel
theorem dX8_firstUnlike_17 : decode cX8_firstUnlike 17 = .ok (.arraylength, 1) := by decide +kernel
theorem dX8_firstUnlike_18 : decode cX8_firstUnlike 18 = .ok (.if_icmp .ge 15, 3) := by decide +kernel
theorem dX8_firstUnlike_21 : decode cX8_firstUnlike 21 = .ok (.aload_n 0, 1) := by decide +kernel
theorem dX8_firstUnlike_22 : decode cX8_firstUnlike 22 = .ok (.getfield 15, 3) := by decide +kernel
theorem dX8_firstUnlike_25 : decode cX8_firstUnlike 25 = .ok (.iload_n 3, 1) := by decide +kernel
theorem dX8_firstUnlike_26 : decode cX8_firstUnlike 26 = .ok (.iaload, 1) := by decide +kernel
theorem dX8_firstUnlike_27 : decode cX8_firstUnlike 27 = .ok (.aload_n 1, 1) := by decide +kernel
theorem dX8_firstUnlike_28 : decode cX8_firstUnlike 28 = .ok (.iload_n 3, 1) := by decide +kernel
theorem dX8_firstUnlike_29 : decode cX8_firstUnlike 29 = .ok (.iaload, 1) := by decide +kernel
theorem dX8_firstUnlike_30 : decode cX8_firstUnlike 30 = .ok (.if_icmp .eq 5, 3) := by decide +kernel
theorem dX8_firstUnlike_33 : decode cX8_firstUnlike 33 = .ok (.iload_n 3, 1) := by decide +kernel
theorem dX8_firstUnlike_34 : decode cX8_firstUnlike 34 = .ok (.ireturn, 1) := by decide +kernel
theorem dX8_firstUnlike_35 : decode cX8_firstUnlike 35 = .ok (.iinc 3 1, 3) := by decide +kernel
theorem dX8_firstUnlike_38 : decode cX8_firstUnlike 38 = .ok (.goto (-36), 3) := by decide +kernel
theorem dX8_firstUnlike_41 : decode cX8_firstUnlike 41 = .ok (.bipush (-9), 2) := by decide +kernel
theorem dX8_firstUnlike_43 : decode cX8_firstUnlike 43 = .ok (.ireturn, 1) := by decide +kernel
theorem dX9_init_0 : decode cX9_init 0 = .ok (.aload_n 0, 1) := by decide +kernel
theorem dX9_init_1 : decode cX9_init 1 = .ok (.invokespecial 3, 3) := by decide +kernel
theorem dX9_init_4 : decode cX9_init 4 = .ok (.aload_n 0, 1) := by decide +kernel
theorem dX9_init_5 : decode cX9_init 5 = .ok (.iconst 0, 1) := by decide +kernel
theorem dX9_init_6 : decode cX9_init 6 = .ok (.putfield 9, 3) := by decide +kernel
theorem dX9_init_9 : decode cX9_init 9 = .ok (.aload_n 0, 1) := by decide +kernel
theorem dX9_init_10 : decode cX9_init 10 = .ok (.bipush 96, 2) := by decide +kernel
theorem dX9_init_12 : decode cX9_init 12 = .ok (.newarray .int, 2) := by decide +kernel
theorem dX9_init_14 : decode cX9_init 14 = .ok (.putfield 15, 3) := by decide +kernel
theorem dX9_init_17 : decode cX9_init 17 = .ok (.return_, 1) := by decide +kernel
theorem dX9_isFull_0 : decode cX9_isFull 0 = .ok (.aload_n 0, 1) := by decide +kernel
theorem dX9_isFull_1 : decode cX9_isFull 1 = .ok (.getfield 9, 3) := by decide +kernel
theorem dX9_isFull_4 : decode cX9_isFull 4 = .ok (.bipush 96, 2) := by decide +kernel
theorem dX9_isFull_6 : decode cX9_isFull 6 = .ok (.if_icmp .lt 7, 3) := by decide +kernel
theorem dX9_isFull_9 : decode cX9_isFull 9 = .ok (.iconst 1, 1) := by decide +kernel
theorem dX9_isFull_10 : decode cX9_isFull 10 = .ok (.goto 4, 3) := by decide +kernel
theorem dX9_isFull_13 : decode cX9_isFull 13 = .ok (.iconst 0, 1) := by decide +kernel
theorem dX9_isFull_14 : decode cX9_isFull 14 = .ok (.ireturn, 1) := by decide +kernel
theorem dX9_put_0 : decode cX9_put 0 = .ok (.aload_n 0, 1) := by decide +kernel
theorem dX9_put_1 : decode cX9_put 1 = .ok (.getfield 9, 3) := by decide +kernel
theorem dX9_put_4 : decode cX9_put 4 = .ok (.bipush 96, 2) := by decide +kernel
theorem dX9_put_6 : decode cX9_put 6 = .ok (.if_icmp .ge 23, 3) := by decide +kernel
theorem dX9_put_9 : decode cX9_put 9 = .ok (.aload_n 0, 1) := by decide +kernel
theorem dX9_put_10 : decode cX9_put 10 = .ok (.getfield 15, 3) := by decide +kernel
theorem dX9_put_13 : decode cX9_put 13 = .ok (.aload_n 0, 1) := by decide +kernel
theorem dX9_put_14 : decode cX9_put 14 = .ok (.getfield 9, 3) := by decide +kernel
theorem dX9_put_17 : decode cX9_put 17 = .ok (.iload_n 1, 1) := by decide +kernel
theorem dX9_put_18 : decode cX9_put 18 = .ok (.iastore, 1) := by decide +kernel
theorem dX9_put_19 : decode cX9_put 19 = .ok (.aload_n 0, 1) := by decide +kernel
theorem dX9_put_20 : decode cX9_put 20 = .ok (.dup, 1) := by decide +kernel
theorem dX9_put_21 : decode cX9_put 21 = .ok (.getfield 9, 3) := by decide +kernel
theorem dX9_put_24 : decode cX9_put 24 = .ok (.iconst 1, 1) := by decide +kernel
theorem dX9_put_25 : decode cX9_put 25 = .ok (.iadd, 1) := by decide +kernel
theorem dX9_put_26 : decode cX9_put 26 = .ok (.putfield 9, 3) := by decide +kernel
theorem dX9_put_29 : decode cX9_put 29 = .ok (.aload_n 0, 1) := by decide +kernel
theorem dX9_put_30 : decode cX9_put 30 = .ok (.getfield 9, 3) := by decide +kernel
theorem dX9_put_33 : decode cX9_put 33 = .ok (.ireturn, 1) := by decide +kernel
theorem dX9_forget_0 : decode cX9_forget 0 = .ok (.aload_n 0, 1) := by decide +kernel
theorem dX9_forget_1 : decode cX9_forget 1 = .ok (.iconst 0, 1) := by decide +kernel
theorem dX9_forget_2 : decode cX9_forget 2 = .ok (.putfield 9, 3) := by decide +kernel
theorem dX9_forget_5 : decode cX9_forget 5 = .ok (.return_, 1) := by decide +kernel
theorem dX9_faultIn_0 : decode cX9_faultIn 0 = .ok (.aload_n 0, 1) := by decide +kernel
theorem dX9_faultIn_1 : decode cX9_faultIn 1 = .ok (.invokevirtual 19, 3) := by decide +kernel
theorem dX9_faultIn_4 : decode cX9_faultIn 4 = .ok (.istore_n 2, 1) := by decide +kernel
theorem dX9_faultIn_5 : decode cX9_faultIn 5 = .ok (.iload_n 2, 1) := by decide +kernel
theorem dX9_faultIn_6 : decode cX9_faultIn 6 = .ok (.bipush (-9), 2) := by decide +kernel
theorem dX9_faultIn_8 : decode cX9_faultIn 8 = .ok (.if_icmp .eq 9, 3) := by decide +kernel
theorem dX9_faultIn_11 : decode cX9_faultIn 11 = .ok (.sipush (-1000), 3) := by decide +kernel
theorem dX9_faultIn_14 : decode cX9_faultIn 14 = .ok (.iload_n 2, 1) := by decide +kernel
theorem dX9_faultIn_15 : decode cX9_faultIn 15 = .ok (.isub, 1) := by decide +kernel
theorem dX9_faultIn_16 : decode cX9_faultIn 16 = .ok (.ireturn, 1) := by decide +kernel
theorem dX9_faultIn_17 : decode cX9_faultIn 17 = .ok (.aload_n 0, 1) := by decide +kernel
theorem dX9_faultIn_18 : decode cX9_faultIn 18 = .ok (.aload_n 1, 1) := by decide +kernel
theorem dX9_faultIn_19 : decode cX9_faultIn 19 = .ok (.invokevirtual 23, 3) := by decide +kernel
theorem dX9_faultIn_22 : decode cX9_faultIn 22 = .ok (.istore_n 2, 1) := by decide +kernel
theorem dX9_faultIn_23 : decode cX9_faultIn 23 = .ok (.iload_n 2, 1) := by decide +kernel
theorem dX9_faultIn_24 : decode cX9_faultIn 24 = .ok (.bipush (-9), 2) := by decide +kernel
theorem dX9_faultIn_26 : decode cX9_faultIn 26 = .ok (.if_icmp .ne 7, 3) := by decide +kernel
theorem dX9_faultIn_29 : decode cX9_faultIn 29 = .ok (.iconst 0, 1) := by decide +kernel
theorem dX9_faultIn_30 : decode cX9_faultIn 30 = .ok (.goto 8, 3) := by decide +kernel
theorem dX9_faultIn_33 : decode cX9_faultIn 33 = .ok (.sipush (-2000), 3) := by decide +kernel
theorem dX9_faultIn_36 : decode cX9_faultIn 36 = .ok (.iload_n 2, 1) := by decide +kernel
theorem dX9_faultIn_37 : decode cX9_faultIn 37 = .ok (.isub, 1) := by decide +kernel
theorem dX9_faultIn_38 : decode cX9_faultIn 38 = .ok (.ireturn, 1) := by decide +kernel
theorem dX9_placeOfBadLetter_0 : decode cX9_placeOfBadLetter 0 = .ok (.iconst 0, 1) := by decide +kernel
theorem dX9_placeOfBadLetter_1 : decode cX9_placeOfBadLetter 1 = .ok (.istore_n 1, 1) := by decide +kernel
theorem dX9_placeOfBadLetter_2 : decode cX9_placeOfBadLetter 2 = .ok (.iconst 0, 1) := by decide +kernel
theorem dX9_placeOfBadLetter_3 : decode cX9_placeOfBadLetter 3 = .ok (.istore_n 2, 1) := by decide +kernel
theorem dX9_placeOfBadLetter_4 : decode cX9_placeOfBadLetter 4 = .ok (.iload_n 2, 1) := by decide +kernel
theorem dX9_placeOfBadLetter_5 : decode cX9_placeOfBadLetter 5 = .ok (.aload_n 0, 1) := by decide +kernel
theorem dX9_placeOfBadLetter_6 : decode cX9_placeOfBadLetter 6 = .ok (.getfield 9, 3) := by decide +kernel
theorem dX9_placeOfBadLetter_9 : decode cX9_placeOfBadLetter 9 = .ok (.if_icmp .ge 63, 3) := by decide +kernel
theorem dX9_placeOfBadLetter_12 : decode cX9_placeOfBadLetter 12 = .ok (.aload_n 0, 1) := by decide +kernel
theorem dX9_placeOfBadLetter_13 : decode cX9_placeOfBadLetter 13 = .ok (.getfield 15, 3) := by decide +kernel
theorem dX9_placeOfBadLetter_16 : decode cX9_placeOfBadLetter 16 = .ok (.iload_n 2, 1) := by decide +kernel
theorem dX9_placeOfBadLetter_17 : decode cX9_placeOfBadLetter 17 = .ok (.iaload, 1) := by decide +kernel
theorem dX9_placeOfBadLetter_18 : decode cX9_placeOfBadLetter 18 = .ok (.istore_n 3, 1) := by decide +kernel
theorem dX9_placeOfBadLetter_19 : decode cX9_placeOfBadLetter 19 = .ok (.iload_n 2, 1) := by decide +kernel
theorem dX9_placeOfBadLetter_20 : decode cX9_placeOfBadLetter 20 = .ok (.iload_n 1, 1) := by decide +kernel
theorem dX9_placeOfBadLetter_21 : decode cX9_placeOfBadLetter 21 = .ok (.isub, 1) := by decide +kernel
theorem dX9_placeOfBadLetter_22 : decode cX9_placeOfBadLetter 22 = .ok (.istore 4, 2) := by decide +kernel
theorem dX9_placeOfBadLetter_24 : decode cX9_placeOfBadLetter 24 = .ok (.iload 4, 2) := by decide +kernel
theorem dX9_placeOfBadLetter_26 : decode cX9_placeOfBadLetter 26 = .ok (.ifCond .ne 13, 3) := by decide +kernel
theorem dX9_placeOfBadLetter_29 : decode cX9_placeOfBadLetter 29 = .ok (.iload_n 3, 1) := by decide +kernel
theorem dX9_placeOfBadLetter_30 : decode cX9_placeOfBadLetter 30 = .ok (.invokestatic 27, 3) := by decide +kernel
theorem dX9_placeOfBadLetter_33 : decode cX9_placeOfBadLetter 33 = .ok (.ifCond .ne 23, 3) := by decide +kernel
theorem dX9_placeOfBadLetter_36 : decode cX9_placeOfBadLetter 36 = .ok (.goto 18, 3) := by decide +kernel
theorem dX9_placeOfBadLetter_39 : decode cX9_placeOfBadLetter 39 = .ok (.aload_n 0, 1) := by decide +kernel
theorem dX9_placeOfBadLetter_40 : decode cX9_placeOfBadLetter 40 = .ok (.getfield 15, 3) := by decide +kernel
theorem dX9_placeOfBadLetter_43 : decode cX9_placeOfBadLetter 43 = .ok (.iload_n 1, 1) := by decide +kernel
theorem dX9_placeOfBadLetter_44 : decode cX9_placeOfBadLetter 44 = .ok (.iaload, 1) := by decide +kernel
theorem dX9_placeOfBadLetter_45 : decode cX9_placeOfBadLetter 45 = .ok (.iload 4, 2) := by decide +kernel
theorem dX9_placeOfBadLetter_47 : decode cX9_placeOfBadLetter 47 = .ok (.iload_n 3, 1) := by decide +kernel
theorem dX9_placeOfBadLetter_48 : decode cX9_placeOfBadLetter 48 = .ok (.invokestatic 31, 3) := by decide +kernel
theorem dX9_placeOfBadLetter_51 : decode cX9_placeOfBadLetter 51 = .ok (.ifCond .ne 5, 3) := by decide +kernel
theorem dX9_placeOfBadLetter_54 : decode cX9_placeOfBadLetter 54 = .ok (.iload_n 2, 1) := by decide +kernel
theorem dX9_placeOfBadLetter_55 : decode cX9_placeOfBadLetter 55 = .ok (.ireturn, 1) := by decide +kernel
theorem dX9_placeOfBadLetter_56 : decode cX9_placeOfBadLetter 56 = .ok (.iload_n 3, 1) := by decide +kernel
theorem dX9_placeOfBadLetter_57 : decode cX9_placeOfBadLetter 57 = .ok (.bipush 59, 2) := by decide +kernel
theorem dX9_placeOfBadLetter_59 : decode cX9_placeOfBadLetter 59 = .ok (.if_icmp .ne 7, 3) := by decide +kernel
theorem dX9_placeOfBadLetter_62 : decode cX9_placeOfBadLetter 62 = .ok (.iload_n 2, 1) := by decide +kernel
theorem dX9_placeOfBadLetter_63 : decode cX9_placeOfBadLetter 63 = .ok (.iconst 1, 1) := by decide +kernel
theorem dX9_placeOfBadLetter_64 : decode cX9_placeOfBadLetter 64 = .ok (.iadd, 1) := by decide +kernel
theorem dX9_placeOfBadLetter_65 : decode cX9_placeOfBadLetter 65 = .ok (.istore_n 1, 1) := by decide +kernel
theorem dX9_placeOfBadLetter_66 : decode cX9_placeOfBadLetter 66 = .ok (.iinc 2 1, 3) := by decide +kernel
theorem dX9_placeOfBadLetter_69 : decode cX9_placeOfBadLetter 69 = .ok (.goto (-65), 3) := by decide +kernel
theorem dX9_placeOfBadLetter_72 : decode cX9_placeOfBadLetter 72 = .ok (.iload_n 1, 1) := by decide +kernel
theorem dX9_placeOfBadLetter_73 : decode cX9_placeOfBadLetter 73 = .ok (.aload_n 0, 1) := by decide +kernel
theorem dX9_placeOfBadLetter_74 : decode cX9_placeOfBadLetter 74 = .ok (.getfield 9, 3) := by decide +kernel
theorem dX9_placeOfBadLetter_77 : decode cX9_placeOfBadLetter 77 = .ok (.if_icmp .lt 10, 3) := by decide +kernel
theorem dX9_placeOfBadLetter_80 : decode cX9_placeOfBadLetter 80 = .ok (.aload_n 0, 1) := by decide +kernel
theorem dX9_placeOfBadLetter_81 : decode cX9_placeOfBadLetter 81 = .ok (.getfield 9, 3) := by decide +kernel
theorem dX9_placeOfBadLetter_84 : decode cX9_placeOfBadLetter 84 = .ok (.ifCond .ne 10, 3) := by decide +kernel
theorem dX9_placeOfBadLetter_87 : decode cX9_placeOfBadLetter 87 = .ok (.aload_n 0, 1) := by decide +kernel
theorem dX9_placeOfBadLetter_88 : decode cX9_placeOfBadLetter 88 = .ok (.getfield 9, 3) := by decide +kernel
theorem dX9_placeOfBadLetter_91 : decode cX9_placeOfBadLetter 91 = .ok (.goto 5, 3) := by decide +kernel
theorem dX9_placeOfBadLetter_94 : decode cX9_placeOfBadLetter 94 = .ok (.bipush (-9), 2) := by decide +kernel
theorem dX9_placeOfBadLetter_96 : decode cX9_placeOfBadLetter 96 = .ok (.ireturn, 1) := by decide +kernel
theorem dX9_leastInside_0 : decode cX9_leastInside 0 = .ok (.iload_n 0, 1) := by decide +kernel
theorem dX9_leastInside_1 : decode cX9_leastInside 1 = .ok (.lookupswitch 57 #[(97, 53), (112, 55), (115, 51), (116, 51), (120, 55)], 51) := by decide +kernel
theorem dX9_leastInside_52 : decode cX9_leastInside 52 = .ok (.iconst 3, 1) := by decide +kernel
theorem dX9_leastInside_53 : decode cX9_leastInside 53 = .ok (.ireturn, 1) := by decide +kernel
theorem dX9_leastInside_54 : decode cX9_leastInside 54 = .ok (.iconst 5, 1) := by decide +kernel
theorem dX9_leastInside_55 : decode cX9_leastInside 55 = .ok (.ireturn, 1) := by decide +kernel
theorem dX9_leastInside_56 : decode cX9_leastInside 56 = .ok (.iconst 2, 1) := by decide +kernel
theorem dX9_leastInside_57 : decode cX9_leastInside 57 = .ok (.ireturn, 1) := by decide +kernel
theorem dX9_leastInside_58 : decode cX9_leastInside 58 = .ok (.iconst 0, 1) := by decide +kernel
theorem dX9_leastInside_59 : decode cX9_leastInside 59 = .ok (.ireturn, 1) := by decide +kernel
theorem dX9_mostInside_0 : decode cX9_mostInside 0 = .ok (.iload_n 0, 1) := by decide +kernel
theorem dX9_mostInside_1 : decode cX9_mostInside 1 = .ok (.bipush 112, 2) := by decide +kernel
theorem dX9_mostInside_3 : decode cX9_mostInside 3 = .ok (.if_icmp .ne 8, 3) := by decide +kernel
theorem dX9_mostInside_6 : decode cX9_mostInside 6 = .ok (.bipush 10, 2) := by decide +kernel
theorem dX9_mostInside_8 : decode cX9_mostInside 8 = .ok (.goto 7, 3) := by decide +kernel
theorem dX9_mostInside_11 : decode cX9_mostInside 11 = .ok (.iload_n 0, 1) := by decide +kernel
theorem dX9_mostInside_12 : decode cX9_mostInside 12 = .ok (.invokestatic 27, 3) := by decide +kernel
theorem dX9_mostInside_15 : decode cX9_mostInside 15 = .ok (.ireturn, 1) := by decide +kernel
theorem dX9_fits_0 : decode cX9_fits 0 = .ok (.iload_n 2, 1) := by decide +kernel
theorem dX9_fits_1 : decode cX9_fits 1 = .ok (.bipush 59, 2) := by decide +kernel
theorem dX9_fits_3 : decode cX9_fits 3 = .ok (.if_icmp .ne 17, 3) := by decide +kernel
theorem dX9_fits_6 : decode cX9_fits 6 = .ok (.iload_n 1, 1) := by decide +kernel
theorem dX9_fits_7 : decode cX9_fits 7 = .ok (.iload_n 0, 1) := by decide +kernel
theorem dX9_fits_8 : decode cX9_fits 8 = .ok (.invokestatic 27, 3) := by decide +kernel
theorem dX9_fits_11 : decode cX9_fits 11 = .ok (.if_icmp .le 7, 3) := by decide +kernel
theorem dX9_fits_14 : decode cX9_fits 14 = .ok (.iconst 1, 1) := by decide +kernel
theorem dX9_fits_15 : decode cX9_fits 15 = .ok (.goto 4, 3) := by decide +kernel
theorem dX9_fits_18 : decode cX9_fits 18 = .ok (.iconst 0, 1) := by decide +kernel
theorem dX9_fits_19 : decode cX9_fits 19 = .ok (.ireturn, 1) := by decide +kernel
theorem dX9_fits_20 : decode cX9_fits 20 = .ok (.iload_n 1, 1) := by decide +kernel
theorem dX9_fits_21 : decode cX9_fits 21 = .ok (.iload_n 0, 1) := by decide +kernel
theorem dX9_fits_22 : decode cX9_fits 22 = .ok (.invokestatic 35, 3) := by decide +kernel
theorem dX9_fits_25 : decode cX9_fits 25 = .ok (.if_icmp .le 5, 3) := by decide +kernel
theorem dX9_fits_28 : decode cX9_fits 28 = .ok (.iconst 0, 1) := by decide +kernel
theorem dX9_fits_29 : decode cX9_fits 29 = .ok (.ireturn, 1) := by decide +kernel
theorem dX9_fits_30 : decode cX9_fits 30 = .ok (.iload_n 0, 1) := by decide +kernel
theorem dX9_fits_31 : decode cX9_fits 31 = .ok (.bipush 115, 2) := by decide +kernel
theorem dX9_fits_33 : decode cX9_fits 33 = .ok (.if_icmp .ne 23, 3) := by decide +kernel
theorem dX9_fits_36 : decode cX9_fits 36 = .ok (.iload_n 1, 1) := by decide +kernel
theorem dX9_fits_37 : decode cX9_fits 37 = .ok (.iconst 1, 1) := by decide +kernel
theorem dX9_fits_38 : decode cX9_fits 38 = .ok (.if_icmp .ne 18, 3) := by decide +kernel
theorem dX9_fits_41 : decode cX9_fits 41 = .ok (.iload_n 2, 1) := by decide +kernel
theorem dX9_fits_42 : decode cX9_fits 42 = .ok (.invokestatic 38, 3) := by decide +kernel
theorem dX9_fits_45 : decode cX9_fits 45 = .ok (.bipush (-9), 2) := by decide +kernel
theorem dX9_fits_47 : decode cX9_fits 47 = .ok (.if_icmp .eq 7, 3) := by decide +kernel
theorem dX9_fits_50 : decode cX9_fits 50 = .ok (.iconst 1, 1) := by decide +kernel
theorem dX9_fits_51 : decode cX9_fits 51 = .ok (.goto 4, 3) := by decide +kernel
theorem dX9_fits_54 : decode cX9_fits 54 = .ok (.iconst 0, 1) := by decide +kernel
theorem dX9_fits_55 : decode cX9_fits 55 = .ok (.ireturn, 1) := by decide +kernel
theorem dX9_fits_56 : decode cX9_fits 56 = .ok (.iload_n 2, 1) := by decide +kernel
theorem dX9_fits_57 : decode cX9_fits 57 = .ok (.bipush 48, 2) := by decide +kernel
theorem dX9_fits_59 : decode cX9_fits 59 = .ok (.if_icmp .lt 13, 3) := by decide +kernel
theorem dX9_fits_62 : decode cX9_fits 62 = .ok (.iload_n 2, 1) := by decide +kernel
theorem dX9_fits_63 : decode cX9_fits 63 = .ok (.bipush 57, 2) := by decide +kernel
theorem dX9_fits_65 : decode cX9_fits 65 = .ok (.if_icmp .gt 7, 3) := by decide +kernel
theorem dX9_fits_68 : decode cX9_fits 68 = .ok (.iconst 1, 1) := by decide +kernel
theorem dX9_fits_69 : decode cX9_fits 69 = .ok (.goto 4, 3) := by decide +kernel
theorem dX9_fits_72 : decode cX9_fits 72 = .ok (.iconst 0, 1) := by decide +kernel
theorem dX9_fits_73 : decode cX9_fits 73 = .ok (.ireturn, 1) := by decide +kernel
theorem dX9_endOf_0 : decode cX9_endOf 0 = .ok (.iload_n 1, 1) := by decide +kernel
theorem dX9_endOf_1 : decode cX9_endOf 1 = .ok (.istore_n 2, 1) := by decide +kernel
theorem dX9_endOf_2 : decode cX9_endOf 2 = .ok (.iload_n 2, 1) := by decide +kernel
theorem dX9_endOf_3 : decode cX9_endOf 3 = .ok (.aload_n 0, 1) := by decide +kernel
theorem dX9_endOf_4 : decode cX9_endOf 4 = .ok (.getfield 9, 3) := by decide +kernel
theorem dX9_endOf_7 : decode cX9_endOf 7 = .ok (.if_icmp .ge 22, 3) := by decide +kernel
theorem dX9_endOf_10 : decode cX9_endOf 10 = .ok (.aload_n 0, 1) := by decide +kernel
theorem dX9_endOf_11 : decode cX9_endOf 11 = .ok (.getfield 15, 3) := by decide +kernel
theorem dX9_endOf_14 : decode cX9_endOf 14 = .ok (.iload_n 2, 1) := by decide +kernel
theorem dX9_endOf_15 : decode cX9_endOf 15 = .ok (.iaload, 1) := by decide +kernel
theorem dX9_endOf_16 : decode cX9_endOf 16 = .ok (.bipush 59, 2) := by decide +kernel
theorem dX9_endOf_18 : decode cX9_endOf 18 = .ok (.if_icmp .ne 5, 3) := by decide +kernel
theorem dX9_endOf_21 : decode cX9_endOf 21 = .ok (.iload_n 2, 1) := by decide +kernel
theorem dX9_endOf_22 : decode cX9_endOf 22 = .ok (.ireturn, 1) := by decide +kernel
theorem dX9_endOf_23 : decode cX9_endOf 23 = .ok (.iinc 2 1, 3) := by decide +kernel
theorem dX9_endOf_26 : decode cX9_endOf 26 = .ok (.goto (-24), 3) := by decide +kernel
theorem dX9_endOf_29 : decode cX9_endOf 29 = .ok (.aload_n 0, 1) := by decide +kernel
theorem dX9_endOf_30 : decode cX9_endOf 30 = .ok (.getfield 9, 3) := by decide +kernel
theorem dX9_endOf_33 : decode cX9_endOf 33 = .ok (.ireturn, 1) := by decide +kernel
theorem dX9_digit_0 : decode cX9_digit 0 = .ok (.iload_n 1, 1) := by decide +kernel
theorem dX9_digit_1 : decode cX9_digit 1 = .ok (.ifCond .lt 23, 3) := by decide +kernel
theorem dX9_digit_4 : decode cX9_digit 4 = .ok (.iload_n 1, 1) := by decide +kernel
theorem dX9_digit_5 : decode cX9_digit 5 = .ok (.aload_n 0, 1) := by decide +kernel
theorem dX9_digit_6 : decode cX9_digit 6 = .ok (.getfield 9, 3) := by decide +kernel
theorem dX9_digit_9 : decode cX9_digit 9 = .ok (.if_icmp .ge 15, 3) := by decide +kernel
theorem dX9_digit_12 : decode cX9_digit 12 = .ok (.aload_n 0, 1) := by decide +kernel
theorem dX9_digit_13 : decode cX9_digit 13 = .ok (.getfield 15, 3) := by decide +kernel
theorem dX9_digit_16 : decode cX9_digit 16 = .ok (.iload_n 1, 1) := by decide +kernel
theorem dX9_digit_17 : decode cX9_digit 17 = .ok (.iaload, 1) := by decide +kernel
theorem dX9_digit_18 : decode cX9_digit 18 = .ok (.bipush 48, 2) := by decide +kernel
theorem dX9_digit_20 : decode cX9_digit 20 = .ok (.isub, 1) := by decide +kernel
theorem dX9_digit_21 : decode cX9_digit 21 = .ok (.goto 4, 3) := by decide +kernel
theorem dX9_digit_24 : decode cX9_digit 24 = .ok (.iconst 0, 1) := by decide +kernel
theorem dX9_digit_25 : decode cX9_digit 25 = .ok (.ireturn, 1) := by decide +kernel
theorem dX9_letterAt_0 : decode cX9_letterAt 0 = .ok (.iload_n 1, 1) := by decide +kernel
theorem dX9_letterAt_1 : decode cX9_letterAt 1 = .ok (.ifCond .lt 20, 3) := by decide +kernel
theorem dX9_letterAt_4 : decode cX9_letterAt 4 = .ok (.iload_n 1, 1) := by decide +kernel
theorem dX9_letterAt_5 : decode cX9_letterAt 5 = .ok (.aload_n 0, 1) := by decide +kernel
theorem dX9_letterAt_6 : decode cX9_letterAt 6 = .ok (.getfield 9, 3) := by decide +kernel
theorem dX9_letterAt_9 : decode cX9_letterAt 9 = .ok (.if_icmp .ge 12, 3) := by decide +kernel
theorem dX9_letterAt_12 : decode cX9_letterAt 12 = .ok (.aload_n 0, 1) := by decide +kernel
theorem dX9_letterAt_13 : decode cX9_letterAt 13 = .ok (.getfield 15, 3) := by decide +kernel
theorem dX9_letterAt_16 : decode cX9_letterAt 16 = .ok (.iload_n 1, 1) := by decide +kernel
theorem dX9_letterAt_17 : decode cX9_letterAt 17 = .ok (.iaload, 1) := by decide +kernel
theorem dX9_letterAt_18 : decode cX9_letterAt 18 = .ok (.goto 4, 3) := by decide +kernel
theorem dX9_letterAt_21 : decode cX9_letterAt 21 = .ok (.iconst 0, 1) := by decide +kernel
theorem dX9_letterAt_22 : decode cX9_letterAt 22 = .ok (.ireturn, 1) := by decide +kernel
theorem dX9_placeOfBadStatement_0 : decode cX9_placeOfBadStatement 0 = .ok (.aload_n 1, 1) := by decide +kernel
theorem dX9_placeOfBadStatement_1 : decode cX9_placeOfBadStatement 1 = .ok (.getfield 43, 3) := by decide +kernel
theorem dX9_placeOfBadStatement_4 : decode cX9_placeOfBadStatement 4 = .ok (.getfield 49, 3) := by decide +kernel
theorem dX9_placeOfBadStatement_7 : decode cX9_placeOfBadStatement 7 = .ok (.istore_n 2, 1) := by decide +kernel
theorem dX9_placeOfBadStatement_8 : decode cX9_placeOfBadStatement 8 = .ok (.aload_n 1, 1) := by decide +kernel
theorem dX9_placeOfBadStatement_9 : decode cX9_placeOfBadStatement 9 = .ok (.getfield 52, 3) := by decide +kernel
theorem dX9_placeOfBadStatement_12 : decode cX9_placeOfBadStatement 12 = .ok (.istore_n 3, 1) := by decide +kernel
theorem dX9_placeOfBadStatement_13 : decode cX9_placeOfBadStatement 13 = .ok (.iconst 0, 1) := by decide +kernel
theorem dX9_placeOfBadStatement_14 : decode cX9_placeOfBadStatement 14 = .ok (.istore 4, 2) := by decide +kernel
theorem dX9_placeOfBadStatement_16 : decode cX9_placeOfBadStatement 16 = .ok (.iconst 0, 1) := by decide +kernel
theorem dX9_placeOfBadStatement_17 : decode cX9_placeOfBadStatement 17 = .ok (.istore 5, 2) := by decide +kernel
theorem dX9_placeOfBadStatement_19 : decode cX9_placeOfBadStatement 19 = .ok (.iload 5, 2) := by decide +kernel
theorem dX9_placeOfBadStatement_21 : decode cX9_placeOfBadStatement 21 = .ok (.bipush 96, 2) := by decide +kernel
theorem dX9_placeOfBadStatement_23 : decode cX9_placeOfBadStatement 23 = .ok (.if_icmp .ge 79, 3) := by decide +kernel
theorem dX9_placeOfBadStatement_26 : decode cX9_placeOfBadStatement 26 = .ok (.iload 4, 2) := by decide +kernel
theorem dX9_placeOfBadStatement_28 : decode cX9_placeOfBadStatement 28 = .ok (.aload_n 0, 1) := by decide +kernel
theorem dX9_placeOfBadStatement_29 : decode cX9_placeOfBadStatement 29 = .ok (.getfield 9, 3) := by decide +kernel
theorem dX9_placeOfBadStatement_32 : decode cX9_placeOfBadStatement 32 = .ok (.if_icmp .ge 70, 3) := by decide +kernel
theorem dX9_placeOfBadStatement_35 : decode cX9_placeOfBadStatement 35 = .ok (.aload_n 0, 1) := by decide +kernel
theorem dX9_placeOfBadStatement_36 : decode cX9_placeOfBadStatement 36 = .ok (.iload 4, 2) := by decide +kernel
theorem dX9_placeOfBadStatement_38 : decode cX9_placeOfBadStatement 38 = .ok (.invokevirtual 53, 3) := by decide +kernel
theorem dX9_placeOfBadStatement_41 : decode cX9_placeOfBadStatement 41 = .ok (.istore 6, 2) := by decide +kernel
theorem dX9_placeOfBadStatement_43 : decode cX9_placeOfBadStatement 43 = .ok (.aload_n 0, 1) := by decide +kernel
theorem dX9_placeOfBadStatement_44 : decode cX9_placeOfBadStatement 44 = .ok (.iload 4, 2) := by decide +kernel
theorem dX9_placeOfBadStatement_46 : decode cX9_placeOfBadStatement 46 = .ok (.iload 6, 2) := by decide +kernel
theorem dX9_placeOfBadStatement_48 : decode cX9_placeOfBadStatement 48 = .ok (.iload_n 2, 1) := by decide +kernel
theorem dX9_placeOfBadStatement_49 : decode cX9_placeOfBadStatement 49 = .ok (.iload_n 3, 1) := by decide +kernel
theorem dX9_placeOfBadStatement_50 : decode cX9_placeOfBadStatement 50 = .ok (.invokevirtual 56, 3) := by decide +kernel
theorem dX9_placeOfBadStatement_53 : decode cX9_placeOfBadStatement 53 = .ok (.ifCond .ne 6, 3) := by decide +kernel
theorem dX9_placeOfBadStatement_56 : decode cX9_placeOfBadStatement 56 = .ok (.iload 4, 2) := by decide +kernel
theorem dX9_placeOfBadStatement_58 : decode cX9_placeOfBadStatement 58 = .ok (.ireturn, 1) := by decide +kernel
theorem dX9_placeOfBadStatement_59 : decode cX9_placeOfBadStatement 59 = .ok (.aload_n 0, 1) := by decide +kernel
theorem dX9_placeOfBadStatement_60 : decode cX9_placeOfBadStatement 60 = .ok (.iload 4, 2) := by decide +kernel
theorem dX9_placeOfBadStatement_62 : decode cX9_placeOfBadStatement 62 = .ok (.invokevirtual 60, 3) := by decide +kernel
theorem dX9_placeOfBadStatement_65 : decode cX9_placeOfBadStatement 65 = .ok (.bipush 115, 2) := by decide +kernel
theorem dX9_placeOfBadStatement_67 : decode cX9_placeOfBadStatement 67 = .ok (.if_icmp .ne 9, 3) := by decide +kernel
theorem dX9_placeOfBadStatement_70 : decode cX9_placeOfBadStatement 70 = .ok (.iinc 2 1, 3) := by decide +kernel
theorem dX9_placeOfBadStatement_73 : decode cX9_placeOfBadStatement 73 = .ok (.goto 17, 3) := by decide +kernel
theorem dX9_placeOfBadStatement_76 : decode cX9_placeOfBadStatement 76 = .ok (.aload_n 0, 1) := by decide +kernel
theorem dX9_placeOfBadStatement_77 : decode cX9_placeOfBadStatement 77 = .ok (.iload 4, 2) := by decide +kernel
theorem dX9_placeOfBadStatement_79 : decode cX9_placeOfBadStatement 79 = .ok (.invokevirtual 60, 3) := by decide +kernel
theorem dX9_placeOfBadStatement_82 : decode cX9_placeOfBadStatement 82 = .ok (.bipush 97, 2) := by decide +kernel
theorem dX9_placeOfBadStatement_84 : decode cX9_placeOfBadStatement 84 = .ok (.if_icmp .ne 6, 3) := by decide +kernel
theorem dX9_placeOfBadStatement_87 : decode cX9_placeOfBadStatement 87 = .ok (.iinc 3 1, 3) := by decide +kernel
theorem dX9_placeOfBadStatement_90 : decode cX9_placeOfBadStatement 90 = .ok (.iload 6, 2) := by decide +kernel
theorem dX9_placeOfBadStatement_92 : decode cX9_placeOfBadStatement 92 = .ok (.iconst 1, 1) := by decide +kernel
theorem dX9_placeOfBadStatement_93 : decode cX9_placeOfBadStatement 93 = .ok (.iadd, 1) := by decide +kernel
theorem dX9_placeOfBadStatement_94 : decode cX9_placeOfBadStatement 94 = .ok (.istore 4, 2) := by decide +kernel
theorem dX9_placeOfBadStatement_96 : decode cX9_placeOfBadStatement 96 = .ok (.iinc 5 1, 3) := by decide +kernel
theorem dX9_placeOfBadStatement_99 : decode cX9_placeOfBadStatement 99 = .ok (.goto (-80), 3) := by decide +kernel
theorem dX9_placeOfBadStatement_102 : decode cX9_placeOfBadStatement 102 = .ok (.bipush (-9), 2) := by decide +kernel
theorem dX9_placeOfBadStatement_104 : decode cX9_placeOfBadStatement 104 = .ok (.ireturn, 1) := by decide +kernel
theorem dX9_isAsItMustBe_0 : decode cX9_isAsItMustBe 0 = .ok (.aload_n 0, 1) := by decide +kernel
theorem dX9_isAsItMustBe_1 : decode cX9_isAsItMustBe 1 = .ok (.iload_n 1, 1) := by decide +kernel
theorem dX9_isAsItMustBe_2 : decode cX9_isAsItMustBe 2 = .ok (.iconst 1, 1) := by decide +kernel
theorem dX9_isAsItMustBe_3 : decode cX9_isAsItMustBe 3 = .ok (.iadd, 1) := by decide +kernel
theorem dX9_isAsItMustBe_4 : decode cX9_isAsItMustBe 4 = .ok (.invokevirtual 63, 3) := by decide +kernel
theorem dX9_isAsItMustBe_7 : decode cX9_isAsItMustBe 7 = .ok (.istore 5, 2) := by decide +kernel
theorem dX9_isAsItMustBe_9 : decode cX9_isAsItMustBe 9 = .ok (.aload_n 0, 1) := by decide +kernel
theorem dX9_isAsItMustBe_10 : decode cX9_isAsItMustBe 10 = .ok (.iload_n 1, 1) := by decide +kernel
theorem dX9_isAsItMustBe_11 : decode cX9_isAsItMustBe 11 = .ok (.iconst 2, 1) := by decide +kernel
theorem dX9_isAsItMustBe_12 : decode cX9_isAsItMustBe 12 = .ok (.iadd, 1) := by decide +kernel
theorem dX9_isAsItMustBe_13 : decode cX9_isAsItMustBe 13 = .ok (.invokevirtual 63, 3) := by decide +kernel
theorem dX9_isAsItMustBe_16 : decode cX9_isAsItMustBe 16 = .ok (.istore 6, 2) := by decide +kernel
theorem dX9_isAsItMustBe_18 : decode cX9_isAsItMustBe 18 = .ok (.aload_n 0, 1) := by decide +kernel
theorem dX9_isAsItMustBe_19 : decode cX9_isAsItMustBe 19 = .ok (.iload_n 1, 1) := by decide +kernel
theorem dX9_isAsItMustBe_20 : decode cX9_isAsItMustBe 20 = .ok (.invokevirtual 60, 3) := by decide +kernel
theorem dX9_isAsItMustBe_23 : decode cX9_isAsItMustBe 23 = .ok (.lookupswitch 130 #[(97, 64), (112, 106), (115, 41), (116, 76)], 41) := by decide +kernel
theorem dX9_isAsItMustBe_64 : decode cX9_isAsItMustBe 64 = .ok (.aload_n 0, 1) := by decide +kernel
theorem dX9_isAsItMustBe_65 : decode cX9_isAsItMustBe 65 = .ok (.iload_n 1, 1) := by decide +kernel
theorem dX9_isAsItMustBe_66 : decode cX9_isAsItMustBe 66 = .ok (.iconst 3, 1) := by decide +kernel
theorem dX9_isAsItMustBe_67 : decode cX9_isAsItMustBe 67 = .ok (.iadd, 1) := by decide +kernel
theorem dX9_isAsItMustBe_68 : decode cX9_isAsItMustBe 68 = .ok (.invokevirtual 63, 3) := by decide +kernel
theorem dX9_isAsItMustBe_71 : decode cX9_isAsItMustBe 71 = .ok (.iconst 1, 1) := by decide +kernel
theorem dX9_isAsItMustBe_72 : decode cX9_isAsItMustBe 72 = .ok (.if_icmp .lt 13, 3) := by decide +kernel
theorem dX9_isAsItMustBe_75 : decode cX9_isAsItMustBe 75 = .ok (.iload_n 3, 1) := by decide +kernel
theorem dX9_isAsItMustBe_76 : decode cX9_isAsItMustBe 76 = .ok (.bipush 10, 2) := by decide +kernel
theorem dX9_isAsItMustBe_78 : decode cX9_isAsItMustBe 78 = .ok (.if_icmp .ge 7, 3) := by decide +kernel
theorem dX9_isAsItMustBe_81 : decode cX9_isAsItMustBe 81 = .ok (.iconst 1, 1) := by decide +kernel
theorem dX9_isAsItMustBe_82 : decode cX9_isAsItMustBe 82 = .ok (.goto 4, 3) := by decide +kernel
theorem dX9_isAsItMustBe_85 : decode cX9_isAsItMustBe 85 = .ok (.iconst 0, 1) := by decide +kernel
theorem dX9_isAsItMustBe_86 : decode cX9_isAsItMustBe 86 = .ok (.ireturn, 1) := by decide +kernel
theorem dX9_isAsItMustBe_87 : decode cX9_isAsItMustBe 87 = .ok (.iload 4, 2) := by decide +kernel
theorem dX9_isAsItMustBe_89 : decode cX9_isAsItMustBe 89 = .ok (.iconst 5, 1) := by decide +kernel
theorem dX9_isAsItMustBe_90 : decode cX9_isAsItMustBe 90 = .ok (.if_icmp .ge 7, 3) := by decide +kernel
theorem dX9_isAsItMustBe_93 : decode cX9_isAsItMustBe 93 = .ok (.iconst 1, 1) := by decide +kernel
theorem dX9_isAsItMustBe_94 : decode cX9_isAsItMustBe 94 = .ok (.goto 4, 3) := by decide +kernel
theorem dX9_isAsItMustBe_97 : decode cX9_isAsItMustBe 97 = .ok (.iconst 0, 1) := by decide +kernel
theorem dX9_isAsItMustBe_98 : decode cX9_isAsItMustBe 98 = .ok (.ireturn, 1) := by decide +kernel
theorem dX9_isAsItMustBe_99 : decode cX9_isAsItMustBe 99 = .ok (.iload 5, 2) := by decide +kernel
theorem dX9_isAsItMustBe_101 : decode cX9_isAsItMustBe 101 = .ok (.iload 4, 2) := by decide +kernel
theorem dX9_isAsItMustBe_103 : decode cX9_isAsItMustBe 103 = .ok (.if_icmp .ge 24, 3) := by decide +kernel
theorem dX9_isAsItMustBe_106 : decode cX9_isAsItMustBe 106 = .ok (.iload 6, 2) := by decide +kernel
theorem dX9_isAsItMustBe_108 : decode cX9_isAsItMustBe 108 = .ok (.iload_n 3, 1) := by decide +kernel
theorem dX9_isAsItMustBe_109 : decode cX9_isAsItMustBe 109 = .ok (.if_icmp .ge 18, 3) := by decide +kernel
theorem dX9_isAsItMustBe_112 : decode cX9_isAsItMustBe 112 = .ok (.aload_n 0, 1) := by decide +kernel
theorem dX9_isAsItMustBe_113 : decode cX9_isAsItMustBe 113 = .ok (.iload_n 1, 1) := by decide +kernel
theorem dX9_isAsItMustBe_114 : decode cX9_isAsItMustBe 114 = .ok (.iconst 3, 1) := by decide +kernel
theorem dX9_isAsItMustBe_115 : decode cX9_isAsItMustBe 115 = .ok (.iadd, 1) := by decide +kernel
theorem dX9_isAsItMustBe_116 : decode cX9_isAsItMustBe 116 = .ok (.invokevirtual 63, 3) := by decide +kernel
theorem dX9_isAsItMustBe_119 : decode cX9_isAsItMustBe 119 = .ok (.iconst 3, 1) := by decide +kernel
theorem dX9_isAsItMustBe_120 : decode cX9_isAsItMustBe 120 = .ok (.if_icmp .gt 7, 3) := by decide +kernel
theorem dX9_isAsItMustBe_123 : decode cX9_isAsItMustBe 123 = .ok (.iconst 1, 1) := by decide +kernel
theorem dX9_isAsItMustBe_124 : decode cX9_isAsItMustBe 124 = .ok (.goto 4, 3) := by decide +kernel
theorem dX9_isAsItMustBe_127 : decode cX9_isAsItMustBe 127 = .ok (.iconst 0, 1) := by decide +kernel
theorem dX9_isAsItMustBe_128 : decode cX9_isAsItMustBe 128 = .ok (.ireturn, 1) := by decide +kernel
theorem dX9_isAsItMustBe_129 : decode cX9_isAsItMustBe 129 = .ok (.iload 5, 2) := by decide +kernel
theorem dX9_isAsItMustBe_131 : decode cX9_isAsItMustBe 131 = .ok (.iload 4, 2) := by decide +kernel
theorem dX9_isAsItMustBe_133 : decode cX9_isAsItMustBe 133 = .ok (.if_icmp .ge 18, 3) := by decide +kernel
theorem dX9_isAsItMustBe_136 : decode cX9_isAsItMustBe 136 = .ok (.aload_n 0, 1) := by decide +kernel
theorem dX9_isAsItMustBe_137 : decode cX9_isAsItMustBe 137 = .ok (.iload_n 1, 1) := by decide +kernel
theorem dX9_isAsItMustBe_138 : decode cX9_isAsItMustBe 138 = .ok (.iconst 2, 1) := by decide +kernel
theorem dX9_isAsItMustBe_139 : decode cX9_isAsItMustBe 139 = .ok (.iadd, 1) := by decide +kernel
theorem dX9_isAsItMustBe_140 : decode cX9_isAsItMustBe 140 = .ok (.iload_n 2, 1) := by decide +kernel
theorem dX9_isAsItMustBe_141 : decode cX9_isAsItMustBe 141 = .ok (.invokevirtual 66, 3) := by decide +kernel
theorem dX9_isAsItMustBe_144 : decode cX9_isAsItMustBe 144 = .ok (.ifCond .eq 7, 3) := by decide +kernel
theorem dX9_isAsItMustBe_147 : decode cX9_isAsItMustBe 147 = .ok (.iconst 1, 1) := by decide +kernel
theorem dX9_isAsItMustBe_148 : decode cX9_isAsItMustBe 148 = .ok (.goto 4, 3) := by decide +kernel
theorem dX9_isAsItMustBe_151 : decode cX9_isAsItMustBe 151 = .ok (.iconst 0, 1) := by decide +kernel
theorem dX9_isAsItMustBe_152 : decode cX9_isAsItMustBe 152 = .ok (.ireturn, 1) := by decide +kernel
theorem dX9_isAsItMustBe_153 : decode cX9_isAsItMustBe 153 = .ok (.iload 5, 2) := by decide +kernel
theorem dX9_isAsItMustBe_155 : decode cX9_isAsItMustBe 155 = .ok (.iload_n 3, 1) := by decide +kernel
theorem dX9_isAsItMustBe_156 : decode cX9_isAsItMustBe 156 = .ok (.if_icmp .ge 20, 3) := by decide +kernel
theorem dX9_isAsItMustBe_159 : decode cX9_isAsItMustBe 159 = .ok (.iload 6, 2) := by decide +kernel
theorem dX9_isAsItMustBe_161 : decode cX9_isAsItMustBe 161 = .ok (.iload_n 3, 1) := by decide +kernel
theorem dX9_isAsItMustBe_162 : decode cX9_isAsItMustBe 162 = .ok (.if_icmp .ge 14, 3) := by decide +kernel
theorem dX9_isAsItMustBe_165 : decode cX9_isAsItMustBe 165 = .ok (.iload 5, 2) := by decide +kernel
theorem dX9_isAsItMustBe_167 : decode cX9_isAsItMustBe 167 = .ok (.iload 6, 2) := by decide +kernel
theorem dX9_isAsItMustBe_169 : decode cX9_isAsItMustBe 169 = .ok (.if_icmp .eq 7, 3) := by decide +kernel
theorem dX9_isAsItMustBe_172 : decode cX9_isAsItMustBe 172 = .ok (.iconst 1, 1) := by decide +kernel
theorem dX9_isAsItMustBe_173 : decode cX9_isAsItMustBe 173 = .ok (.goto 4, 3) := by decide +kernel
theorem dX9_isAsItMustBe_176 : decode cX9_isAsItMustBe 176 = .ok (.iconst 0, 1) := by decide +kernel
theorem dX9_isAsItMustBe_177 : decode cX9_isAsItMustBe 177 = .ok (.ireturn, 1) := by decide +kernel
theorem dX9_areTries_0 : decode cX9_areTries 0 = .ok (.iload_n 1, 1) := by decide +kernel
theorem dX9_areTries_1 : decode cX9_areTries 1 = .ok (.istore_n 3, 1) := by decide +kernel
theorem dX9_areTries_2 : decode cX9_areTries 2 = .ok (.iload_n 3, 1) := by decide +kernel
theorem dX9_areTries_3 : decode cX9_areTries 3 = .ok (.iload_n 2, 1) := by decide +kernel
theorem dX9_areTries_4 : decode cX9_areTries 4 = .ok (.if_icmp .ge 20, 3) := by decide +kernel
theorem dX9_areTries_7 : decode cX9_areTries 7 = .ok (.aload_n 0, 1) := by decide +kernel
theorem dX9_areTries_8 : decode cX9_areTries 8 = .ok (.iload_n 3, 1) := by decide +kernel
theorem dX9_areTries_9 : decode cX9_areTries 9 = .ok (.invokevirtual 63, 3) := by decide +kernel
theorem dX9_areTries_12 : decode cX9_areTries 12 = .ok (.iconst 3, 1) := by decide +kernel
theorem dX9_areTries_13 : decode cX9_areTries 13 = .ok (.if_icmp .le 5, 3) := by decide +kernel
theorem dX9_areTries_16 : decode cX9_areTries 16 = .ok (.iconst 0, 1) := by decide +kernel
theorem dX9_areTries_17 : decode cX9_areTries 17 = .ok (.ireturn, 1) := by decide +kernel
theorem dX9_areTries_18 : decode cX9_areTries 18 = .ok (.iinc 3 1, 3) := by decide +kernel
theorem dX9_areTries_21 : decode cX9_areTries 21 = .ok (.goto (-19), 3) := by decide +kernel
theorem dX9_areTries_24 : decode cX9_areTries 24 = .ok (.iconst 1, 1) := by decide +kernel
theorem dX9_areTries_25 : decode cX9_areTries 25 = .ok (.ireturn, 1) := by decide +kernel
theorem dX9_tellTo_0 : decode cX9_tellTo 0 = .ok (.iconst 0, 1) := by decide +kernel
theorem dX9_tellTo_1 : decode cX9_tellTo 1 = .ok (.istore_n 2, 1) := by decide +kernel
theorem dX9_tellTo_2 : decode cX9_tellTo 2 = .ok (.iconst 0, 1) := by decide +kernel
theorem dX9_tellTo_3 : decode cX9_tellTo 3 = .ok (.istore_n 3, 1) := by decide +kernel
theorem dX9_tellTo_4 : decode cX9_tellTo 4 = .ok (.iconst 0, 1) := by decide +kernel
theorem dX9_tellTo_5 : decode cX9_tellTo 5 = .ok (.istore 4, 2) := by decide +kernel
theorem dX9_tellTo_7 : decode cX9_tellTo 7 = .ok (.iload 4, 2) := by decide +kernel
theorem dX9_tellTo_9 : decode cX9_tellTo 9 = .ok (.bipush 96, 2) := by decide +kernel
theorem dX9_tellTo_11 : decode cX9_tellTo 11 = .ok (.if_icmp .ge 40, 3) := by decide +kernel
theorem dX9_tellTo_14 : decode cX9_tellTo 14 = .ok (.iload_n 3, 1) := by decide +kernel
theorem dX9_tellTo_15 : decode cX9_tellTo 15 = .ok (.aload_n 0, 1) := by decide +kernel
theorem dX9_tellTo_16 : decode cX9_tellTo 16 = .ok (.getfield 9, 3) := by decide +kernel
theorem dX9_tellTo_19 : decode cX9_tellTo 19 = .ok (.if_icmp .ge 32, 3) := by decide +kernel
theorem dX9_tellTo_22 : decode cX9_tellTo 22 = .ok (.aload_n 0, 1) := by decide +kernel
theorem dX9_tellTo_23 : decode cX9_tellTo 23 = .ok (.iload_n 3, 1) := by decide +kernel
theorem dX9_tellTo_24 : decode cX9_tellTo 24 = .ok (.invokevirtual 53, 3) := by decide +kernel
theorem dX9_tellTo_27 : decode cX9_tellTo 27 = .ok (.istore 5, 2) := by decide +kernel
theorem dX9_tellTo_29 : decode cX9_tellTo 29 = .ok (.aload_n 0, 1) := by decide +kernel
theorem dX9_tellTo_30 : decode cX9_tellTo 30 = .ok (.aload_n 1, 1) := by decide +kernel
theorem dX9_tellTo_31 : decode cX9_tellTo 31 = .ok (.iload_n 3, 1) := by decide +kernel
theorem dX9_tellTo_32 : decode cX9_tellTo 32 = .ok (.iload 5, 2) := by decide +kernel
theorem dX9_tellTo_34 : decode cX9_tellTo 34 = .ok (.invokevirtual 70, 3) := by decide +kernel
theorem dX9_tellTo_37 : decode cX9_tellTo 37 = .ok (.iinc 2 1, 3) := by decide +kernel
theorem dX9_tellTo_40 : decode cX9_tellTo 40 = .ok (.iload 5, 2) := by decide +kernel
theorem dX9_tellTo_42 : decode cX9_tellTo 42 = .ok (.iconst 1, 1) := by decide +kernel
theorem dX9_tellTo_43 : decode cX9_tellTo 43 = .ok (.iadd, 1) := by decide +kernel
theorem dX9_tellTo_44 : decode cX9_tellTo 44 = .ok (.istore_n 3, 1) := by decide +kernel
theorem dX9_tellTo_45 : decode cX9_tellTo 45 = .ok (.iinc 4 1, 3) := by decide +kernel
theorem dX9_tellTo_48 : decode cX9_tellTo 48 = .ok (.goto (-41), 3) := by decide +kernel
theorem dX9_tellTo_51 : decode cX9_tellTo 51 = .ok (.iload_n 2, 1) := by decide +kernel
theorem dX9_tellTo_52 : decode cX9_tellTo 52 = .ok (.ireturn, 1) := by decide +kernel
theorem dX9_tellOne_0 : decode cX9_tellOne 0 = .ok (.aload_n 0, 1) := by decide +kernel
theorem dX9_tellOne_1 : decode cX9_tellOne 1 = .ok (.iload_n 2, 1) := by decide +kernel
theorem dX9_tellOne_2 : decode cX9_tellOne 2 = .ok (.iconst 1, 1) := by decide +kernel
theorem dX9_tellOne_3 : decode cX9_tellOne 3 = .ok (.iadd, 1) := by decide +kernel
theorem dX9_tellOne_4 : decode cX9_tellOne 4 = .ok (.invokevirtual 63, 3) := by decide +kernel
theorem dX9_tellOne_7 : decode cX9_tellOne 7 = .ok (.istore 4, 2) := by decide +kernel
theorem dX9_tellOne_9 : decode cX9_tellOne 9 = .ok (.aload_n 0, 1) := by decide +kernel
theorem dX9_tellOne_10 : decode cX9_tellOne 10 = .ok (.iload_n 2, 1) := by decide +kernel
theorem dX9_tellOne_11 : decode cX9_tellOne 11 = .ok (.iconst 2, 1) := by decide +kernel
theorem dX9_tellOne_12 : decode cX9_tellOne 12 = .ok (.iadd, 1) := by decide +kernel
theorem dX9_tellOne_13 : decode cX9_tellOne 13 = .ok (.invokevirtual 63, 3) := by decide +kernel
theorem dX9_tellOne_16 : decode cX9_tellOne 16 = .ok (.istore 5, 2) := by decide +kernel
theorem dX9_tellOne_18 : decode cX9_tellOne 18 = .ok (.aload_n 0, 1) := by decide +kernel
theorem dX9_tellOne_19 : decode cX9_tellOne 19 = .ok (.iload_n 2, 1) := by decide +kernel
theorem dX9_tellOne_20 : decode cX9_tellOne 20 = .ok (.iconst 3, 1) := by decide +kernel
theorem dX9_tellOne_21 : decode cX9_tellOne 21 = .ok (.iadd, 1) := by decide +kernel
theorem dX9_tellOne_22 : decode cX9_tellOne 22 = .ok (.invokevirtual 63, 3) := by decide +kernel
theorem dX9_tellOne_25 : decode cX9_tellOne 25 = .ok (.istore 6, 2) := by decide +kernel
theorem dX9_tellOne_27 : decode cX9_tellOne 27 = .ok (.aload_n 0, 1) := by decide +kernel
theorem dX9_tellOne_28 : decode cX9_tellOne 28 = .ok (.iload_n 2, 1) := by decide +kernel
theorem dX9_tellOne_29 : decode cX9_tellOne 29 = .ok (.invokevirtual 60, 3) := by decide +kernel
theorem dX9_tellOne_32 : decode cX9_tellOne 32 = .ok (.lookupswitch 150 #[(97, 68), (112, 112), (115, 44), (116, 99)], 44) := by decide +kernel
theorem dX9_tellOne_76 : decode cX9_tellOne 76 = .ok (.aload_n 1, 1) := by decide +kernel
theorem dX9_tellOne_77 : decode cX9_tellOne 77 = .ok (.getfield 43, 3) := by decide +kernel
theorem dX9_tellOne_80 : decode cX9_tellOne 80 = .ok (.aload_n 0, 1) := by decide +kernel
theorem dX9_tellOne_81 : decode cX9_tellOne 81 = .ok (.iload_n 2, 1) := by decide +kernel
theorem dX9_tellOne_82 : decode cX9_tellOne 82 = .ok (.iconst 1, 1) := by decide +kernel
theorem dX9_tellOne_83 : decode cX9_tellOne 83 = .ok (.iadd, 1) := by decide +kernel
theorem dX9_tellOne_84 : decode cX9_tellOne 84 = .ok (.invokevirtual 60, 3) := by decide +kernel
theorem dX9_tellOne_87 : decode cX9_tellOne 87 = .ok (.invokestatic 38, 3) := by decide +kernel
theorem dX9_tellOne_90 : decode cX9_tellOne 90 = .ok (.iload 5, 2) := by decide +kernel
theorem dX9_tellOne_92 : decode cX9_tellOne 92 = .ok (.iload 6, 2) := by decide +kernel
theorem dX9_tellOne_94 : decode cX9_tellOne 94 = .ok (.invokevirtual 74, 3) := by decide +kernel
theorem dX9_tellOne_97 : decode cX9_tellOne 97 = .ok (.goto 96, 3) := by decide +kernel
theorem dX9_tellOne_100 : decode cX9_tellOne 100 = .ok (.aload_n 1, 1) := by decide +kernel
theorem dX9_tellOne_101 : decode cX9_tellOne 101 = .ok (.iload 4, 2) := by decide +kernel
theorem dX9_tellOne_103 : decode cX9_tellOne 103 = .ok (.iload 5, 2) := by decide +kernel
theorem dX9_tellOne_105 : decode cX9_tellOne 105 = .ok (.iload 6, 2) := by decide +kernel
theorem dX9_tellOne_107 : decode cX9_tellOne 107 = .ok (.bipush 10, 2) := by decide +kernel
theorem dX9_tellOne_109 : decode cX9_tellOne 109 = .ok (.aload_n 0, 1) := by decide +kernel
theorem dX9_tellOne_110 : decode cX9_tellOne 110 = .ok (.iload_n 2, 1) := by decide +kernel
theorem dX9_tellOne_111 : decode cX9_tellOne 111 = .ok (.iconst 4, 1) := by decide +kernel
theorem dX9_tellOne_112 : decode cX9_tellOne 112 = .ok (.iadd, 1) := by decide +kernel
theorem dX9_tellOne_113 : decode cX9_tellOne 113 = .ok (.invokevirtual 63, 3) := by decide +kernel
theorem dX9_tellOne_116 : decode cX9_tellOne 116 = .ok (.imul, 1) := by decide +kernel
theorem dX9_tellOne_117 : decode cX9_tellOne 117 = .ok (.aload_n 0, 1) := by decide +kernel
theorem dX9_tellOne_118 : decode cX9_tellOne 118 = .ok (.iload_n 2, 1) := by decide +kernel
theorem dX9_tellOne_119 : decode cX9_tellOne 119 = .ok (.iconst 5, 1) := by decide +kernel
theorem dX9_tellOne_120 : decode cX9_tellOne 120 = .ok (.iadd, 1) := by decide +kernel
theorem dX9_tellOne_121 : decode cX9_tellOne 121 = .ok (.invokevirtual 63, 3) := by decide +kernel
theorem dX9_tellOne_124 : decode cX9_tellOne 124 = .ok (.iadd, 1) := by decide +kernel
theorem dX9_tellOne_125 : decode cX9_tellOne 125 = .ok (.invokevirtual 78, 3) := by decide +kernel
theorem dX9_tellOne_128 : decode cX9_tellOne 128 = .ok (.goto 65, 3) := by decide +kernel
theorem dX9_tellOne_131 : decode cX9_tellOne 131 = .ok (.aload_n 1, 1) := by decide +kernel
theorem dX9_tellOne_132 : decode cX9_tellOne 132 = .ok (.iload 4, 2) := by decide +kernel
theorem dX9_tellOne_134 : decode cX9_tellOne 134 = .ok (.iload 5, 2) := by decide +kernel
theorem dX9_tellOne_136 : decode cX9_tellOne 136 = .ok (.iload 6, 2) := by decide +kernel
theorem dX9_tellOne_138 : decode cX9_tellOne 138 = .ok (.invokevirtual 81, 3) := by decide +kernel
theorem dX9_tellOne_141 : decode cX9_tellOne 141 = .ok (.goto 52, 3) := by decide +kernel
theorem dX9_tellOne_144 : decode cX9_tellOne 144 = .ok (.iload_n 2, 1) := by decide +kernel
theorem dX9_tellOne_145 : decode cX9_tellOne 145 = .ok (.iconst 2, 1) := by decide +kernel
theorem dX9_tellOne_146 : decode cX9_tellOne 146 = .ok (.iadd, 1) := by decide +kernel
theorem dX9_tellOne_147 : decode cX9_tellOne 147 = .ok (.istore 7, 2) := by decide +kernel
theorem dX9_tellOne_149 : decode cX9_tellOne 149 = .ok (.iload 7, 2) := by decide +kernel
theorem dX9_tellOne_151 : decode cX9_tellOne 151 = .ok (.iload_n 3, 1) := by decide +kernel
theorem dX9_tellOne_152 : decode cX9_tellOne 152 = .ok (.if_icmp .ge 27, 3) := by decide +kernel
theorem dX9_tellOne_155 : decode cX9_tellOne 155 = .ok (.aload_n 1, 1) := by decide +kernel
theorem dX9_tellOne_156 : decode cX9_tellOne 156 = .ok (.iload 4, 2) := by decide +kernel
theorem dX9_tellOne_158 : decode cX9_tellOne 158 = .ok (.iload 7, 2) := by decide +kernel
theorem dX9_tellOne_160 : decode cX9_tellOne 160 = .ok (.iload_n 2, 1) := by decide +kernel
theorem dX9_tellOne_161 : decode cX9_tellOne 161 = .ok (.isub, 1) := by decide +kernel
theorem dX9_tellOne_162 : decode cX9_tellOne 162 = .ok (.iconst 2, 1) := by decide +kernel
theorem dX9_tellOne_163 : decode cX9_tellOne 163 = .ok (.isub, 1) := by decide +kernel
theorem dX9_tellOne_164 : decode cX9_tellOne 164 = .ok (.aload_n 0, 1) := by decide +kernel
theorem dX9_tellOne_165 : decode cX9_tellOne 165 = .ok (.iload 7, 2) := by decide +kernel
theorem dX9_tellOne_167 : decode cX9_tellOne 167 = .ok (.invokevirtual 63, 3) := by decide +kernel
theorem dX9_tellOne_170 : decode cX9_tellOne 170 = .ok (.invokevirtual 81, 3) := by decide +kernel
theorem dX9_tellOne_173 : decode cX9_tellOne 173 = .ok (.iinc 7 1, 3) := by decide +kernel
theorem dX9_tellOne_176 : decode cX9_tellOne 176 = .ok (.goto (-27), 3) := by decide +kernel
theorem dX9_tellOne_179 : decode cX9_tellOne 179 = .ok (.goto 14, 3) := by decide +kernel
theorem dX9_tellOne_182 : decode cX9_tellOne 182 = .ok (.aload_n 1, 1) := by decide +kernel
theorem dX9_tellOne_183 : decode cX9_tellOne 183 = .ok (.getfield 43, 3) := by decide +kernel
theorem dX9_tellOne_186 : decode cX9_tellOne 186 = .ok (.iload 4, 2) := by decide +kernel
theorem dX9_tellOne_188 : decode cX9_tellOne 188 = .ok (.iload 5, 2) := by decide +kernel
theorem dX9_tellOne_190 : decode cX9_tellOne 190 = .ok (.invokevirtual 84, 3) := by decide +kernel
theorem dX9_tellOne_193 : decode cX9_tellOne 193 = .ok (.return_, 1) := by decide +kernel
theorem dX10_init_0 : decode cX10_init 0 = .ok (.aload_n 0, 1) := by decide +kernel
theorem dX10_init_1 : decode cX10_init 1 = .ok (.invokespecial 3, 3) := by decide +kernel
theorem dX10_init_4 : decode cX10_init 4 = .ok (.aload_n 0, 1) := by decide +kernel
theorem dX10_init_5 : decode cX10_init 5 = .ok (.new 9, 3) := by decide +kernel
theorem dX10_init_8 : decode cX10_init 8 = .ok (.dup, 1) := by decide +kernel
theorem dX10_init_9 : decode cX10_init 9 = .ok (.invokespecial 11, 3) := by decide +kernel
theorem dX10_init_12 : decode cX10_init 12 = .ok (.putfield 12, 3) := by decide +kernel
theorem dX10_init_15 : decode cX10_init 15 = .ok (.aload_n 0, 1) := by decide +kernel
theorem dX10_init_16 : decode cX10_init 16 = .ok (.new 18, 3) := by decide +kernel
theorem dX10_init_19 : decode cX10_init 19 = .ok (.dup, 1) := by decide +kernel
theorem dX10_init_20 : decode cX10_init 20 = .ok (.invokespecial 20, 3) := by decide +kernel
theorem dX10_init_23 : decode cX10_init 23 = .ok (.putfield 21, 3) := by decide +kernel
theorem dX10_init_26 : decode cX10_init 26 = .ok (.aload_n 0, 1) := by decide +kernel
theorem dX10_init_27 : decode cX10_init 27 = .ok (.bipush (-9), 2) := by decide +kernel
theorem dX10_init_29 : decode cX10_init 29 = .ok (.putfield 25, 3) := by decide +kernel
theorem dX10_init_32 : decode cX10_init 32 = .ok (.aload_n 0, 1) := by decide +kernel
theorem dX10_init_33 : decode cX10_init 33 = .ok (.bipush 10, 2) := by decide +kernel
theorem dX10_init_35 : decode cX10_init 35 = .ok (.newarray .int, 2) := by decide +kernel
theorem dX10_init_37 : decode cX10_init 37 = .ok (.putfield 29, 3) := by decide +kernel
theorem dX10_init_40 : decode cX10_init 40 = .ok (.aload_n 0, 1) := by decide +kernel
theorem dX10_init_41 : decode cX10_init 41 = .ok (.bipush 10, 2) := by decide +kernel
theorem dX10_init_43 : decode cX10_init 43 = .ok (.newarray .int, 2) := by decide +kernel
theorem dX10_init_45 : decode cX10_init 45 = .ok (.putfield 33, 3) := by decide +kernel
theorem dX10_init_48 : decode cX10_init 48 = .ok (.aload_n 0, 1) := by decide +kernel
theorem dX10_init_49 : decode cX10_init 49 = .ok (.bipush 10, 2) := by decide +kernel
theorem dX10_init_51 : decode cX10_init 51 = .ok (.newarray .int, 2) := by decide +kernel
theorem dX10_init_53 : decode cX10_init 53 = .ok (.putfield 36, 3) := by decide +kernel
theorem dX10_init_56 : decode cX10_init 56 = .ok (.return_, 1) := by decide +kernel
theorem dX10_load_0 : decode cX10_load 0 = .ok (.aload_n 0, 1) := by decide +kernel
theorem dX10_load_1 : decode cX10_load 1 = .ok (.getfield 12, 3) := by decide +kernel
theorem dX10_load_4 : decode cX10_load 4 = .ok (.aload_n 1, 1) := by decide +kernel
theorem dX10_load_5 : decode cX10_load 5 = .ok (.invokevirtual 39, 3) := by decide +kernel
theorem dX10_load_8 : decode cX10_load 8 = .ok (.aload_n 0, 1) := by decide +kernel
theorem dX10_load_9 : decode cX10_load 9 = .ok (.getfield 21, 3) := by decide +kernel
theorem dX10_load_12 : decode cX10_load 12 = .ok (.aload_n 2, 1) := by decide +kernel
theorem dX10_load_13 : decode cX10_load 13 = .ok (.invokevirtual 43, 3) := by decide +kernel
theorem dX10_load_16 : decode cX10_load 16 = .ok (.aload_n 0, 1) := by decide +kernel
theorem dX10_load_17 : decode cX10_load 17 = .ok (.bipush (-9), 2) := by decide +kernel
theorem dX10_load_19 : decode cX10_load 19 = .ok (.putfield 25, 3) := by decide +kernel
theorem dX10_load_22 : decode cX10_load 22 = .ok (.return_, 1) := by decide +kernel
theorem dX10_run_0 : decode cX10_run 0 = .ok (.aload_n 0, 1) := by decide +kernel
theorem dX10_run_1 : decode cX10_run 1 = .ok (.getfield 21, 3) := by decide +kernel
theorem dX10_run_4 : decode cX10_run 4 = .ok (.getfield 46, 3) := by decide +kernel
theorem dX10_run_7 : decode cX10_run 7 = .ok (.iconst 3, 1) := by decide +kernel
theorem dX10_run_8 : decode cX10_run 8 = .ok (.iaload, 1) := by decide +kernel
theorem dX10_run_9 : decode cX10_run 9 = .ok (.istore_n 1, 1) := by decide +kernel
theorem dX10_run_10 : decode cX10_run 10 = .ok (.iconst 0, 1) := by decide +kernel
theorem dX10_run_11 : decode cX10_run 11 = .ok (.istore_n 2, 1) := by decide +kernel
theorem dX10_run_12 : decode cX10_run 12 = .ok (.iconst 0, 1) := by decide +kernel
theorem dX10_run_13 : decode cX10_run 13 = .ok (.istore_n 3, 1) := by decide +kernel
theorem dX10_run_14 : decode cX10_run 14 = .ok (.iload_n 3, 1) := by decide +kernel
theorem dX10_run_15 : decode cX10_run 15 = .ok (.aload_n 0, 1) := by decide +kernel
theorem dX10_run_16 : decode cX10_run 16 = .ok (.getfield 12, 3) := by decide +kernel
theorem dX10_run_19 : decode cX10_run 19 = .ok (.getfield 49, 3) := by decide +kernel
theorem dX10_run_22 : decode cX10_run 22 = .ok (.if_icmp .ge 110, 3) := by decide +kernel
theorem dX10_run_25 : decode cX10_run 25 = .ok (.aload_n 0, 1) := by decide +kernel
theorem dX10_run_26 : decode cX10_run 26 = .ok (.getfield 21, 3) := by decide +kernel
theorem dX10_run_29 : decode cX10_run 29 = .ok (.getfield 52, 3) := by decide +kernel
theorem dX10_run_32 : decode cX10_run 32 = .ok (.iload_n 3, 1) := by decide +kernel
theorem dX10_run_33 : decode cX10_run 33 = .ok (.iaload, 1) := by decide +kernel
theorem dX10_run_34 : decode cX10_run 34 = .ok (.istore 4, 2) := by decide +kernel
theorem dX10_run_36 : decode cX10_run 36 = .ok (.aload_n 0, 1) := by decide +kernel
theorem dX10_run_37 : decode cX10_run 37 = .ok (.getfield 29, 3) := by decide +kernel
theorem dX10_run_40 : decode cX10_run 40 = .ok (.iload_n 3, 1) := by decide +kernel
theorem dX10_run_41 : decode cX10_run 41 = .ok (.aload_n 0, 1) := by decide +kernel
theorem dX10_run_42 : decode cX10_run 42 = .ok (.getfield 12, 3) := by decide +kernel
theorem dX10_run_45 : decode cX10_run 45 = .ok (.iload_n 3, 1) := by decide +kernel
theorem dX10_run_46 : decode cX10_run 46 = .ok (.aload_n 0, 1) := by decide +kernel
theorem dX10_run_47 : decode cX10_run 47 = .ok (.getfield 21, 3) := by decide +kernel
theorem dX10_run_50 : decode cX10_run 50 = .ok (.invokevirtual 55, 3) := by decide +kernel
theorem dX10_run_53 : decode cX10_run 53 = .ok (.iload 4, 2) := by decide +kernel
theorem dX10_run_55 : decode cX10_run 55 = .ok (.iload_n 1, 1) := by decide +kernel
theorem dX10_run_56 : decode cX10_run 56 = .ok (.invokestatic 59, 3) := by decide +kernel
theorem dX10_run_59 : decode cX10_run 59 = .ok (.iastore, 1) := by decide +kernel
theorem dX10_run_60 : decode cX10_run 60 = .ok (.aload_n 0, 1) := by decide +kernel
theorem dX10_run_61 : decode cX10_run 61 = .ok (.getfield 12, 3) := by decide +kernel
theorem dX10_run_64 : decode cX10_run 64 = .ok (.getfield 65, 3) := by decide +kernel
theorem dX10_run_67 : decode cX10_run 67 = .ok (.iload_n 3, 1) := by decide +kernel
theorem dX10_run_68 : decode cX10_run 68 = .ok (.iaload, 1) := by decide +kernel
theorem dX10_run_69 : decode cX10_run 69 = .ok (.aload_n 0, 1) := by decide +kernel
theorem dX10_run_70 : decode cX10_run 70 = .ok (.getfield 12, 3) := by decide +kernel
theorem dX10_run_73 : decode cX10_run 73 = .ok (.getfield 68, 3) := by decide +kernel
theorem dX10_run_76 : decode cX10_run 76 = .ok (.iload_n 3, 1) := by decide +kernel
theorem dX10_run_77 : decode cX10_run 77 = .ok (.iaload, 1) := by decide +kernel
theorem dX10_run_78 : decode cX10_run 78 = .ok (.iload 4, 2) := by decide +kernel
theorem dX10_run_80 : decode cX10_run 80 = .ok (.iload_n 1, 1) := by decide +kernel
theorem dX10_run_81 : decode cX10_run 81 = .ok (.invokestatic 71, 3) := by decide +kernel
theorem dX10_run_84 : decode cX10_run 84 = .ok (.istore_n 1, 1) := by decide +kernel
theorem dX10_run_85 : decode cX10_run 85 = .ok (.iload_n 3, 1) := by decide +kernel
theorem dX10_run_86 : decode cX10_run 86 = .ok (.aload_n 0, 1) := by decide +kernel
theorem dX10_run_87 : decode cX10_run 87 = .ok (.getfield 25, 3) := by decide +kernel
theorem dX10_run_90 : decode cX10_run 90 = .ok (.if_icmp .ne 13, 3) := by decide +kernel
theorem dX10_run_93 : decode cX10_run 93 = .ok (.bipush 99, 2) := by decide +kernel
theorem dX10_run_95 : decode cX10_run 95 = .ok (.iload_n 1, 1) := by decide +kernel
theorem dX10_run_96 : decode cX10_run 96 = .ok (.bipush 20, 2) := by decide +kernel
theorem dX10_run_98 : decode cX10_run 98 = .ok (.iadd, 1) := by decide +kernel
theorem dX10_run_99 : decode cX10_run 99 = .ok (.invokestatic 75, 3) := by decide +kernel
theorem dX10_run_102 : decode cX10_run 102 = .ok (.istore_n 1, 1) := by decide +kernel
theorem dX10_run_103 : decode cX10_run 103 = .ok (.iload_n 2, 1) := by decide +kernel
theorem dX10_run_104 : decode cX10_run 104 = .ok (.aload_n 0, 1) := by decide +kernel
theorem dX10_run_105 : decode cX10_run 105 = .ok (.getfield 29, 3) := by decide +kernel
theorem dX10_run_108 : decode cX10_run 108 = .ok (.iload_n 3, 1) := by decide +kernel
theorem dX10_run_109 : decode cX10_run 109 = .ok (.iaload, 1) := by decide +kernel
theorem dX10_run_110 : decode cX10_run 110 = .ok (.iadd, 1) := by decide +kernel
theorem dX10_run_111 : decode cX10_run 111 = .ok (.istore_n 2, 1) := by decide +kernel
theorem dX10_run_112 : decode cX10_run 112 = .ok (.aload_n 0, 1) := by decide +kernel
theorem dX10_run_113 : decode cX10_run 113 = .ok (.getfield 33, 3) := by decide +kernel
theorem dX10_run_116 : decode cX10_run 116 = .ok (.iload_n 3, 1) := by decide +kernel
theorem dX10_run_117 : decode cX10_run 117 = .ok (.iload_n 1, 1) := by decide +kernel
theorem dX10_run_118 : decode cX10_run 118 = .ok (.iastore, 1) := by decide +kernel
theorem dX10_run_119 : decode cX10_run 119 = .ok (.aload_n 0, 1) := by decide +kernel
theorem dX10_run_120 : decode cX10_run 120 = .ok (.getfield 36, 3) := by decide +kernel
theorem dX10_run_123 : decode cX10_run 123 = .ok (.iload_n 3, 1) := by decide +kernel
theorem dX10_run_124 : decode cX10_run 124 = .ok (.iload_n 2, 1) := by decide +kernel
theorem dX10_run_125 : decode cX10_run 125 = .ok (.iastore, 1) := by decide +kernel
theorem dX10_run_126 : decode cX10_run 126 = .ok (.iinc 3 1, 3) := by decide +kernel
theorem dX10_run_129 : decode cX10_run 129 = .ok (.goto (-115), 3) := by decide +kernel
theorem dX10_run_132 : decode cX10_run 132 = .ok (.iload_n 2, 1) := by decide +kernel
theorem dX10_run_133 : decode cX10_run 133 = .ok (.ireturn, 1) := by decide +kernel
theorem dX10_rideAt_0 : decode cX10_rideAt 0 = .ok (.iconst 0, 1) := by decide +kernel
theorem dX10_rideAt_1 : decode cX10_rideAt 1 = .ok (.istore_n 2, 1) := by decide +kernel
theorem dX10_rideAt_2 : decode cX10_rideAt 2 = .ok (.iload_n 2, 1) := by decide +kernel
theorem dX10_rideAt_3 : decode cX10_rideAt 3 = .ok (.aload_n 0, 1) := by decide +kernel
theorem dX10_rideAt_4 : decode cX10_rideAt 4 = .ok (.getfield 12, 3) := by decide +kernel
theorem dX10_rideAt_7 : decode cX10_rideAt 7 = .ok (.getfield 49, 3) := by decide +kernel
theorem dX10_rideAt_10 : decode cX10_rideAt 10 = .ok (.if_icmp .ge 34, 3) := by decide +kernel
theorem dX10_rideAt_13 : decode cX10_rideAt 13 = .ok (.aload_n 0, 1) := by decide +kernel
theorem dX10_rideAt_14 : decode cX10_rideAt 14 = .ok (.getfield 12, 3) := by decide +kernel
theorem dX10_rideAt_17 : decode cX10_rideAt 17 = .ok (.getfield 65, 3) := by decide +kernel
theorem dX10_rideAt_20 : decode cX10_rideAt 20 = .ok (.iload_n 2, 1) := by decide +kernel
theorem dX10_rideAt_21 : decode cX10_rideAt 21 = .ok (.iaload, 1) := by decide +kernel
theorem dX10_rideAt_22 : decode cX10_rideAt 22 = .ok (.invokestatic 81, 3) := by decide +kernel
theorem dX10_rideAt_25 : decode cX10_rideAt 25 = .ok (.ifCond .eq 13, 3) := by decide +kernel
theorem dX10_rideAt_28 : decode cX10_rideAt 28 = .ok (.aload_n 0, 1) := by decide +kernel
theorem dX10_rideAt_29 : decode cX10_rideAt 29 = .ok (.getfield 21, 3) := by decide +kernel
theorem dX10_rideAt_32 : decode cX10_rideAt 32 = .ok (.getfield 52, 3) := by decide +kernel
theorem dX10_rideAt_35 : decode cX10_rideAt 35 = .ok (.iload_n 2, 1) := by decide +kernel
theorem dX10_rideAt_36 : decode cX10_rideAt 36 = .ok (.iload_n 1, 1) := by decide +kernel
theorem dX10_rideAt_37 : decode cX10_rideAt 37 = .ok (.iastore, 1) := by decide +kernel
theorem dX10_rideAt_38 : decode cX10_rideAt 38 = .ok (.iinc 2 1, 3) := by decide +kernel
theorem dX10_rideAt_41 : decode cX10_rideAt 41 = .ok (.goto (-39), 3) := by decide +kernel
theorem dX10_rideAt_44 : decode cX10_rideAt 44 = .ok (.return_, 1) := by decide +kernel
theorem dX10_leaveOut_0 : decode cX10_leaveOut 0 = .ok (.aload_n 0, 1) := by decide +kernel
theorem dX10_leaveOut_1 : decode cX10_leaveOut 1 = .ok (.getfield 12, 3) := by decide +kernel
theorem dX10_leaveOut_4 : decode cX10_leaveOut 4 = .ok (.iload_n 1, 1) := by decide +kernel
theorem dX10_leaveOut_5 : decode cX10_leaveOut 5 = .ok (.invokevirtual 85, 3) := by decide +kernel
theorem dX10_leaveOut_8 : decode cX10_leaveOut 8 = .ok (.ifCond .ne 4, 3) := by decide +kernel
theorem dX10_leaveOut_11 : decode cX10_leaveOut 11 = .ok (.return_, 1) := by decide +kernel
theorem dX10_leaveOut_12 : decode cX10_leaveOut 12 = .ok (.iload_n 1, 1) := by decide +kernel
theorem dX10_leaveOut_13 : decode cX10_leaveOut 13 = .ok (.istore_n 2, 1) := by decide +kernel
theorem dX10_leaveOut_14 : decode cX10_leaveOut 14 = .ok (.iload_n 2, 1) := by decide +kernel
theorem dX10_leaveOut_15 : decode cX10_leaveOut 15 = .ok (.iconst 1, 1) := by decide +kernel
theorem dX10_leaveOut_16 : decode cX10_leaveOut 16 = .ok (.iadd, 1) := by decide +kernel
theorem dX10_leaveOut_17 : decode cX10_leaveOut 17 = .ok (.aload_n 0, 1) := by decide +kernel
theorem dX10_leaveOut_18 : decode cX10_leaveOut 18 = .ok (.getfield 12, 3) := by decide +kernel
theorem dX10_leaveOut_21 : decode cX10_leaveOut 21 = .ok (.getfield 49, 3) := by decide +kernel
theorem dX10_leaveOut_24 : decode cX10_leaveOut 24 = .ok (.if_icmp .ge 29, 3) := by decide +kernel
theorem dX10_leaveOut_27 : decode cX10_leaveOut 27 = .ok (.aload_n 0, 1) := by decide +kernel
theorem dX10_leaveOut_28 : decode cX10_leaveOut 28 = .ok (.getfield 21, 3) := by decide +kernel
theorem dX10_leaveOut_31 : decode cX10_leaveOut 31 = .ok (.getfield 52, 3) := by decide +kernel
theorem dX10_leaveOut_34 : decode cX10_leaveOut 34 = .ok (.iload_n 2, 1) := by decide +kernel
theorem dX10_leaveOut_35 : decode cX10_leaveOut 35 = .ok (.aload_n 0, 1) := by decide +kernel
theorem dX10_leaveOut_36 : decode cX10_leaveOut 36 = .ok (.getfield 21, 3) := by decide +kernel
theorem dX10_leaveOut_39 : decode cX10_leaveOut 39 = .ok (.getfield 52, 3) := by decide +kernel
theorem dX10_leaveOut_42 : decode cX10_leaveOut 42 = .ok (.iload_n 2, 1) := by decide +kernel
theorem dX10_leaveOut_43 : decode cX10_leaveOut 43 = .ok (.iconst 1, 1) := by decide +kernel
theorem dX10_leaveOut_44 : decode cX10_leaveOut 44 = .ok (.iadd, 1) := by decide +kernel
theorem dX10_leaveOut_45 : decode cX10_leaveOut 45 = .ok (.iaload, 1) := by decide +kernel
theorem dX10_leaveOut_46 : decode cX10_leaveOut 46 = .ok (.iastore, 1) := by decide +kernel
theorem dX10_leaveOut_47 : decode cX10_leaveOut 47 = .ok (.iinc 2 1, 3) := by decide +kernel
theorem dX10_leaveOut_50 : decode cX10_leaveOut 50 = .ok (.goto (-36), 3) := by decide +kernel
theorem dX10_leaveOut_53 : decode cX10_leaveOut 53 = .ok (.aload_n 0, 1) := by decide +kernel
theorem dX10_leaveOut_54 : decode cX10_leaveOut 54 = .ok (.getfield 12, 3) := by decide +kernel
theorem dX10_leaveOut_57 : decode cX10_leaveOut 57 = .ok (.iload_n 1, 1) := by decide +kernel
theorem dX10_leaveOut_58 : decode cX10_leaveOut 58 = .ok (.invokevirtual 88, 3) := by decide +kernel
theorem dX10_leaveOut_61 : decode cX10_leaveOut 61 = .ok (.return_, 1) := by decide +kernel
theorem dX10_legsAtFinish_0 : decode cX10_legsAtFinish 0 = .ok (.aload_n 0, 1) := by decide +kernel
theorem dX10_legsAtFinish_1 : decode cX10_legsAtFinish 1 = .ok (.getfield 12, 3) := by decide +kernel
theorem dX10_legsAtFinish_4 : decode cX10_legsAtFinish 4 = .ok (.getfield 49, 3) := by decide +kernel
theorem dX10_legsAtFinish_7 : decode cX10_legsAtFinish 7 = .ok (.ifCond .ne 15, 3) := by decide +kernel
theorem dX10_legsAtFinish_10 : decode cX10_legsAtFinish 10 = .ok (.aload_n 0, 1) := by decide +kernel
theorem dX10_legsAtFinish_11 : decode cX10_legsAtFinish 11 = .ok (.getfield 21, 3) := by decide +kernel
theorem dX10_legsAtFinish_14 : decode cX10_legsAtFinish 14 = .ok (.getfield 46, 3) := by decide +kernel
theorem dX10_legsAtFinish_17 : decode cX10_legsAtFinish 17 = .ok (.iconst 3, 1) := by decide +kernel
theorem dX10_legsAtFinish_18 : decode cX10_legsAtFinish 18 = .ok (.iaload, 1) := by decide +kernel
theorem dX10_legsAtFinish_19 : decode cX10_legsAtFinish 19 = .ok (.goto 17, 3) := by decide +kernel
theorem dX10_legsAtFinish_22 : decode cX10_legsAtFinish 22 = .ok (.aload_n 0, 1) := by decide +kernel
theorem dX10_legsAtFinish_23 : decode cX10_legsAtFinish 23 = .ok (.getfield 33, 3) := by decide +kernel
theorem dX10_legsAtFinish_26 : decode cX10_legsAtFinish 26 = .ok (.aload_n 0, 1) := by decide +kernel
theorem dX10_legsAtFinish_27 : decode cX10_legsAtFinish 27 = .ok (.getfield 12, 3) := by decide +kernel
theorem dX10_legsAtFinish_30 : decode cX10_legsAtFinish 30 = .ok (.getfield 49, 3) := by decide +kernel
theorem dX10_legsAtFinish_33 : decode cX10_legsAtFinish 33 = .ok (.iconst 1, 1) := by decide +kernel
theorem dX10_legsAtFinish_34 : decode cX10_legsAtFinish 34 = .ok (.isub, 1) := by decide +kernel
theorem dX10_legsAtFinish_35 : decode cX10_legsAtFinish 35 = .ok (.iaload, 1) := by decide +kernel
theorem dX10_legsAtFinish_36 : decode cX10_legsAtFinish 36 = .ok (.ireturn, 1) := by decide +kernel
theorem dX10_gone_0 : decode cX10_gone 0 = .ok (.iconst 0, 1) := by decide +kernel
theorem dX10_gone_1 : decode cX10_gone 1 = .ok (.istore_n 1, 1) := by decide +kernel
theorem dX10_gone_2 : decode cX10_gone 2 = .ok (.iload_n 1, 1) := by decide +kernel
theorem dX10_gone_3 : decode cX10_gone 3 = .ok (.aload_n 0, 1) := by decide +kernel
theorem dX10_gone_4 : decode cX10_gone 4 = .ok (.getfield 12, 3) := by decide +kernel
theorem dX10_gone_7 : decode cX10_gone 7 = .ok (.getfield 49, 3) := by decide +kernel
theorem dX10_gone_10 : decode cX10_gone 10 = .ok (.if_icmp .ge 20, 3) := by decide +kernel
theorem dX10_gone_13 : decode cX10_gone 13 = .ok (.aload_n 0, 1) := by decide +kernel
theorem dX10_gone_14 : decode cX10_gone 14 = .ok (.getfield 33, 3) := by decide +kernel
theorem dX10_gone_17 : decode cX10_gone 17 = .ok (.iload_n 1, 1) := by decide +kernel
theorem dX10_gone_18 : decode cX10_gone 18 = .ok (.iaload, 1) := by decide +kernel
theorem dX10_gone_19 : decode cX10_gone 19 = .ok (.ifCond .ne 5, 3) := by decide +kernel
theorem dX10_gone_22 : decode cX10_gone 22 = .ok (.iload_n 1, 1) := by decide +kernel
theorem dX10_gone_23 : decode cX10_gone 23 = .ok (.ireturn, 1) := by decide +kernel
theorem dX10_gone_24 : decode cX10_gone 24 = .ok (.iinc 1 1, 3) := by decide +kernel
theorem dX10_gone_27 : decode cX10_gone 27 = .ok (.goto (-25), 3) := by decide +kernel
theorem dX10_gone_30 : decode cX10_gone 30 = .ok (.bipush (-9), 2) := by decide +kernel
theorem dX10_gone_32 : decode cX10_gone 32 = .ok (.ireturn, 1) := by decide +kernel
theorem dX10_sectionAt_0 : decode cX10_sectionAt 0 = .ok (.iconst 0, 1) := by decide +kernel
theorem dX10_sectionAt_1 : decode cX10_sectionAt 1 = .ok (.istore_n 2, 1) := by decide +kernel
theorem dX10_sectionAt_2 : decode cX10_sectionAt 2 = .ok (.iload_n 2, 1) := by decide +kernel
theorem dX10_sectionAt_3 : decode cX10_sectionAt 3 = .ok (.aload_n 0, 1) := by decide +kernel
theorem dX10_sectionAt_4 : decode cX10_sectionAt 4 = .ok (.getfield 12, 3) := by decide +kernel
theorem dX10_sectionAt_7 : decode cX10_sectionAt 7 = .ok (.getfield 49, 3) := by decide +kernel
theorem dX10_sectionAt_10 : decode cX10_sectionAt 10 = .ok (.if_icmp .ge 21, 3) := by decide +kernel
theorem dX10_sectionAt_13 : decode cX10_sectionAt 13 = .ok (.iload_n 1, 1) := by decide +kernel
theorem dX10_sectionAt_14 : decode cX10_sectionAt 14 = .ok (.aload_n 0, 1) := by decide +kernel
theorem dX10_sectionAt_15 : decode cX10_sectionAt 15 = .ok (.getfield 36, 3) := by decide +kernel
theorem dX10_sectionAt_18 : decode cX10_sectionAt 18 = .ok (.iload_n 2, 1) := by decide +kernel
theorem dX10_sectionAt_19 : decode cX10_sectionAt 19 = .ok (.iaload, 1) := by decide +kernel
theorem dX10_sectionAt_20 : decode cX10_sectionAt 20 = .ok (.if_icmp .ge 5, 3) := by decide +kernel
theorem dX10_sectionAt_23 : decode cX10_sectionAt 23 = .ok (.iload_n 2, 1) := by decide +kernel
theorem dX10_sectionAt_24 : decode cX10_sectionAt 24 = .ok (.ireturn, 1) := by decide +kernel
theorem dX10_sectionAt_25 : decode cX10_sectionAt 25 = .ok (.iinc 2 1, 3) := by decide +kernel
theorem dX10_sectionAt_28 : decode cX10_sectionAt 28 = .ok (.goto (-26), 3) := by decide +kernel
theorem dX10_sectionAt_31 : decode cX10_sectionAt 31 = .ok (.aload_n 0, 1) := by decide +kernel
theorem dX10_sectionAt_32 : decode cX10_sectionAt 32 = .ok (.getfield 12, 3) := by decide +kernel
theorem dX10_sectionAt_35 : decode cX10_sectionAt 35 = .ok (.getfield 49, 3) := by decide +kernel
theorem dX10_sectionAt_38 : decode cX10_sectionAt 38 = .ok (.ireturn, 1) := by decide +kernel
theorem dX10_isPastIn_0 : decode cX10_isPastIn 0 = .ok (.iload_n 1, 1) := by decide +kernel
theorem dX10_isPastIn_1 : decode cX10_isPastIn 1 = .ok (.ifCond .ne 5, 3) := by decide +kernel
theorem dX10_isPastIn_4 : decode cX10_isPastIn 4 = .ok (.iconst 0, 1) := by decide +kernel
theorem dX10_isPastIn_5 : decode cX10_isPastIn 5 = .ok (.ireturn, 1) := by decide +kernel
theorem dX10_isPastIn_6 : decode cX10_isPastIn 6 = .ok (.aload_n 0, 1) := by decide +kernel
theorem dX10_isPastIn_7 : decode cX10_isPastIn 7 = .ok (.getfield 36, 3) := by decide +kernel
theorem dX10_isPastIn_10 : decode cX10_isPastIn 10 = .ok (.iload_n 1, 1) := by decide +kernel
theorem dX10_isPastIn_11 : decode cX10_isPastIn 11 = .ok (.iconst 1, 1) := by decide +kernel
theorem dX10_isPastIn_12 : decode cX10_isPastIn 12 = .ok (.isub, 1) := by decide +kernel
theorem dX10_isPastIn_13 : decode cX10_isPastIn 13 = .ok (.iaload, 1) := by decide +kernel
theorem dX10_isPastIn_14 : decode cX10_isPastIn 14 = .ok (.aload_n 2, 1) := by decide +kernel
theorem dX10_isPastIn_15 : decode cX10_isPastIn 15 = .ok (.getfield 36, 3) := by decide +kernel
theorem dX10_isPastIn_18 : decode cX10_isPastIn 18 = .ok (.iload_n 1, 1) := by decide +kernel
theorem dX10_isPastIn_19 : decode cX10_isPastIn 19 = .ok (.iconst 1, 1) := by decide +kernel
theorem dX10_isPastIn_20 : decode cX10_isPastIn 20 = .ok (.isub, 1) := by decide +kernel
theorem dX10_isPastIn_21 : decode cX10_isPastIn 21 = .ok (.iaload, 1) := by decide +kernel
theorem dX10_isPastIn_22 : decode cX10_isPastIn 22 = .ok (.if_icmp .le 22, 3) := by decide +kernel
theorem dX10_isPastIn_25 : decode cX10_isPastIn 25 = .ok (.aload_n 0, 1) := by decide +kernel
theorem dX10_isPastIn_26 : decode cX10_isPastIn 26 = .ok (.getfield 36, 3) := by decide +kernel
theorem dX10_isPastIn_29 : decode cX10_isPastIn 29 = .ok (.iload_n 1, 1) := by decide +kernel
theorem dX10_isPastIn_30 : decode cX10_isPastIn 30 = .ok (.iaload, 1) := by decide +kernel
theorem dX10_isPastIn_31 : decode cX10_isPastIn 31 = .ok (.aload_n 2, 1) := by decide +kernel
theorem dX10_isPastIn_32 : decode cX10_isPastIn 32 = .ok (.getfield 36, 3) := by decide +kernel
theorem dX10_isPastIn_35 : decode cX10_isPastIn 35 = .ok (.iload_n 1, 1) := by decide +kernel
theorem dX10_isPastIn_36 : decode cX10_isPastIn 36 = .ok (.iaload, 1) := by decide +kernel
theorem dX10_isPastIn_37 : decode cX10_isPastIn 37 = .ok (.if_icmp .ge 7, 3) := by decide +kernel
theorem dX10_isPastIn_40 : decode cX10_isPastIn 40 = .ok (.iconst 1, 1) := by decide +kernel
theorem dX10_isPastIn_41 : decode cX10_isPastIn 41 = .ok (.goto 4, 3) := by decide +kernel
theorem dX10_isPastIn_44 : decode cX10_isPastIn 44 = .ok (.iconst 0, 1) := by decide +kernel
theorem dX10_isPastIn_45 : decode cX10_isPastIn 45 = .ok (.ireturn, 1) := by decide +kernel
theorem dX10_howOftenPast_0 : decode cX10_howOftenPast 0 = .ok (.iconst 0, 1) := by decide +kernel
theorem dX10_howOftenPast_1 : decode cX10_howOftenPast 1 = .ok (.istore_n 2, 1) := by decide +kernel
theorem dX10_howOftenPast_2 : decode cX10_howOftenPast 2 = .ok (.iconst 0, 1) := by decide +kernel
theorem dX10_howOftenPast_3 : decode cX10_howOftenPast 3 = .ok (.istore_n 3, 1) := by decide +kernel
theorem dX10_howOftenPast_4 : decode cX10_howOftenPast 4 = .ok (.iload_n 3, 1) := by decide +kernel
theorem dX10_howOftenPast_5 : decode cX10_howOftenPast 5 = .ok (.aload_n 0, 1) := by decide +kernel
theorem dX10_howOftenPast_6 : decode cX10_howOftenPast 6 = .ok (.getfield 12, 3) := by decide +kernel
theorem dX10_howOftenPast_9 : decode cX10_howOftenPast 9 = .ok (.getfield 49, 3) := by decide +kernel
theorem dX10_howOftenPast_12 : decode cX10_howOftenPast 12 = .ok (.if_icmp .ge 21, 3) := by decide +kernel
theorem dX10_howOftenPast_15 : decode cX10_howOftenPast 15 = .ok (.aload_n 0, 1) := by decide +kernel
theorem dX10_howOftenPast_16 : decode cX10_howOftenPast 16 = .ok (.iload_n 3, 1) := by decide +kernel
theorem dX10_howOftenPast_17 : decode cX10_howOftenPast 17 = .ok (.aload_n 1, 1) := by decide +kernel
theorem dX10_howOftenPast_18 : decode cX10_howOftenPast 18 = .ok (.invokevirtual 92, 3) := by decide +kernel
theorem dX10_howOftenPast_21 : decode cX10_howOftenPast 21 = .ok (.ifCond .eq 6, 3) := by decide +kernel
theorem dX10_howOftenPast_24 : decode cX10_howOftenPast 24 = .ok (.iinc 2 1, 3) := by decide +kernel
theorem dX10_howOftenPast_27 : decode cX10_howOftenPast 27 = .ok (.iinc 3 1, 3) := by decide +kernel
theorem dX10_howOftenPast_30 : decode cX10_howOftenPast 30 = .ok (.goto (-26), 3) := by decide +kernel
theorem dX10_howOftenPast_33 : decode cX10_howOftenPast 33 = .ok (.iload_n 2, 1) := by decide +kernel
theorem dX10_howOftenPast_34 : decode cX10_howOftenPast 34 = .ok (.ireturn, 1) := by decide +kernel
theorem dX10_firstPast_0 : decode cX10_firstPast 0 = .ok (.iconst 0, 1) := by decide +kernel
theorem dX10_firstPast_1 : decode cX10_firstPast 1 = .ok (.istore_n 2, 1) := by decide +kernel
theorem dX10_firstPast_2 : decode cX10_firstPast 2 = .ok (.iload_n 2, 1) := by decide +kernel
theorem dX10_firstPast_3 : decode cX10_firstPast 3 = .ok (.aload_n 0, 1) := by decide +kernel
theorem dX10_firstPast_4 : decode cX10_firstPast 4 = .ok (.getfield 12, 3) := by decide +kernel
theorem dX10_firstPast_7 : decode cX10_firstPast 7 = .ok (.getfield 49, 3) := by decide +kernel
theorem dX10_firstPast_10 : decode cX10_firstPast 10 = .ok (.if_icmp .ge 20, 3) := by decide +kernel
theorem dX10_firstPast_13 : decode cX10_firstPast 13 = .ok (.aload_n 0, 1) := by decide +kernel
theorem dX10_firstPast_14 : decode cX10_firstPast 14 = .ok (.iload_n 2, 1) := by decide +kernel
theorem dX10_firstPast_15 : decode cX10_firstPast 15 = .ok (.aload_n 1, 1) := by decide +kernel
theorem dX10_firstPast_16 : decode cX10_firstPast 16 = .ok (.invokevirtual 92, 3) := by decide +kernel
theorem dX10_firstPast_19 : decode cX10_firstPast 19 = .ok (.ifCond .eq 5, 3) := by decide +kernel
theorem dX10_firstPast_22 : decode cX10_firstPast 22 = .ok (.iload_n 2, 1) := by decide +kernel
theorem dX10_firstPast_23 : decode cX10_firstPast 23 = .ok (.ireturn, 1) := by decide +kernel
theorem dX10_firstPast_24 : decode cX10_firstPast 24 = .ok (.iinc 2 1, 3) := by decide +kernel
theorem dX10_firstPast_27 : decode cX10_firstPast 27 = .ok (.goto (-25), 3) := by decide +kernel
theorem dX10_firstPast_30 : decode cX10_firstPast 30 = .ok (.bipush (-9), 2) := by decide +kernel
theorem dX10_firstPast_32 : decode cX10_firstPast 32 = .ok (.ireturn, 1) := by decide +kernel
theorem dX10_slowest_0 : decode cX10_slowest 0 = .ok (.bipush (-9), 2) := by decide +kernel
theorem dX10_slowest_2 : decode cX10_slowest 2 = .ok (.istore_n 1, 1) := by decide +kernel
theorem dX10_slowest_3 : decode cX10_slowest 3 = .ok (.iconst 0, 1) := by decide +kernel
theorem dX10_slowest_4 : decode cX10_slowest 4 = .ok (.istore_n 2, 1) := by decide +kernel
theorem dX10_slowest_5 : decode cX10_slowest 5 = .ok (.iload_n 2, 1) := by decide +kernel
theorem dX10_slowest_6 : decode cX10_slowest 6 = .ok (.aload_n 0, 1) := by decide +kernel
theorem dX10_slowest_7 : decode cX10_slowest 7 = .ok (.getfield 12, 3) := by decide +kernel
theorem dX10_slowest_10 : decode cX10_slowest 10 = .ok (.getfield 49, 3) := by decide +kernel
theorem dX10_slowest_13 : decode cX10_slowest 13 = .ok (.if_icmp .ge 52, 3) := by decide +kernel
theorem dX10_slowest_16 : decode cX10_slowest 16 = .ok (.iload_n 1, 1) := by decide +kernel
theorem dX10_slowest_17 : decode cX10_slowest 17 = .ok (.bipush (-9), 2) := by decide +kernel
theorem dX10_slowest_19 : decode cX10_slowest 19 = .ok (.if_icmp .eq 38, 3) := by decide +kernel
theorem dX10_slowest_22 : decode cX10_slowest 22 = .ok (.aload_n 0, 1) := by decide +kernel
theorem dX10_slowest_23 : decode cX10_slowest 23 = .ok (.getfield 29, 3) := by decide +kernel
theorem dX10_slowest_26 : decode cX10_slowest 26 = .ok (.iload_n 2, 1) := by decide +kernel
theorem dX10_slowest_27 : decode cX10_slowest 27 = .ok (.iaload, 1) := by decide +kernel
theorem dX10_slowest_28 : decode cX10_slowest 28 = .ok (.aload_n 0, 1) := by decide +kernel
theorem dX10_slowest_29 : decode cX10_slowest 29 = .ok (.getfield 12, 3) := by decide +kernel
theorem dX10_slowest_32 : decode cX10_slowest 32 = .ok (.getfield 68, 3) := by decide +kernel
theorem dX10_slowest_35 : decode cX10_slowest 35 = .ok (.iload_n 1, 1) := by decide +kernel
theorem dX10_slowest_36 : decode cX10_slowest 36 = .ok (.iaload, 1) := by decide +kernel
theorem dX10_slowest_37 : decode cX10_slowest 37 = .ok (.imul, 1) := by decide +kernel
theorem dX10_slowest_38 : decode cX10_slowest 38 = .ok (.aload_n 0, 1) := by decide +kernel
theorem dX10_slowest_39 : decode cX10_slowest 39 = .ok (.getfield 29, 3) := by decide +kernel
theorem dX10_slowest_42 : decode cX10_slowest 42 = .ok (.iload_n 1, 1) := by decide +kernel
theorem dX10_slowest_43 : decode cX10_slowest 43 = .ok (.iaload, 1) := by decide +kernel
theorem dX10_slowest_44 : decode cX10_slowest 44 = .ok (.aload_n 0, 1) := by decide +kernel
theorem dX10_slowest_45 : decode cX10_slowest 45 = .ok (.getfield 12, 3) := by decide +kernel
theorem dX10_slowest_48 : decode cX10_slowest 48 = .ok (.getfield 68, 3) := by decide +kernel
theorem dX10_slowest_51 : decode cX10_slowest 51 = .ok (.iload_n 2, 1) := by decide +kernel
theorem dX10_slowest_52 : decode cX10_slowest 52 = .ok (.iaload, 1) := by decide +kernel
theorem dX10_slowest_53 : decode cX10_slowest 53 = .ok (.imul, 1) := by decide +kernel
theorem dX10_slowest_54 : decode cX10_slowest 54 = .ok (.if_icmp .le 5, 3) := by decide +kernel
theorem dX10_slowest_57 : decode cX10_slowest 57 = .ok (.iload_n 2, 1) := by decide +kernel
theorem dX10_slowest_58 : decode cX10_slowest 58 = .ok (.istore_n 1, 1) := by decide +kernel
theorem dX10_slowest_59 : decode cX10_slowest 59 = .ok (.iinc 2 1, 3) := by decide +kernel
theorem dX10_slowest_62 : decode cX10_slowest 62 = .ok (.goto (-57), 3) := by decide +kernel
theorem dX10_slowest_65 : decode cX10_slowest 65 = .ok (.iload_n 1, 1) := by decide +kernel
theorem dX10_slowest_66 : decode cX10_slowest 66 = .ok (.ireturn, 1) := by decide +kernel
theorem dX10_secondsOfChanges_0 : decode cX10_secondsOfChanges 0 = .ok (.iconst 0, 1) := by decide +kernel
theorem dX10_secondsOfChanges_1 : decode cX10_secondsOfChanges 1 = .ok (.istore_n 1, 1) := by decide +kernel
theorem dX10_secondsOfChanges_2 : decode cX10_secondsOfChanges 2 = .ok (.iconst 0, 1) := by decide +kernel
theorem dX10_secondsOfChanges_3 : decode cX10_secondsOfChanges 3 = .ok (.istore_n 2, 1) := by decide +kernel
theorem dX10_secondsOfChanges_4 : decode cX10_secondsOfChanges 4 = .ok (.iload_n 2, 1) := by decide +kernel
theorem dX10_secondsOfChanges_5 : decode cX10_secondsOfChanges 5 = .ok (.aload_n 0, 1) := by decide +kernel
theorem dX10_secondsOfChanges_6 : decode cX10_secondsOfChanges 6 = .ok (.getfield 12, 3) := by decide +kernel
theorem dX10_secondsOfChanges_9 : decode cX10_secondsOfChanges 9 = .ok (.getfield 49, 3) := by decide +kernel
theorem dX10_secondsOfChanges_12 : decode cX10_secondsOfChanges 12 = .ok (.if_icmp .ge 32, 3) := by decide +kernel
theorem dX10_secondsOfChanges_15 : decode cX10_secondsOfChanges 15 = .ok (.aload_n 0, 1) := by decide +kernel
theorem dX10_secondsOfChanges_16 : decode cX10_secondsOfChanges 16 = .ok (.getfield 12, 3) := by decide +kernel
theorem dX10_secondsOfChanges_19 : decode cX10_secondsOfChanges 19 = .ok (.getfield 65, 3) := by decide +kernel
theorem dX10_secondsOfChanges_22 : decode cX10_secondsOfChanges 22 = .ok (.iload_n 2, 1) := by decide +kernel
theorem dX10_secondsOfChanges_23 : decode cX10_secondsOfChanges 23 = .ok (.iaload, 1) := by decide +kernel
theorem dX10_secondsOfChanges_24 : decode cX10_secondsOfChanges 24 = .ok (.bipush 6, 2) := by decide +kernel
theorem dX10_secondsOfChanges_26 : decode cX10_secondsOfChanges 26 = .ok (.if_icmp .ne 12, 3) := by decide +kernel
theorem dX10_secondsOfChanges_29 : decode cX10_secondsOfChanges 29 = .ok (.iload_n 1, 1) := by decide +kernel
theorem dX10_secondsOfChanges_30 : decode cX10_secondsOfChanges 30 = .ok (.aload_n 0, 1) := by decide +kernel
theorem dX10_secondsOfChanges_31 : decode cX10_secondsOfChanges 31 = .ok (.getfield 29, 3) := by decide +kernel
theorem dX10_secondsOfChanges_34 : decode cX10_secondsOfChanges 34 = .ok (.iload_n 2, 1) := by decide +kernel
theorem dX10_secondsOfChanges_35 : decode cX10_secondsOfChanges 35 = .ok (.iaload, 1) := by decide +kernel
theorem dX10_secondsOfChanges_36 : decode cX10_secondsOfChanges 36 = .ok (.iadd, 1) := by decide +kernel
theorem dX10_secondsOfChanges_37 : decode cX10_secondsOfChanges 37 = .ok (.istore_n 1, 1) := by decide +kernel
theorem dX10_secondsOfChanges_38 : decode cX10_secondsOfChanges 38 = .ok (.iinc 2 1, 3) := by decide +kernel
theorem dX10_secondsOfChanges_41 : decode cX10_secondsOfChanges 41 = .ok (.goto (-37), 3) := by decide +kernel
theorem dX10_secondsOfChanges_44 : decode cX10_secondsOfChanges 44 = .ok (.iload_n 1, 1) := by decide +kernel
theorem dX10_secondsOfChanges_45 : decode cX10_secondsOfChanges 45 = .ok (.ireturn, 1) := by decide +kernel
end
section
/-! THE WORLD BY TAGS: the two objects and all that they hold are 108 cells; cell k lies at address E.1 k; what it holds of numbers is the row G k (an int array: its numbers; an object: its int fields by their slots). A method's work is a change of G. -/
abbrev zG : Type := Nat → Nat → Int32
abbrev zE : Type := (Nat → Nat) × (ClassId × ClassId × ClassId) × va_G
def zT : List (Nat × Nat) := [(9,11),
  (3,3),(1,4),(11,10),(11,10),(11,10),(12,5),(0,2),(11,4),(11,10),(0,2),(11,4),(11,10),(0,2),(11,4),(11,10),(0,2),(11,4),(11,10),(0,2),(11,4),(11,10),
  (3,3),(1,4),(11,10),(11,10),(11,10),(12,5),(0,2),(11,4),(11,10),(0,2),(11,4),(11,10),(0,2),(11,4),(11,10),(0,2),(11,4),(11,10),(0,2),(11,4),(11,10),
  (7,2),(11,96),(6,2),(11,12),(11,7),
  (8,6),(1,4),(11,10),(11,10),(11,10),(0,2),(11,4),(11,10),(11,10),(11,10),(11,10),
  (8,6),(1,4),(11,10),(11,10),(11,10),(0,2),(11,4),(11,10),(11,10),(11,10),(11,10),
  (5,8),(11,10),(11,10),(11,10),(13,11),(11,100),(11,100),(11,100),(11,100),(11,100),(11,100),(11,100),(11,100),(11,100),(11,100),(11,100),(11,3100),(11,3100),
  (2,2),(11,4),(11,4),(4,2),
  (10,21),(11,102),(11,102),(11,102),(11,102),(11,96),(11,12),(11,7),(11,10),(11,10),(11,10),(11,12),(11,10),(11,1100),(11,3100),(11,3100)]
def zk (k : Nat) : Nat := (zT.getD k (99, 0)).1
def zl (k : Nat) : Nat := (zT.getD k (99, 0)).2
theorem zk_lt {k c : Nat} (h : zk k = c) (hc : c < 99) : k < 108 := by
  rcases Nat.lt_or_ge k 108 with q | q
  · exact q
  · have : zk k = 99 := by
      unfold zk
      rw [List.getD_eq_getElem?_getD, List.getElem?_eq_none (by exact q)]
      rfl
    omega
/-- what lies in cell k, whose row is f -/
def zd (E : zE) (k : Nat) (f : Nat → Int32) : va_E := match zk k with
  | 0 => .inr (0, [.ref (E.1 (k + 1)), .ref (E.1 (k + 2))])
  | 1 => .inr (1, [.int (f 0), .ref (E.1 (k + 1)), .ref (E.1 (k + 2)), .ref (E.1 (k + 3))])
  | 2 => .inr (2, [.ref (E.1 (k + 1)), .ref (E.1 (k + 2))])
  | 3 => .inr (3, [.ref (E.1 (k + 1)), .ref (E.1 (k + 5)), .int (f 2)])
  | 4 => .inr (4, [.int (f 0), .int (f 1)])
  | 5 => .inr (5, [.int (f 0), .int (f 1), .ref (E.1 (k + 1)), .ref (E.1 (k + 2)), .ref (E.1 (k + 3)), .ref (E.1 (k + 4)), .ref (E.1 (k + 16 + (f 6).toNatClampNeg)), .ref (E.1 (k + 16 + (f 7).toNatClampNeg))])
  | 6 => .inr (6, [.int (f 0), .ref (E.1 (k + 1))])
  | 7 => .inr (7, [.int (f 0), .ref (E.1 (k + 1))])
  | 8 => .inr (8, [.ref (E.1 (k + 1)), .ref (E.1 (k + 5)), .int (f 2), .ref (E.1 (k + 8)), .ref (E.1 (k + 9)), .ref (E.1 (k + 10))])
  | 9 => .inr (9, [.ref (E.1 (k + 1)), .ref (E.1 (k + 22)), .int (f 2), .ref (E.1 (k + 43)), .ref (E.1 (k + 45)), .ref (E.1 (k + 47)), .ref (E.1 (k + 48)), .ref (E.1 (k + 59)), .ref (E.1 (k + 70)), .ref (E.1 (k + 88)), .ref (E.1 (k + 91))])
  | 10 => .inr (10, [.ref (E.1 (k + 1)), .ref (E.1 (k + 2)), .ref (E.1 (k + 3)), .ref (E.1 (k + 4)), .int (f 4), .ref (E.1 (k + 5)), .ref (E.1 (k + 6)), .ref (E.1 (k + 7)), .int (f 8), .int (f 9), .ref (E.1 (k + 8)), .ref (E.1 (k + 9)), .ref (E.1 (k + 10)), .int (f 13), .ref (E.1 (k + 11)), .int (f 15), .ref (E.1 (k + 12)), .ref (E.1 (k + 13)), .ref (E.1 (k + 14)), .ref (E.1 (k + 15)), .int (f 20)])
  | 11 => .inl (E.2.1.1, zl k, .inl f)
  | 12 => .inl (E.2.1.2.1, 5, .inr (.inr (.inr (.inr (fun i => if i < 5 then some (E.1 (k + 1 + 3 * i)) else none)))))
  | _ => .inl (E.2.1.2.2, 11, .inr (.inr (.inr (.inr (fun i => if i < 11 then some (E.1 (k + 1 + i)) else none)))))
theorem zd_0 (E : zE) {k : Nat} (h : zk k = 0) (f : Nat → Int32) : zd E k f = .inr (0, [.ref (E.1 (k + 1)), .ref (E.1 (k + 2))]) := by simp only [zd, h]
theorem zd_1 (E : zE) {k : Nat} (h : zk k = 1) (f : Nat → Int32) : zd E k f = .inr (1, [.int (f 0), .ref (E.1 (k + 1)), .ref (E.1 (k + 2)), .ref (E.1 (k + 3))]) := by simp only [zd, h]
theorem zd_2 (E : zE) {k : Nat} (h : zk k = 2) (f : Nat → Int32) : zd E k f = .inr (2, [.ref (E.1 (k + 1)), .ref (E.1 (k + 2))]) := by simp only [zd, h]
theorem zd_3 (E : zE) {k : Nat} (h : zk k = 3) (f : Nat → Int32) : zd E k f = .inr (3, [.ref (E.1 (k + 1)), .ref (E.1 (k + 5)), .int (f 2)]) := by simp only [zd, h]
theorem zd_4 (E : zE) {k : Nat} (h : zk k = 4) (f : Nat → Int32) : zd E k f = .inr (4, [.int (f 0), .int (f 1)]) := by simp only [zd, h]
theorem zd_5 (E : zE) {k : Nat} (h : zk k = 5) (f : Nat → Int32) : zd E k f = .inr (5, [.int (f 0), .int (f 1), .ref (E.1 (k + 1)), .ref (E.1 (k + 2)), .ref (E.1 (k + 3)), .ref (E.1 (k + 4)), .ref (E.1 (k + 16 + (f 6).toNatClampNeg)), .ref (E.1 (k + 16 + (f 7).toNatClampNeg))]) := by simp only [zd, h]
theorem zd_6 (E : zE) {k : Nat} (h : zk k = 6) (f : Nat → Int32) : zd E k f = .inr (6, [.int (f 0), .ref (E.1 (k + 1))]) := by simp only [zd, h]
theorem zd_7 (E : zE) {k : Nat} (h : zk k = 7) (f : Nat → Int32) : zd E k f = .inr (7, [.int (f 0), .ref (E.1 (k + 1))]) := by simp only [zd, h]
theorem zd_8 (E : zE) {k : Nat} (h : zk k = 8) (f : Nat → Int32) : zd E k f = .inr (8, [.ref (E.1 (k + 1)), .ref (E.1 (k + 5)), .int (f 2), .ref (E.1 (k + 8)), .ref (E.1 (k + 9)), .ref (E.1 (k + 10))]) := by simp only [zd, h]
theorem zd_9 (E : zE) {k : Nat} (h : zk k = 9) (f : Nat → Int32) : zd E k f = .inr (9, [.ref (E.1 (k + 1)), .ref (E.1 (k + 22)), .int (f 2), .ref (E.1 (k + 43)), .ref (E.1 (k + 45)), .ref (E.1 (k + 47)), .ref (E.1 (k + 48)), .ref (E.1 (k + 59)), .ref (E.1 (k + 70)), .ref (E.1 (k + 88)), .ref (E.1 (k + 91))]) := by simp only [zd, h]
theorem zd_10 (E : zE) {k : Nat} (h : zk k = 10) (f : Nat → Int32) : zd E k f = .inr (10, [.ref (E.1 (k + 1)), .ref (E.1 (k + 2)), .ref (E.1 (k + 3)), .ref (E.1 (k + 4)), .int (f 4), .ref (E.1 (k + 5)), .ref (E.1 (k + 6)), .ref (E.1 (k + 7)), .int (f 8), .int (f 9), .ref (E.1 (k + 8)), .ref (E.1 (k + 9)), .ref (E.1 (k + 10)), .int (f 13), .ref (E.1 (k + 11)), .int (f 15), .ref (E.1 (k + 12)), .ref (E.1 (k + 13)), .ref (E.1 (k + 14)), .ref (E.1 (k + 15)), .int (f 20)]) := by simp only [zd, h]
theorem zd_11 (E : zE) {k : Nat} (h : zk k = 11) (f : Nat → Int32) : zd E k f = .inl (E.2.1.1, zl k, .inl f) := by simp only [zd, h]
theorem zd_12 (E : zE) {k : Nat} (h : zk k = 12) (f : Nat → Int32) : zd E k f = .inl (E.2.1.2.1, 5, .inr (.inr (.inr (.inr (fun i => if i < 5 then some (E.1 (k + 1 + 3 * i)) else none))))) := by simp only [zd, h]
theorem zd_13 (E : zE) {k : Nat} (h : zk k = 13) (f : Nat → Int32) : zd E k f = .inl (E.2.1.2.2, 11, .inr (.inr (.inr (.inr (fun i => if i < 11 then some (E.1 (k + 1 + i)) else none))))) := by simp only [zd, h]
def zW (E : zE) (G : zG) : va_W := (List.range 108).map (fun k => (E.1 k, zd E k (G k)))
theorem zW_at (E : zE) (G : zG) {k : Nat} (h : k < 108) : (zW E G)[k]? = some (E.1 k, zd E k (G k)) := by
  simp [zW, List.getElem?_map, List.getElem?_range h]
theorem zW_in (E : zE) (G : zG) {k : Nat} {q : Nat × va_E} (h : (zW E G)[k]? = some q) : k < 108 ∧ q = (E.1 k, zd E k (G k)) := by
  have h1 : k < 108 := by
    have := (List.getElem?_eq_some_iff.mp h).1
    simpa [zW] using this
  exact ⟨h1, by have := (zW_at E G h1).symm.trans h; exact (Option.some.inj this).symm⟩
/-- row k becomes f -/
def g1 (G : zG) (k : Nat) (f : Nat → Int32) : zG := fun j => if j = k then f else G j
theorem g1_s (G : zG) (k : Nat) (f : Nat → Int32) : g1 G k f k = f := if_pos rfl
theorem g1_n {G : zG} {k j : Nat} {f : Nat → Int32} (h : j ≠ k) : g1 G k f j = G j := if_neg h
theorem zW_set (E : zE) (G : zG) {k : Nat} (h : k < 108) (f : Nat → Int32) : (zW E G).set k (E.1 k, zd E k f) = zW E (g1 G k f) := by
  apply List.ext_getElem?
  intro j
  by_cases hj : j < 108
  · rw [zW_at E _ hj, List.getElem?_set]
    by_cases e : k = j
    · subst e
      rw [if_pos rfl, if_pos (by simpa [zW] using h), g1_s]
    · rw [if_neg e, zW_at E _ hj, g1_n (fun q => e q.symm)]
  · rw [List.getElem?_eq_none (by simp [zW]; omega), List.getElem?_eq_none (by simp [zW]; omega)]
def zP (E : zE) (G : zG) (H : Heap) : Prop := va_P E.2.2 vwCl (zW E G) H
def zy (E : zE) : List (ClassId × FieldType) := [(E.2.1.1, .int), (E.2.1.2.1, .object "WetSuitPedalsShoes$Athlete"), (E.2.1.2.2, .array .int)]
def zK (E : zE) (U : State) : Prop := va_K E.2.2 vwCl (zy E) U
/-- the addresses are apart, and of a kind -/
def zD (E : zE) (A : Nat → Prop) : Prop := (∀ i j : Nat, i < 108 → j < 108 → E.1 i = E.1 j → i = j) ∧ ∀ k : Nat, k < 108 → A (E.1 k)
theorem zD_va {E : zE} {A : Nat → Prop} (h : zD E A) (G : zG) : va_D A (zW E G) := by
  refine ⟨fun i j p q hi hj e => ?_, fun k q hk => ?_⟩
  · obtain ⟨h1, rfl⟩ := zW_in E G hi
    obtain ⟨h2, rfl⟩ := zW_in E G hj
    exact h.1 i j h1 h2 e
  · obtain ⟨h1, rfl⟩ := zW_in E G hk
    exact h.2 k h1
def zA (E : zE) (sz : Nat) : Nat → Prop := fun q => (∃ k : Nat, k < 108 ∧ q = E.1 k) ∨ sz ≤ q
theorem zD_self {E : zE} {A : Nat → Prop} (h : zD E A) (sz : Nat) : zD E (zA E sz) := ⟨h.1, fun k hk => Or.inl ⟨k, hk, rfl⟩⟩
/-- a method's start, and its ends -/
def zPc (E : zE) (G : zG) (sz : Nat) (av : List Value) : Array Value → State → Prop := va_Pc av (fun U => U.heap.size = sz ∧ zP E G U.heap ∧ zK E U ∧ zD E (fun _ => True))
def zB (E : zE) : zG → State → Prop := fun G t => zP E G t.heap ∧ zK E t
def zMi (l : Launch) (y : MethodName) (ws : List Cond) (rm : Room) (E : zE) (G : zG) (av : List Value) (post : Int32 → zG → Prop) : Prop := ∀ sz : Nat, Met l y ws rm (zPc E G sz av) (va_Qi post (zB E) (zA E sz)) 0 0 (zA E sz)
def zMl (l : Launch) (y : MethodName) (ws : List Cond) (rm : Room) (E : zE) (G : zG) (av : List Value) (post : Int64 → zG → Prop) : Prop := ∀ sz : Nat, Met l y ws rm (zPc E G sz av) (va_Ql post (zB E) (zA E sz)) 0 0 (zA E sz)
def zMv (l : Launch) (y : MethodName) (ws : List Cond) (rm : Room) (E : zE) (G : zG) (av : List Value) (post : zG → Prop) : Prop := ∀ sz : Nat, Met l y ws rm (zPc E G sz av) (va_Qv post (zB E) (zA E sz)) 0 0 (zA E sz)
theorem zPc_blind (E : zE) (G : zG) (sz : Nat) (av : List Value) : FrameBlind (zPc E G sz av) := fun a U g mk q => by
  obtain ⟨q0, q1, qP, qK, qD⟩ := q
  exact ⟨q0, q1, qP, va_K.moved (u := U) (U := U.calling g mk a) (Vm.Alike.refl U.vm) qK, qD⟩
/-- what a method's walk leans on -/
abbrev zC (p : Program) (s : State) (m : MethodId) (args : Array Value) (meth : Method) (c : Code) (cc : ByteArray) (nL : Nat) (ret : Option FieldType) (ws : List Cond) (own : String) (E : zE) : Prop :=
  p.tables.exec = Jvm.exec ∧ c.code = cc ∧ c.maxLocals = nL ∧ s.vm.findClass own = some m.cls ∧ (∀ w ∈ ws, w.before args s = true) ∧ meth.sig.returnType = ret ∧ meth.locks = false ∧ zK E s ∧ zD E (zA E s.heap.size)
def zBody (l : Launch) (cc : ByteArray) (nL : Nat) (ret : Option FieldType) (ws : List Cond) (own : String) (rm : Room) (E : zE) (G : zG) (av : List Value) (Qc : Nat → Array Value → State → Outcome → State → Prop) : Prop :=
  ∀ (p : Program) (e : Env) (s : State) (m : MethodId) (args : Array Value) (below : List Frame) (meth : Method) (c : Code) (ls : Array Slot), zC p s m args meth c cc nL ret ws own E → zP E G s.heap → va_S (zA E s.heap.size) s.heap s.heap [] → lv_has ls nL (lv_args 0 av) →
    W p l e rm s m args below meth c s.heap [] 0 0 (MQ below (Qc s.heap.size) args s 0 0 (zA E s.heap.size)) (F0 m 0 ls [])
theorem zOf {l : Launch} {y : MethodName} {ws ws' : List Cond} {rm : Room} {E : zE} {G : zG} {av : List Value} {Qc : Nat → Array Value → State → Outcome → State → Prop} {cc : ByteArray} {nL : Nat} {ret : Option FieldType} (own : String)
    (hy : plainName y.cls = true) (hw : ws = Cond.code y cc nL ret :: ws') (ho : y.cls = own) (hn : (lg_sl av).length ≤ nL) (h : zBody l cc nL ret ws own rm E G av Qc) : ∀ sz : Nat, Met l y ws rm (zPc E G sz av) (Qc sz) 0 0 (zA E sz) := by
  intro sz
  refine Met.ofW (cc := cc) (maxL := nL) (ret := ret) hy hw ?_
  intro p e s m args below meth c s₁ B hml hv
  obtain ⟨rfl, hsz, hP, hK, hD0⟩ := hv
  subst hsz
  have hown : s.vm.findClass own = some m.cls := by rw [← ho]; exact findClass_of_methodNamed B.named
  rw [lg_entry_eq]
  exact h p e s m _ below meth c _ ⟨B.exec, B.bytes, hml, hown, atoms_spec (ws := ws) B.pre, B.returns, B.notSynchronized, hK, zD_self hD0 _⟩ hP va_S.rf (lv_entry av hn)
section ZR
variable {p : Program} {l : Launch} {e : Env} {R : Room} {s : State} {m : MethodId} {args : Array Value} {below : List Frame} {meth : Method} {c : Code} {H : Heap} {locs : List Loc} {cells slots : Nat} {Q : State → Prop}
variable {cc : ByteArray} {pc : Nat} {ls : Array Slot} {rest : List Value} {E : zE} {G : zG} {A : Nat → Prop} {H0 : Heap} {ret : Option FieldType} {ws : List Cond} {own : String} {nL : Nat}
theorem z_get (C0 : zC p s m args meth c cc nL ret ws own E) (hP : zP E G H) {ref C : String} {T : u_T} {N ci index k : Nat} {fs : List Value} (hk : k < 108) (hz : zd E k (G k) = .inr (ci, fs)) (hc : vwCl[ci]? = some (C, T, N)) (hin : ∀ w ∈ u_ws C T N, w ∈ ws) (j : Nat) (hj : j < N) (hlink : Cond.fieldLink own index ref (T j).2.1 (T j).2.2.1 ∈ ws) (hsame : (T j).1 = ref) {v : Value} (hv : fs[j]? = some v) (hdg : decode cc pc = .ok (.getfield index, 3))
    (kk : W p l e R s m args below meth c H locs cells slots Q (F0 m (pc + 3) ls (v :: rest))) : W p l e R s m args below meth c H locs cells slots Q (F0 m pc ls (.ref (E.1 k) :: rest)) :=
  va_get C0.1 C0.2.1 C0.2.2.2.2.1 hin C0.2.2.2.1 C0.2.2.2.2.2.2.2.1 hP k ((zW_at E G hk).trans (by rw [hz])) hc j hj (C0.2.2.2.2.1 _ hlink) (fun x h => by rw [← hsame]; exact h) hv hdg kk
theorem z_put (C0 : zC p s m args meth c cc nL ret ws own E) (hP : zP E G H) (hD : zD E A) (hS : va_S A H0 H locs) {ref C : String} {T : u_T} {N ci index k : Nat} {fs : List Value} {F : Nat → Int32} (hF : G k = F) (ty0 : Nat → FieldType) (hty : ∀ k, k < N → parseFieldDescriptor (T k).2.2.1 = some (ty0 k)) (hnm : ∀ a, a < N → ∀ b, b < N → a ≠ b → (T a).2.1 ≠ (T b).2.1) (hk : k < 108) (hz : zd E k F = .inr (ci, fs)) (hc : vwCl[ci]? = some (C, T, N)) (hin : ∀ w ∈ u_ws C T N, w ∈ ws) (j : Nat) (hj : j < N) (hlink : Cond.fieldLink own index ref (T j).2.1 (T j).2.2.1 ∈ ws) (hsame : (T j).1 = ref) (hfin : (T j).2.2.2 = false) {ty : FieldType} {v : Value} (hd : parseFieldDescriptor (T j).2.2.1 = some ty) (hn : narrow ty v = v) (hfit : fits ty v = true) (hl : j < fs.length) (f : Nat → Int32) (hf : zd E k f = .inr (ci, fs.set j v)) (hdg : decode cc pc = .ok (.putfield index, 3))
    (kk : ∀ (H1 : Heap) (locs1 : List Loc), zP E (g1 G k f) H1 → va_S A H0 H1 locs1 → W p l e R s m args below meth c H1 locs1 cells slots Q (F0 m (pc + 3) ls rest)) : W p l e R s m args below meth c H locs cells slots Q (F0 m pc ls (v :: .ref (E.1 k) :: rest)) :=
  va_put C0.1 C0.2.1 C0.2.2.2.2.1 hin ty0 hty hnm C0.2.2.2.1 C0.2.2.2.2.2.2.2.1 hP (zD_va hD G) hS k ((zW_at E G hk).trans (by rw [hF, hz])) hc j hj (C0.2.2.2.2.1 _ hlink) (fun x h => by rw [← hsame]; exact h) hfin hd hn hfit hl hdg
    (fun H1 locs1 h1 _ h3 => kk H1 locs1 (by unfold zP; rw [← zW_set E G hk f, hf]; exact h1) h3)
theorem z_iald (C0 : zC p s m args meth c cc nL ret ws own E) (hP : zP E G H) {k i : Nat} {x : Int32} (hk : zk k = 11) (hi : i < zl k) (hx : x = nI i) (hdg : decode cc pc = .ok (.iaload, 1)) {v : Int32} (hv : G k i = v)
    (kk : W p l e R s m args below meth c H locs cells slots Q (F0 m (pc + 1) ls (.int v :: rest))) : W p l e R s m args below meth c H locs cells slots Q (F0 m pc ls (.int x :: .ref (E.1 k) :: rest)) := by
  subst hx
  have hl : zl k < 2 ^ 31 := by
    have : ∀ j, j < 108 → zl j < 4000 := by decide +kernel
    have := this k (zk_lt hk (by decide))
    omega
  refine va_iald C0.1 C0.2.1 C0.2.2.2.2.2.2.2.1 hP k 0 ((zW_at E G (zk_lt hk (by decide))).trans (by rw [zd_11 E hk])) rfl (vp_in_nI hi hl) hdg ?_
  rw [nI_clamp (by omega), hv]
  exact kk
theorem z_iast (C0 : zC p s m args meth c cc nL ret ws own E) (hP : zP E G H) (hD : zD E A) (hS : va_S A H0 H locs) {k i : Nat} {x v : Int32} {F : Nat → Int32} (hF : G k = F) (hk : zk k = 11) (hi : i < zl k) (hx : x = nI i) (hdg : decode cc pc = .ok (.iastore, 1))
    (kk : ∀ (H1 : Heap) (locs1 : List Loc), zP E (g1 G k (upd F i v)) H1 → va_S A H0 H1 locs1 → W p l e R s m args below meth c H1 locs1 cells slots Q (F0 m (pc + 1) ls rest)) : W p l e R s m args below meth c H locs cells slots Q (F0 m pc ls (.int v :: .int x :: .ref (E.1 k) :: rest)) := by
  subst hx
  subst hF
  have hl : zl k < 2 ^ 31 := by
    have : ∀ j, j < 108 → zl j < 4000 := by decide +kernel
    have := this k (zk_lt hk (by decide))
    omega
  have hk1 := zk_lt hk (by decide)
  refine va_iast C0.1 C0.2.1 C0.2.2.2.2.2.2.2.1 hP (zD_va hD G) hS k 0 ((zW_at E G hk1).trans (by rw [zd_11 E hk])) rfl (vp_in_nI hi hl) hdg (fun H1 locs1 h1 _ h3 => kk H1 locs1 ?_ h3)
  rw [nI_clamp (by omega)] at h1
  unfold zP
  rw [← zW_set E G hk1, zd_11 E hk]
  exact h1
theorem z_aald (C0 : zC p s m args meth c cc nL ret ws own E) (hP : zP E G H) {k i : Nat} {x : Int32} (hk : zk k = 12) (hi : i < 5) (hx : x = nI i) (hdg : decode cc pc = .ok (.aaload, 1))
    (kk : ∀ a : Nat, a = k + 1 + 3 * i → W p l e R s m args below meth c H locs cells slots Q (F0 m (pc + 1) ls (.ref (E.1 a) :: rest))) : W p l e R s m args below meth c H locs cells slots Q (F0 m pc ls (.int x :: .ref (E.1 k) :: rest)) := by
  subst hx
  refine va_aldq C0.1 C0.2.1 C0.2.2.2.2.2.2.2.1 hP k 1 ((zW_at E G (zk_lt hk (by decide))).trans (by rw [zd_12 E hk])) rfl (vp_in_nI hi (by omega)) hdg ?_
  rw [nI_clamp (by omega), if_pos hi]
  exact kk _ rfl
theorem z_aald2 (C0 : zC p s m args meth c cc nL ret ws own E) (hP : zP E G H) {k i : Nat} {x : Int32} (hk : zk k = 13) (hi : i < 11) (hx : x = nI i) (hdg : decode cc pc = .ok (.aaload, 1))
    (kk : ∀ a : Nat, a = k + 1 + i → W p l e R s m args below meth c H locs cells slots Q (F0 m (pc + 1) ls (.ref (E.1 a) :: rest))) : W p l e R s m args below meth c H locs cells slots Q (F0 m pc ls (.int x :: .ref (E.1 k) :: rest)) := by
  subst hx
  have h13 := (zW_at E G (zk_lt hk (by decide))).trans (congrArg (fun z => some (E.1 k, z)) (zd_13 E hk (G k)))
  have hty : (zy E)[2]? = some (E.2.1.2.2, .array .int) := rfl
  have hlt : i < 11 := hi
  have hcell := hP k _ h13
  refine W.aald (v := .ref (E.1 (k + 1 + i))) (ty := .array .int) C0.1 C0.2.1 hcell ((C0.2.2.2.2.2.2.2.1.2 2 _ hty).1 11 (fun j => va_rf (if j < 11 then some (E.1 (k + 1 + j)) else none))) rfl (fun q => by cases q) ?_ ?_ rfl rfl hdg (kk _ rfl)
  · show ¬ (nI i < 0 ∨ (arrV _ _ _).slots.size ≤ _)
    rw [arrV_size]
    exact vp_in_nI (N := 11) hlt (by omega)
  · show (arrV _ _ _).slots[_]? = _
    rw [nI_clamp (by omega), arrV_read _ _ hlt]
    simp [va_rf, hlt]
/-- calls -/
theorem z_recv (hK : zK E s) (hP : zP E G H) {k ci : Nat} {q : vw_C} {fs : List Value} (hk : k < 108) (hz : zd E k (G k) = .inr (ci, fs)) (hc : vwCl[ci]? = some q) : ∃ cell : Cell, H[E.1 k]? = some cell ∧ cell.vm.isStatics = false ∧ s.vm.findClass q.1 = some cell.cls :=
  va_recv hK hP hc ((zW_at E G hk).trans (by rw [hz]))
variable {y : MethodName} {bytes : ByteArray} {maxL n index : Nat} {ret' : Option FieldType} {ws' : List Cond} {rm : Room} {As st0 : List Value} {C : String}
theorem z_free (hD : zD E A) (hA : ∀ q, H0.size ≤ q → A q) (hS : va_S A H0 H locs) : ∀ q, zA E H.size q → A q := by
  intro q h
  rcases h with ⟨k, hk, rfl⟩ | h
  · exact hD.2 k hk
  · exact hA q (Nat.le_trans hS.1 h)
theorem z_pre (C0 : zC p s m args meth c cc nL ret ws own E) (hP : zP E G H) (av : List Value) : ∀ U : State, U.heap = H → s.WarmedH U.vm → zPc E G H.size av av.toArray U := fun U hU hW =>
  ⟨rfl, by rw [hU], by rw [hU]; exact hP, va_K.moved hW.alike C0.2.2.2.2.2.2.2.1, ⟨C0.2.2.2.2.2.2.2.2.1, fun _ _ => trivial⟩⟩
theorem z_Vi {post : Int32 → zG → Prop} (C0 : zC p s m args meth c cc nL ret ws own E) (hP : zP E G H) (hD : zD E A) (hA : ∀ q, H0.size ≤ q → A q) (hS : va_S A H0 H locs) {k ci : Nat} {q : vw_C} {fs : List Value} (hM : zMi l y ws' rm E G (.ref (E.1 k) :: As) post) (cw : CallW R s args own C index y bytes maxL ret' ws' rm 0 0 n) (hk : k < 108) (hz : zd E k (G k) = .inr (ci, fs)) (hc : vwCl[ci]? = some q) (hq : q.1 = C)
    (hn : As.length = n) (hls : ls.size = nL) (hst : st0 = As.reverse ++ .ref (E.1 k) :: rest) (hW : (rest.map fun v => v.category).sum ≤ 8) (hdg : decode cc pc = .ok (.invokevirtual index, 3)) (hcl : cells ≤ R.cells ∧ slots ≤ R.slots)
    (kk : ∀ (r : Int32) (G1 : zG) (H1 : Heap) (locs1 : List Loc), post r G1 → zP E G1 H1 → va_S A H0 H1 locs1 → W p l e R s m args below meth c H1 locs1 cells slots Q (F0 m (pc + 3) ls (.int r :: rest))) : W p l e R s m args below meth c H locs cells slots Q (F0 m pc ls st0) := by
  subst hq
  have hK := C0.2.2.2.2.2.2.2.1
  refine va_calli (va_runV (As := As) (rest := rest) ⟨C0.1, C0.2.1, C0.2.2.1, C0.2.2.2.1, C0.2.2.2.2.1⟩ (hM H.size) cw ⟨zPc_blind _ _ _ _, z_recv hK hP hk hz hc, z_pre C0 hP _⟩ rfl hn hls hst (lv_room hW) hdg hcl) hS (fun q _ h => z_free hD hA hS q h) (z_free hD hA hS) (fun r G1 t H1 locs1 ht _ hw hB _ _ hS1 => ?_)
  exact kk r G1 H1 locs1 hw (by rw [← ht]; exact hB.1) hS1
theorem z_Vl {post : Int64 → zG → Prop} (C0 : zC p s m args meth c cc nL ret ws own E) (hP : zP E G H) (hD : zD E A) (hA : ∀ q, H0.size ≤ q → A q) (hS : va_S A H0 H locs) {k ci : Nat} {q : vw_C} {fs : List Value} (hM : zMl l y ws' rm E G (.ref (E.1 k) :: As) post) (cw : CallW R s args own C index y bytes maxL ret' ws' rm 0 0 n) (hk : k < 108) (hz : zd E k (G k) = .inr (ci, fs)) (hc : vwCl[ci]? = some q) (hq : q.1 = C)
    (hn : As.length = n) (hls : ls.size = nL) (hst : st0 = As.reverse ++ .ref (E.1 k) :: rest) (hW : (rest.map fun v => v.category).sum ≤ 8) (hdg : decode cc pc = .ok (.invokevirtual index, 3)) (hcl : cells ≤ R.cells ∧ slots ≤ R.slots)
    (kk : ∀ (r : Int64) (G1 : zG) (H1 : Heap) (locs1 : List Loc), post r G1 → zP E G1 H1 → va_S A H0 H1 locs1 → W p l e R s m args below meth c H1 locs1 cells slots Q (F0 m (pc + 3) ls (.long r :: rest))) : W p l e R s m args below meth c H locs cells slots Q (F0 m pc ls st0) := by
  subst hq
  have hK := C0.2.2.2.2.2.2.2.1
  refine va_calll (va_runV (As := As) (rest := rest) ⟨C0.1, C0.2.1, C0.2.2.1, C0.2.2.2.1, C0.2.2.2.2.1⟩ (hM H.size) cw ⟨zPc_blind _ _ _ _, z_recv hK hP hk hz hc, z_pre C0 hP _⟩ rfl hn hls hst (lv_room hW) hdg hcl) hS (fun q _ h => z_free hD hA hS q h) (z_free hD hA hS) (fun r G1 t H1 locs1 ht _ hw hB _ _ hS1 => ?_)
  exact kk r G1 H1 locs1 hw (by rw [← ht]; exact hB.1) hS1
theorem z_Vv {post : zG → Prop} (C0 : zC p s m args meth c cc nL ret ws own E) (hP : zP E G H) (hD : zD E A) (hA : ∀ q, H0.size ≤ q → A q) (hS : va_S A H0 H locs) {k ci : Nat} {q : vw_C} {fs : List Value} (hM : zMv l y ws' rm E G (.ref (E.1 k) :: As) post) (cw : CallW R s args own C index y bytes maxL ret' ws' rm 0 0 n) (hk : k < 108) (hz : zd E k (G k) = .inr (ci, fs)) (hc : vwCl[ci]? = some q) (hq : q.1 = C)
    (hn : As.length = n) (hls : ls.size = nL) (hst : st0 = As.reverse ++ .ref (E.1 k) :: rest) (hW : (rest.map fun v => v.category).sum ≤ 8) (hdg : decode cc pc = .ok (.invokevirtual index, 3)) (hcl : cells ≤ R.cells ∧ slots ≤ R.slots)
    (kk : ∀ (G1 : zG) (H1 : Heap) (locs1 : List Loc), post G1 → zP E G1 H1 → va_S A H0 H1 locs1 → W p l e R s m args below meth c H1 locs1 cells slots Q (F0 m (pc + 3) ls rest)) : W p l e R s m args below meth c H locs cells slots Q (F0 m pc ls st0) := by
  subst hq
  have hK := C0.2.2.2.2.2.2.2.1
  refine va_callv (va_runV (As := As) (rest := rest) ⟨C0.1, C0.2.1, C0.2.2.1, C0.2.2.2.1, C0.2.2.2.2.1⟩ (hM H.size) cw ⟨zPc_blind _ _ _ _, z_recv hK hP hk hz hc, z_pre C0 hP _⟩ rfl hn hls hst (lv_room hW) hdg hcl) hS (fun q _ h => z_free hD hA hS q h) (z_free hD hA hS) (fun G1 t H1 locs1 ht _ hw hB _ _ hS1 => ?_)
  exact kk G1 H1 locs1 hw (by rw [← ht]; exact hB.1) hS1
theorem z_Si {post : Int32 → zG → Prop} (C0 : zC p s m args meth c cc nL ret ws own E) (hP : zP E G H) (hD : zD E A) (hA : ∀ q, H0.size ≤ q → A q) (hS : va_S A H0 H locs) (hM : zMi l y ws' rm E G As post) (cw : CallB R s args own index y bytes maxL ret' ws' rm 0 0 n ∧ (Cond.static y).before args s = true)
    (hn : As.length = n) (hls : ls.size = nL) (hst : st0 = As.reverse ++ rest) (hW : (rest.map fun v => v.category).sum ≤ 8) (hdg : decode cc pc = .ok (.invokestatic index, 3)) (hcl : cells ≤ R.cells ∧ slots ≤ R.slots)
    (kk : ∀ (r : Int32) (G1 : zG) (H1 : Heap) (locs1 : List Loc), post r G1 → zP E G1 H1 → va_S A H0 H1 locs1 → W p l e R s m args below meth c H1 locs1 cells slots Q (F0 m (pc + 3) ls (.int r :: rest))) : W p l e R s m args below meth c H locs cells slots Q (F0 m pc ls st0) := by
  refine va_calli (va_runS (As := As) (rest := rest) ⟨C0.1, C0.2.1, C0.2.2.1, C0.2.2.2.1, C0.2.2.2.2.1⟩ (hM H.size) cw ⟨zPc_blind _ _ _ _, z_pre C0 hP _⟩ rfl hn hls hst (lv_room hW) hdg hcl) hS (fun q _ h => z_free hD hA hS q h) (z_free hD hA hS) (fun r G1 t H1 locs1 ht _ hw hB _ _ hS1 => ?_)
  exact kk r G1 H1 locs1 hw (by rw [← ht]; exact hB.1) hS1
theorem z_Sl {post : Int64 → zG → Prop} (C0 : zC p s m args meth c cc nL ret ws own E) (hP : zP E G H) (hD : zD E A) (hA : ∀ q, H0.size ≤ q → A q) (hS : va_S A H0 H locs) (hM : zMl l y ws' rm E G As post) (cw : CallB R s args own index y bytes maxL ret' ws' rm 0 0 n ∧ (Cond.static y).before args s = true)
    (hn : As.length = n) (hls : ls.size = nL) (hst : st0 = As.reverse ++ rest) (hW : (rest.map fun v => v.category).sum ≤ 8) (hdg : decode cc pc = .ok (.invokestatic index, 3)) (hcl : cells ≤ R.cells ∧ slots ≤ R.slots)
    (kk : ∀ (r : Int64) (G1 : zG) (H1 : Heap) (locs1 : List Loc), post r G1 → zP E G1 H1 → va_S A H0 H1 locs1 → W p l e R s m args below meth c H1 locs1 cells slots Q (F0 m (pc + 3) ls (.long r :: rest))) : W p l e R s m args below meth c H locs cells slots Q (F0 m pc ls st0) := by
  refine va_calll (va_runS (As := As) (rest := rest) ⟨C0.1, C0.2.1, C0.2.2.1, C0.2.2.2.1, C0.2.2.2.2.1⟩ (hM H.size) cw ⟨zPc_blind _ _ _ _, z_pre C0 hP _⟩ rfl hn hls hst (lv_room hW) hdg hcl) hS (fun q _ h => z_free hD hA hS q h) (z_free hD hA hS) (fun r G1 t H1 locs1 ht _ hw hB _ _ hS1 => ?_)
  exact kk r G1 H1 locs1 hw (by rw [← ht]; exact hB.1) hS1
theorem z_Sv {post : zG → Prop} (C0 : zC p s m args meth c cc nL ret ws own E) (hP : zP E G H) (hD : zD E A) (hA : ∀ q, H0.size ≤ q → A q) (hS : va_S A H0 H locs) (hM : zMv l y ws' rm E G As post) (cw : CallB R s args own index y bytes maxL ret' ws' rm 0 0 n ∧ (Cond.static y).before args s = true)
    (hn : As.length = n) (hls : ls.size = nL) (hst : st0 = As.reverse ++ rest) (hW : (rest.map fun v => v.category).sum ≤ 8) (hdg : decode cc pc = .ok (.invokestatic index, 3)) (hcl : cells ≤ R.cells ∧ slots ≤ R.slots)
    (kk : ∀ (G1 : zG) (H1 : Heap) (locs1 : List Loc), post G1 → zP E G1 H1 → va_S A H0 H1 locs1 → W p l e R s m args below meth c H1 locs1 cells slots Q (F0 m (pc + 3) ls rest)) : W p l e R s m args below meth c H locs cells slots Q (F0 m pc ls st0) := by
  refine va_callv (va_runS (As := As) (rest := rest) ⟨C0.1, C0.2.1, C0.2.2.1, C0.2.2.2.1, C0.2.2.2.2.1⟩ (hM H.size) cw ⟨zPc_blind _ _ _ _, z_pre C0 hP _⟩ rfl hn hls hst (lv_room hW) hdg hcl) hS (fun q _ h => z_free hD hA hS q h) (z_free hD hA hS) (fun G1 t H1 locs1 ht _ hw hB _ _ hS1 => ?_)
  exact kk G1 H1 locs1 hw (by rw [← ht]; exact hB.1) hS1
/-- ends -/
theorem z_iret {post : Int32 → zG → Prop} (C0 : zC p s m args meth c cc nL (some .int) ws own E) (hP : zP E G H) (hS : va_S (zA E s.heap.size) s.heap H locs) {v : Int32} (hp : post v G) (hdg : decode cc pc = .ok (.ireturn, 1)) : W p l e R s m args below meth c H locs 0 0 (MQ below (va_Qi post (zB E) (zA E s.heap.size)) args s 0 0 (zA E s.heap.size)) (F0 m pc ls [.int v]) :=
  W.iret C0.1 C0.2.1 C0.2.2.2.2.2.1 (fun t ht hW => ⟨⟨v, G, rfl, hp, by rw [ht]; exact hP, va_K.moved hW.alike C0.2.2.2.2.2.2.2.1⟩, hS.F ht⟩) hS.2.2 hdg C0.2.2.2.2.2.2.1
theorem z_zret {post : Int32 → zG → Prop} (C0 : zC p s m args meth c cc nL (some .boolean) ws own E) (hP : zP E G H) (hS : va_S (zA E s.heap.size) s.heap H locs) {v : Int32} (hv : v = 0 ∨ v = 1) (hp : post v G) (hdg : decode cc pc = .ok (.ireturn, 1)) : W p l e R s m args below meth c H locs 0 0 (MQ below (va_Qi post (zB E) (zA E s.heap.size)) args s 0 0 (zA E s.heap.size)) (F0 m pc ls [.int v]) :=
  W.zret C0.1 C0.2.1 C0.2.2.2.2.2.1 (by rcases hv with rfl | rfl <;> rfl) (fun t ht hW => ⟨⟨v, G, rfl, hp, by rw [ht]; exact hP, va_K.moved hW.alike C0.2.2.2.2.2.2.2.1⟩, hS.F ht⟩) hS.2.2 hdg C0.2.2.2.2.2.2.1
theorem z_lret {post : Int64 → zG → Prop} (C0 : zC p s m args meth c cc nL (some .long) ws own E) (hP : zP E G H) (hS : va_S (zA E s.heap.size) s.heap H locs) {v : Int64} (hp : post v G) (hdg : decode cc pc = .ok (.lreturn, 1)) : W p l e R s m args below meth c H locs 0 0 (MQ below (va_Ql post (zB E) (zA E s.heap.size)) args s 0 0 (zA E s.heap.size)) (F0 m pc ls [.long v]) :=
  W.lret C0.1 C0.2.1 C0.2.2.2.2.2.1 (fun t ht hW => ⟨⟨v, G, rfl, hp, by rw [ht]; exact hP, va_K.moved hW.alike C0.2.2.2.2.2.2.2.1⟩, hS.F ht⟩) hS.2.2 hdg C0.2.2.2.2.2.2.1
theorem z_vret {post : zG → Prop} (C0 : zC p s m args meth c cc nL none ws own E) (hP : zP E G H) (hS : va_S (zA E s.heap.size) s.heap H locs) (hp : post G) (hdg : decode cc pc = .ok (.return_, 1)) : W p l e R s m args below meth c H locs 0 0 (MQ below (va_Qv post (zB E) (zA E s.heap.size)) args s 0 0 (zA E s.heap.size)) (F0 m pc ls []) :=
  W.vret C0.1 C0.2.1 C0.2.2.2.2.2.1 (fun t ht hW => ⟨⟨G, rfl, hp, by rw [ht]; exact hP, va_K.moved hW.alike C0.2.2.2.2.2.2.2.1⟩, hS.F ht⟩) hS.2.2 hdg C0.2.2.2.2.2.2.1
theorem z_gen {Q0 : State → Prop} {g : JFrame} (k : ∀ Q1 : State → Prop, Q1 = Q0 → W p l e R s m args below meth c H locs cells slots Q1 g) : W p l e R s m args below meth c H locs cells slots Q0 g := k Q0 rfl
theorem z_eqi {x y : Int32} (h : x = y) (k : W p l e R s m args below meth c H locs cells slots Q (F0 m pc ls (.int y :: rest))) : W p l e R s m args below meth c H locs cells slots Q (F0 m pc ls (.int x :: rest)) := by
  subst h
  exact k
theorem z_alen (C0 : zC p s m args meth c cc nL ret ws own E) (hP : zP E G H) {k : Nat} {v : Int32} (hk : zk k = 11) (hv : Int32.ofNat (zl k) = v) (hdg : decode cc pc = .ok (.arraylength, 1))
    (kk : W p l e R s m args below meth c H locs cells slots Q (F0 m (pc + 1) ls (.int v :: rest))) : W p l e R s m args below meth c H locs cells slots Q (F0 m pc ls (.ref (E.1 k) :: rest)) :=
  va_alen C0.1 C0.2.1 C0.2.2.2.2.2.2.2.1 hP k 0 (x := (zl k, .inl (G k))) ((zW_at E G (zk_lt hk (by decide))).trans (by rw [zd_11 E hk])) (ty := .int) rfl hv hdg kk
theorem z_copy (C0 : zC p s m args meth c cc nL ret ws own E) (hP : zP E G H) (hD : zD E A) (hS : va_S A H0 H locs) (hls : ls.size = nL) {k0 k sz index : Nat} {F0_ F : Nat → Int32} (hF0 : G k0 = F0_) (hF : G k = F) (hk0 : zk k0 = 11) (hk : zk k = 11) (h4 : sz ≤ zl k0) (h5 : sz ≤ zl k) (hsz : sz < 2 ^ 31)
    (hlink : (Cond.methodLink own index arraycopyName).before args s = true) (hnat : (Cond.native arraycopyName).before args s = true) (hstat : (Cond.static arraycopyName).before args s = true) (hini : (Cond.initialized "java/lang/System").before args s = true) (hframes : 1 ≤ R.frames) (hlocals : (rest.map fun v => v.category).sum + (nativeFrameWords "java/lang/System" "arraycopy" 5 + 11) ≤ R.locals) (hdg : decode cc pc = .ok (.invokestatic index, 3))
    {v : Int32} (hv : v = nI sz) (kk : ∀ (f : Nat → Int32) (_ : ∀ j, j < sz → f j = F0_ j) (H1 : Heap) (locs1 : List Loc), zP E (g1 G k f) H1 → va_S A H0 H1 locs1 → W p l e R s m args below meth c H1 locs1 cells slots Q (F0 m (pc + 3) ls rest)) : W p l e R s m args below meth c H locs cells slots Q (F0 m pc ls (.int v :: .int 0 :: .ref (E.1 k) :: .int 0 :: .ref (E.1 k0) :: rest)) := by
  subst hF0
  subst hF
  subst hv
  have hk01 := zk_lt hk0 (by decide)
  have hk1 := zk_lt hk (by decide)
  have hc0 : (0 : Int32).toNatClampNeg = 0 := rfl
  have hcn : (nI sz).toNatClampNeg = sz := nI_clamp hsz
  refine va_copyi C0.1 C0.2.1 (C0.2.2.1.trans hls.symm) C0.2.2.2.1 hlink hnat hstat hini C0.2.2.2.2.2.2.2.1 hP (zD_va hD G) hS k0 k 0 0 ((zW_at E G hk01).trans (by rw [zd_11 E hk0])) ((zW_at E G hk1).trans (by rw [zd_11 E hk])) rfl rfl rfl (by decide) (by decide) (nI_pos hsz) (by rw [hc0, hcn]; omega) (by rw [hc0, hcn]; omega) (fun _ _ => rfl) hframes hlocals hdg (fun H1 locs1 h1 _ h3 => ?_)
  rw [hc0, hcn] at h1
  refine kk _ (fun j hj => ?_) H1 locs1 (by unfold zP; rw [← zW_set E G hk1, zd_11 E hk]; exact h1) h3
  rw [pk_cpy_in (Nat.zero_le _) (by omega)]
  simp
/-- numbers that are Nat -/
theorem z_iadd (hx : p.tables.exec = Jvm.exec) (hb : c.code = cc) {a b n : Nat} {x y : Int32} (hdg : decode cc pc = .ok (.iadd, 1)) (ha : x = nI a) (hb2 : y = nI b) (hn : a + b = n)
    (k : W p l e R s m args below meth c H locs cells slots Q (F0 m (pc + 1) ls (.int (nI n) :: rest))) : W p l e R s m args below meth c H locs cells slots Q (F0 m pc ls (.int y :: .int x :: rest)) := by
  subst ha; subst hb2; subst hn
  refine lv_iadd hx hb hdg ?_
  rw [nI_add]
  exact k
theorem z_imul (hx : p.tables.exec = Jvm.exec) (hb : c.code = cc) {a b n : Nat} {x y : Int32} (hdg : decode cc pc = .ok (.imul, 1)) (ha : x = nI a) (hb2 : y = nI b) (hn : a * b = n)
    (k : W p l e R s m args below meth c H locs cells slots Q (F0 m (pc + 1) ls (.int (nI n) :: rest))) : W p l e R s m args below meth c H locs cells slots Q (F0 m pc ls (.int y :: .int x :: rest)) := by
  subst ha; subst hb2; subst hn
  refine lv_imul hx hb hdg ?_
  rw [pk_mul]
  exact k
theorem z_isub (hx : p.tables.exec = Jvm.exec) (hb : c.code = cc) {a b n : Nat} {x y : Int32} (hdg : decode cc pc = .ok (.isub, 1)) (ha : x = nI a) (hb2 : y = nI b) (h : b ≤ a) (hn : a - b = n)
    (k : W p l e R s m args below meth c H locs cells slots Q (F0 m (pc + 1) ls (.int (nI n) :: rest))) : W p l e R s m args below meth c H locs cells slots Q (F0 m pc ls (.int y :: .int x :: rest)) := by
  subst ha; subst hb2; subst hn
  refine lv_isub hx hb hdg ?_
  rw [pk_sub h]
  exact k
theorem z_idiv (hx : p.tables.exec = Jvm.exec) (hb : c.code = cc) {a b : Nat} {x y : Int32} (hdg : decode cc pc = .ok (.idiv, 1)) (ha : x = nI a) (hb2 : y = nI b) (h : a < 2 ^ 31) (h0 : 0 < b) (hd : b < 2 ^ 31)
    (k : W p l e R s m args below meth c H locs cells slots Q (F0 m (pc + 1) ls (.int (nI (a / b)) :: rest))) : W p l e R s m args below meth c H locs cells slots Q (F0 m pc ls (.int y :: .int x :: rest)) := by
  subst ha; subst hb2
  refine lv_idiv hx hb hdg (nI_ne0 h0 hd) ?_
  rw [pk_div h h0 hd]
  exact k
theorem z_irem (hx : p.tables.exec = Jvm.exec) (hb : c.code = cc) {a b : Nat} {x y : Int32} (hdg : decode cc pc = .ok (.irem, 1)) (ha : x = nI a) (hb2 : y = nI b) (h : a < 2 ^ 31) (h0 : 0 < b) (hd : b < 2 ^ 31)
    (k : W p l e R s m args below meth c H locs cells slots Q (F0 m (pc + 1) ls (.int (nI (a % b)) :: rest))) : W p l e R s m args below meth c H locs cells slots Q (F0 m pc ls (.int y :: .int x :: rest)) := by
  subst ha; subst hb2
  refine lv_irem hx hb hdg (nI_ne0 h0 hd) ?_
  rw [pk_rem h h0 hd]
  exact k
theorem z_N_eq (hx : p.tables.exec = Jvm.exec) (hb : c.code = cc) {a b tgt : Nat} {off : Int} {x y : Int32} (hdg : decode cc pc = .ok (.if_icmp .eq off, 3)) (ha : x = nI a) (hb2 : y = nI b) (h1 : a < 2 ^ 31) (h2 : b < 2 ^ 31) (ht : (pc : Int) + off = (tgt : Int))
    (kt : a = b → W p l e R s m args below meth c H locs cells slots Q (F0 m tgt ls rest)) (kf : a ≠ b → W p l e R s m args below meth c H locs cells slots Q (F0 m (pc + 3) ls rest)) : W p l e R s m args below meth c H locs cells slots Q (F0 m pc ls (.int y :: .int x :: rest)) := by
  subst ha; subst hb2
  exact lv_icmp_eq hx hb hdg ht (fun h => kt ((nI_eq h1 h2).mp h)) (fun h => kf (fun q => h ((nI_eq h1 h2).mpr q)))
theorem z_N_ne (hx : p.tables.exec = Jvm.exec) (hb : c.code = cc) {a b tgt : Nat} {off : Int} {x y : Int32} (hdg : decode cc pc = .ok (.if_icmp .ne off, 3)) (ha : x = nI a) (hb2 : y = nI b) (h1 : a < 2 ^ 31) (h2 : b < 2 ^ 31) (ht : (pc : Int) + off = (tgt : Int))
    (kt : a ≠ b → W p l e R s m args below meth c H locs cells slots Q (F0 m tgt ls rest)) (kf : a = b → W p l e R s m args below meth c H locs cells slots Q (F0 m (pc + 3) ls rest)) : W p l e R s m args below meth c H locs cells slots Q (F0 m pc ls (.int y :: .int x :: rest)) := by
  subst ha; subst hb2
  exact lv_icmp_ne hx hb hdg ht (fun h => kt (fun q => h ((nI_eq h1 h2).mpr q))) (fun h => kf ((nI_eq h1 h2).mp h))
theorem z_N_lt (hx : p.tables.exec = Jvm.exec) (hb : c.code = cc) {a b tgt : Nat} {off : Int} {x y : Int32} (hdg : decode cc pc = .ok (.if_icmp .lt off, 3)) (ha : x = nI a) (hb2 : y = nI b) (h1 : a < 2 ^ 31) (h2 : b < 2 ^ 31) (ht : (pc : Int) + off = (tgt : Int))
    (kt : a < b → W p l e R s m args below meth c H locs cells slots Q (F0 m tgt ls rest)) (kf : b ≤ a → W p l e R s m args below meth c H locs cells slots Q (F0 m (pc + 3) ls rest)) : W p l e R s m args below meth c H locs cells slots Q (F0 m pc ls (.int y :: .int x :: rest)) := by
  subst ha; subst hb2
  exact lv_icmp_lt hx hb hdg ht (fun h => kt ((nI_ltI h1 h2).mp h)) (fun h => kf (Nat.not_lt.mp fun q => h ((nI_ltI h1 h2).mpr q)))
theorem z_N_ge (hx : p.tables.exec = Jvm.exec) (hb : c.code = cc) {a b tgt : Nat} {off : Int} {x y : Int32} (hdg : decode cc pc = .ok (.if_icmp .ge off, 3)) (ha : x = nI a) (hb2 : y = nI b) (h1 : a < 2 ^ 31) (h2 : b < 2 ^ 31) (ht : (pc : Int) + off = (tgt : Int))
    (kt : b ≤ a → W p l e R s m args below meth c H locs cells slots Q (F0 m tgt ls rest)) (kf : a < b → W p l e R s m args below meth c H locs cells slots Q (F0 m (pc + 3) ls rest)) : W p l e R s m args below meth c H locs cells slots Q (F0 m pc ls (.int y :: .int x :: rest)) := by
  subst ha; subst hb2
  exact lv_icmp_ge hx hb hdg ht (fun h => kt ((nI_leI h2 h1).mp h)) (fun h => kf (Nat.not_le.mp fun q => h ((nI_leI h2 h1).mpr q)))
theorem z_N_gt (hx : p.tables.exec = Jvm.exec) (hb : c.code = cc) {a b tgt : Nat} {off : Int} {x y : Int32} (hdg : decode cc pc = .ok (.if_icmp .gt off, 3)) (ha : x = nI a) (hb2 : y = nI b) (h1 : a < 2 ^ 31) (h2 : b < 2 ^ 31) (ht : (pc : Int) + off = (tgt : Int))
    (kt : b < a → W p l e R s m args below meth c H locs cells slots Q (F0 m tgt ls rest)) (kf : a ≤ b → W p l e R s m args below meth c H locs cells slots Q (F0 m (pc + 3) ls rest)) : W p l e R s m args below meth c H locs cells slots Q (F0 m pc ls (.int y :: .int x :: rest)) := by
  subst ha; subst hb2
  exact lv_icmp_gt hx hb hdg ht (fun h => kt ((nI_ltI h2 h1).mp h)) (fun h => kf (Nat.not_lt.mp fun q => h ((nI_ltI h2 h1).mpr q)))
theorem z_N_le (hx : p.tables.exec = Jvm.exec) (hb : c.code = cc) {a b tgt : Nat} {off : Int} {x y : Int32} (hdg : decode cc pc = .ok (.if_icmp .le off, 3)) (ha : x = nI a) (hb2 : y = nI b) (h1 : a < 2 ^ 31) (h2 : b < 2 ^ 31) (ht : (pc : Int) + off = (tgt : Int))
    (kt : a ≤ b → W p l e R s m args below meth c H locs cells slots Q (F0 m tgt ls rest)) (kf : b < a → W p l e R s m args below meth c H locs cells slots Q (F0 m (pc + 3) ls rest)) : W p l e R s m args below meth c H locs cells slots Q (F0 m pc ls (.int y :: .int x :: rest)) := by
  subst ha; subst hb2
  exact lv_icmp_le hx hb hdg ht (fun h => kt ((nI_leI h1 h2).mp h)) (fun h => kf (Nat.not_le.mp fun q => h ((nI_leI h1 h2).mpr q)))
theorem z_0_eq (hx : p.tables.exec = Jvm.exec) (hb : c.code = cc) {a tgt : Nat} {off : Int} {x : Int32} (hdg : decode cc pc = .ok (.ifCond .eq off, 3)) (ha : x = nI a) (h1 : a < 2 ^ 31) (ht : (pc : Int) + off = (tgt : Int))
    (kt : a = 0 → W p l e R s m args below meth c H locs cells slots Q (F0 m tgt ls rest)) (kf : a ≠ 0 → W p l e R s m args below meth c H locs cells slots Q (F0 m (pc + 3) ls rest)) : W p l e R s m args below meth c H locs cells slots Q (F0 m pc ls (.int x :: rest)) := by
  subst ha
  exact lv_if_eq hx hb hdg ht (fun h => kt ((nI_eq h1 (by decide)).mp (h.trans nI_0.symm))) (fun h => kf (fun q => h (by rw [q, nI_0])))
theorem z_0_ne (hx : p.tables.exec = Jvm.exec) (hb : c.code = cc) {a tgt : Nat} {off : Int} {x : Int32} (hdg : decode cc pc = .ok (.ifCond .ne off, 3)) (ha : x = nI a) (h1 : a < 2 ^ 31) (ht : (pc : Int) + off = (tgt : Int))
    (kt : a ≠ 0 → W p l e R s m args below meth c H locs cells slots Q (F0 m tgt ls rest)) (kf : a = 0 → W p l e R s m args below meth c H locs cells slots Q (F0 m (pc + 3) ls rest)) : W p l e R s m args below meth c H locs cells slots Q (F0 m pc ls (.int x :: rest)) := by
  subst ha
  exact lv_if_ne hx hb hdg ht (fun h => kt (fun q => h (by rw [q, nI_0]))) (fun h => kf ((nI_eq h1 (by decide)).mp (h.trans nI_0.symm)))
theorem z_0_lt (hx : p.tables.exec = Jvm.exec) (hb : c.code = cc) {a tgt : Nat} {off : Int} {x : Int32} (hdg : decode cc pc = .ok (.ifCond .lt off, 3)) (ha : x = nI a) (h1 : a < 2 ^ 31) (ht : (pc : Int) + off = (tgt : Int))
    (_kt : a < 0 → W p l e R s m args below meth c H locs cells slots Q (F0 m tgt ls rest)) (kf : 0 ≤ a → W p l e R s m args below meth c H locs cells slots Q (F0 m (pc + 3) ls rest)) : W p l e R s m args below meth c H locs cells slots Q (F0 m pc ls (.int x :: rest)) := by
  subst ha
  exact lv_if_lt hx hb hdg ht (fun h => absurd h (nI_pos h1)) (fun _ => kf (Nat.zero_le _))
theorem z_0_ge (hx : p.tables.exec = Jvm.exec) (hb : c.code = cc) {a tgt : Nat} {off : Int} {x : Int32} (hdg : decode cc pc = .ok (.ifCond .ge off, 3)) (ha : x = nI a) (h1 : a < 2 ^ 31) (ht : (pc : Int) + off = (tgt : Int))
    (kt : 0 ≤ a → W p l e R s m args below meth c H locs cells slots Q (F0 m tgt ls rest)) (_kf : a < 0 → W p l e R s m args below meth c H locs cells slots Q (F0 m (pc + 3) ls rest)) : W p l e R s m args below meth c H locs cells slots Q (F0 m pc ls (.int x :: rest)) := by
  subst ha
  exact lv_if_ge hx hb hdg ht (fun _ => kt (Nat.zero_le _)) (fun h => absurd (nI_pos' h1) h)
theorem z_0_gt (hx : p.tables.exec = Jvm.exec) (hb : c.code = cc) {a tgt : Nat} {off : Int} {x : Int32} (hdg : decode cc pc = .ok (.ifCond .gt off, 3)) (ha : x = nI a) (h1 : a < 2 ^ 31) (ht : (pc : Int) + off = (tgt : Int))
    (kt : 0 < a → W p l e R s m args below meth c H locs cells slots Q (F0 m tgt ls rest)) (kf : a = 0 → W p l e R s m args below meth c H locs cells slots Q (F0 m (pc + 3) ls rest)) : W p l e R s m args below meth c H locs cells slots Q (F0 m pc ls (.int x :: rest)) := by
  subst ha
  exact lv_if_gt hx hb hdg ht (fun h => kt ((nI_ltI (by decide) h1).mp (by rw [nI_0]; exact h))) (fun h => kf (Nat.eq_zero_of_not_pos fun q => h (by have := (nI_ltI (by decide) h1).mpr q; rwa [nI_0] at this)))
theorem z_0_le (hx : p.tables.exec = Jvm.exec) (hb : c.code = cc) {a tgt : Nat} {off : Int} {x : Int32} (hdg : decode cc pc = .ok (.ifCond .le off, 3)) (ha : x = nI a) (h1 : a < 2 ^ 31) (ht : (pc : Int) + off = (tgt : Int))
    (kt : a = 0 → W p l e R s m args below meth c H locs cells slots Q (F0 m tgt ls rest)) (kf : 0 < a → W p l e R s m args below meth c H locs cells slots Q (F0 m (pc + 3) ls rest)) : W p l e R s m args below meth c H locs cells slots Q (F0 m pc ls (.int x :: rest)) := by
  subst ha
  exact lv_if_le hx hb hdg ht (fun h => kt (Nat.eq_zero_of_not_pos fun q => nI_nle q h1 h)) (fun h => kf (Nat.pos_of_ne_zero fun q => h (by rw [q, nI_0]; decide)))
end ZR
theorem z_inc {a : Nat} {c : Int} {k : Nat} (h : Int32.ofInt c = nI k) : nI a + Int32.ofInt c = nI (a + k) := by rw [h, nI_add]
theorem z_dec {a : Nat} {c : Int} {k b : Nat} (h : Int32.ofInt c = -nI k) (hb : a = b + k) : nI a + Int32.ofInt c = nI b := by
  rw [h, hb, ← nI_add]
  generalize nI b = x
  generalize nI k = y
  grind
theorem g1_t (G : zG) (k : Nat) (f g : Nat → Int32) : g1 (g1 G k f) k g = g1 G k g := by
  funext j
  unfold g1
  split <;> rfl
theorem g1_x {G : zG} {k k2 : Nat} {f g : Nat → Int32} (h : k ≠ k2) : g1 (g1 G k2 f) k g = g1 (g1 G k g) k2 f := by
  funext j
  unfold g1
  split
  · rename_i h1
    rw [if_neg (by omega)]
  · rfl
theorem zP_eq {E : zE} {G G2 : zG} {H : Heap} (h : G = G2) (hP : zP E G H) : zP E G2 H := h ▸ hP
theorem z_refx {E : zE} {k n r : Nat} {x : Int32} (h : x = nI n) (hn : n < 2 ^ 31) (hr : k + 16 + n = r) : some (Value.ref (E.1 (k + 16 + x.toNatClampNeg))) = some (.ref (E.1 r)) := by
  rw [h, nI_clamp hn, hr]
/-- which cells lie behind a tag: (offset, kind, length) -/
def zIs (t : Nat) (T : List (Nat × Nat × Nat)) : Prop := ∀ q ∈ T, zk (t + q.1) = q.2.1 ∧ zl (t + q.1) = q.2.2
theorem zIs_sub {t : Nat} {T T2 : List (Nat × Nat × Nat)} (h : zIs t T) (o : Nat) (hs : ∀ q ∈ T2, (q.1 + o, q.2) ∈ T) : zIs (t + o) T2 := by
  intro q hq
  have h1 := h _ (hs q hq)
  have e : t + o + q.1 = t + (q.1 + o) := by omega
  rw [e]
  exact h1
def tAth : List (Nat × Nat × Nat) := [(0, 0, 2), (1, 11, 4), (2, 11, 10)]
def tCou : List (Nat × Nat × Nat) := [(0, 1, 4), (1, 11, 10), (2, 11, 10), (3, 11, 10)]
def tDue : List (Nat × Nat × Nat) := [(0, 2, 2), (1, 11, 4), (2, 11, 4)]
def tFie : List (Nat × Nat × Nat) := [(0, 3, 3), (1, 1, 4), (2, 11, 10), (3, 11, 10), (4, 11, 10), (5, 12, 5), (6, 0, 2), (7, 11, 4), (8, 11, 10), (9, 0, 2), (10, 11, 4), (11, 11, 10), (12, 0, 2), (13, 11, 4), (14, 11, 10), (15, 0, 2), (16, 11, 4), (17, 11, 10), (18, 0, 2), (19, 11, 4), (20, 11, 10)]
def tLot : List (Nat × Nat × Nat) := [(0, 4, 2)]
def tPla : List (Nat × Nat × Nat) := [(0, 5, 8), (1, 11, 10), (2, 11, 10), (3, 11, 10), (4, 13, 11), (5, 11, 100), (6, 11, 100), (7, 11, 100), (8, 11, 100), (9, 11, 100), (10, 11, 100), (11, 11, 100), (12, 11, 100), (13, 11, 100), (14, 11, 100), (15, 11, 100), (16, 11, 3100), (17, 11, 3100)]
def tRow : List (Nat × Nat × Nat) := [(0, 6, 2), (1, 11, 12)]
def tTex : List (Nat × Nat × Nat) := [(0, 7, 2), (1, 11, 96)]
def tTri : List (Nat × Nat × Nat) := [(0, 8, 6), (1, 1, 4), (2, 11, 10), (3, 11, 10), (4, 11, 10), (5, 0, 2), (6, 11, 4), (7, 11, 10), (8, 11, 10), (9, 11, 10), (10, 11, 10)]
def tArr10 : List (Nat × Nat × Nat) := [(0, 11, 10)]
def tArr4 : List (Nat × Nat × Nat) := [(0, 11, 4)]
def tArr102 : List (Nat × Nat × Nat) := [(0, 11, 102)]
theorem z_lit_Fie_1 : zIs 1 tFie := by unfold zIs; decide +kernel
theorem z_lit_Fie_22 : zIs 22 tFie := by unfold zIs; decide +kernel
theorem z_lit_Tri_48 : zIs 48 tTri := by unfold zIs; decide +kernel
theorem z_lit_Tri_59 : zIs 59 tTri := by unfold zIs; decide +kernel
theorem z_lit_Cou_2 : zIs 2 tCou := by unfold zIs; decide +kernel
theorem z_lit_Cou_23 : zIs 23 tCou := by unfold zIs; decide +kernel
theorem z_lit_Cou_49 : zIs 49 tCou := by unfold zIs; decide +kernel
theorem z_lit_Cou_60 : zIs 60 tCou := by unfold zIs; decide +kernel
theorem z_lit_Ath_53 : zIs 53 tAth := by unfold zIs; decide +kernel
theorem z_lit_Ath_64 : zIs 64 tAth := by unfold zIs; decide +kernel
theorem z_lit_Pla_70 : zIs 70 tPla := by unfold zIs; decide +kernel
theorem zIs_ath {f i : Nat} (h : zIs f tFie) (hi : i < 5) : zIs (f + 5 + 1 + 3 * i) tAth := by
  have e : f + 5 + 1 + 3 * i = f + (6 + 3 * i) := by omega
  rw [e]
  refine zIs_sub h _ ?_
  rcases (show i = 0 ∨ i = 1 ∨ i = 2 ∨ i = 3 ∨ i = 4 by omega) with rfl | rfl | rfl | rfl | rfl <;> decide
theorem zIs_toc {t i : Nat} (h : zIs t tPla) (hi : i < 11) : zIs (t + 4 + 1 + i) [(0, 11, 100)] := by
  have e : t + 4 + 1 + i = t + (5 + i) := by omega
  rw [e]
  refine zIs_sub h _ ?_
  rcases (show i = 0 ∨ i = 1 ∨ i = 2 ∨ i = 3 ∨ i = 4 ∨ i = 5 ∨ i = 6 ∨ i = 7 ∨ i = 8 ∨ i = 9 ∨ i = 10 by omega) with rfl | rfl | rfl | rfl | rfl | rfl | rfl | rfl | rfl | rfl | rfl <;> decide
theorem z_sw (x : Int32) (lo : Int) (n : Nat) : (x.toInt < lo ∨ lo + n ≤ x.toInt) ∨ ∃ k : Nat, k < n ∧ x.toInt = lo + k := by
  by_cases h1 : x.toInt < lo
  · exact Or.inl (Or.inl h1)
  · by_cases h2 : lo + n ≤ x.toInt
    · exact Or.inl (Or.inr h2)
    · exact Or.inr ⟨(x.toInt - lo).toNat, by omega, by omega⟩
theorem z_swo {x : Int32} {lo hi lo2 : Int} {n : Nat} (h : x.toInt < lo ∨ lo + n ≤ x.toInt) (h1 : lo = lo2) (h2 : lo + n = hi + 1) : x.toInt < lo2 ∨ hi < x.toInt := by
  subst h1
  rcases h with h | h
  · exact Or.inl h
  · exact Or.inr (by omega)
theorem z_swi {x y : Int32} {lo : Int} {k : Nat} (h : x.toInt = lo + k) (h2 : y.toInt = lo + k) : x = y := Int32.toInt_inj.mp (h.trans h2.symm)
end
section
/-! WHAT THE RACE ANSWERS, as functions of rows -/
/-- 1, 0: a RIDE, a HILL, WIND -/
def s_isRide (k : Int32) : Int32 := if k = 2 ∨ k = 3 ∨ k = 4 then 1 else 0
def s_takes (k : Int32) : Int32 := if k = 0 ∨ k = 1 then 1 else if k = 2 ∨ k = 4 ∨ k = 5 then 2 else if k = 3 then 3 else 0
/-- SECONDS by TRIES t at LEGS g, u without -/
def s_sec (u t g : Int32) : Int32 := if 0 < g then u - u * t / 10 else u + u / 4
/-- Math.min, Math.max -/
def s_mn (x y : Int32) : Int32 := if y < x then y else x
def s_mx (x y : Int32) : Int32 := if x < y then y else x
def s_left (k n t g : Int32) : Int32 := if 0 < g then s_mx 0 (g - s_takes k * n * t) else 0
def s_leg (k n t g : Int32) : Int32 := if k = 6 then s_mn 99 (s_left k n t g + 5) else s_left k n t g
/-- SECONDS of section i with TRIES 0 -/
def s_plain (kd fg ln ab : Nat → Int32) (i : Nat) : Int32 :=
  if kd i = 0 then ln i * (20 - ab 0)
  else if kd i = 1 then ln i * (20 - ab 0 - fg i)
  else if kd i = 2 then ln i * (20 - ab 1)
  else if kd i = 3 then ln i * (20 - ab 1 + fg i)
  else if kd i = 4 then ln i * (20 - ab 1 + fg i / 2)
  else if kd i = 5 then ln i * (22 - ab 2) + (if 0 < i ∧ s_isRide (kd (i - 1)) = 1 then ln i + fg i else 0)
  else 10 + 5 * fg i
/-- LEGS and all SECONDS behind the first i sections (d: the section behind which 20 LEGS come) -/
def s_run (kd fg ln ab tr : Nat → Int32) (d : Int32) : Nat → Int32 × Int32
  | 0 => (ab 3, 0)
  | i + 1 =>
    let p := s_run kd fg ln ab tr d i
    let g := s_leg (kd i) (ln i) (tr i) p.1
    (if nI i = d then s_mn 99 (g + 20) else g, p.2 + s_sec (s_plain kd fg ln ab i) (tr i) p.1)
/-- SECONDS of section i -/
def s_sc (kd fg ln ab tr : Nat → Int32) (d : Int32) (i : Nat) : Int32 := s_sec (s_plain kd fg ln ab i) (tr i) (s_run kd fg ln ab tr d i).1
theorem s_plain_c {a b c d a2 b2 c2 d2 : Nat → Int32} {i : Nat} (h1 : a = a2) (h2 : b = b2) (h3 : c = c2) (h4 : d = d2) : s_plain a b c d i = s_plain a2 b2 c2 d2 i := by rw [h1, h2, h3, h4]
/-- a trial's own run -/
def zt_run (G : zG) (t i : Nat) : Int32 × Int32 := s_run (G (t + 2)) (G (t + 3)) (G (t + 4)) (G (t + 6)) (G (t + 7)) (G t 2) i
def zt_sc (G : zG) (t i : Nat) : Int32 := s_sc (G (t + 2)) (G (t + 3)) (G (t + 4)) (G (t + 6)) (G (t + 7)) (G t 2) i
theorem g1_e (G : zG) (k : Nat) : g1 G k (G k) = G := by
  funext j
  unfold g1
  split
  · rename_i h
    rw [h]
  · rfl
theorem z_has1 {i : Int32} {n : Nat} (hn : n < 2 ^ 31) (h1 : ¬ i < 0) (h2 : ¬ nI n ≤ i) : ∃ j : Nat, j < n ∧ i = nI j := by
  rcases pk_ix i hn with h | h | h
  · exact absurd h h1
  · exact absurd h h2
  · exact h
theorem z_has0 {i : Int32} {n : Nat} (hn : n < 2 ^ 31) (h : i < 0 ∨ nI n ≤ i) : ¬ ∃ j : Nat, j < n ∧ i = nI j := by
  rintro ⟨j, hj, rfl⟩
  rcases h with h | h
  · exact nI_pos (by omega) h
  · exact nI_ge hj hn h
/-! the same by the reference's words -/
def s_min (a b : Int32) : Int32 := if a < b then a else b
def s_max (a b : Int32) : Int32 := if b < a then a else b
def m_takes (k : Int32) : Int32 := if k = 6 then 0 else if k < 2 then 1 else if k = 3 then 3 else 2
def m_plain (r : Nat → Int32) (a i : Nat) : Int32 :=
  if r (2 + 3 * i) = 0 then r (4 + 3 * i) * (20 - r (32 + 4 * a))
  else if r (2 + 3 * i) = 1 then r (4 + 3 * i) * (20 - r (32 + 4 * a)) - r (4 + 3 * i) * r (3 + 3 * i)
  else if r (2 + 3 * i) = 2 then r (4 + 3 * i) * (20 - r (33 + 4 * a))
  else if r (2 + 3 * i) = 3 then r (4 + 3 * i) * (20 - r (33 + 4 * a)) + r (4 + 3 * i) * r (3 + 3 * i)
  else if r (2 + 3 * i) = 4 then r (4 + 3 * i) * (20 - r (33 + 4 * a)) + r (4 + 3 * i) * (r (3 + 3 * i) / 2)
  else if r (2 + 3 * i) = 5 then r (4 + 3 * i) * (22 - r (34 + 4 * a)) + (if 0 < i ∧ s_isRide (r (2 + 3 * (i - 1))) = 1 then r (4 + 3 * i) + r (3 + 3 * i) else 0)
  else 10 + 5 * r (3 + 3 * i)
def m_left (k n t g : Int32) : Int32 := if 0 < g then s_max 0 (g - t * m_takes k * n) else 0
def m_leg (k n t g : Int32) : Int32 := if k = 6 then s_min 99 (m_left k n t g + 5) else m_left k n t g
def m_run (r : Nat → Int32) (a : Nat) (d : Int32) : Nat → Int32 × Int32
  | 0 => (r (35 + 4 * a), 0)
  | i + 1 =>
    let p := m_run r a d i
    let g := m_leg (r (2 + 3 * i)) (r (4 + 3 * i)) (r (52 + 10 * a + i)) p.1
    (if nI i = d then s_min 99 (g + 20) else g, p.2 + s_sec (m_plain r a i) (r (52 + 10 * a + i)) p.1)
def m_sc (r : Nat → Int32) (a : Nat) (d : Int32) (i : Nat) : Int32 := s_sec (m_plain r a i) (r (52 + 10 * a + i)) (m_run r a d i).1
theorem z_sec1 {i : Int32} {n : Nat} (hn : n < 2 ^ 31) (h1 : 0 ≤ i) (h2 : i ≤ nI n - 1) : ∃ j : Nat, j < n ∧ i = nI j := by
  rcases pk_ix i hn with h | h | h
  · exact absurd h (Int32.not_lt.mpr h1)
  · exfalso
    rcases Nat.eq_zero_or_pos n with e | e
    · subst e
      have h0 : nI 0 - 1 = -1 := by decide
      rw [h0] at h2
      exact absurd (Int32.le_trans h1 h2) (by decide)
    · rw [show nI n - 1 = nI (n - 1) from by rw [show (1 : Int32) = nI 1 from rfl, pk_sub e]] at h2
      exact nI_ge (show n - 1 < n by omega) hn (Int32.le_trans h h2)
  · exact h
theorem z_sec0 {i : Int32} {n : Nat} (hn : n < 2 ^ 31) (h : ¬ (0 ≤ i ∧ i ≤ nI n - 1)) : ¬ ∃ j : Nat, j < n ∧ i = nI j := by
  rintro ⟨j, hj, rfl⟩
  refine h ⟨nI_pos' (by omega), ?_⟩
  rw [show nI n - 1 = nI (n - 1) from by rw [show (1 : Int32) = nI 1 from rfl, pk_sub (by omega)]]
  exact nI_le (by omega) (by omega)
theorem z_secN1 {i n : Nat} (hi : i < 2 ^ 31) (hn : n < 2 ^ 31) (h1 : 0 ≤ nI i) (h2 : nI i ≤ nI n - 1) : i < n := by
  obtain ⟨j, hj, e⟩ := z_sec1 hn h1 h2
  have := (nI_eq hi (by omega)).mp e
  omega
theorem z_secN0 {i n : Nat} (hi : i < 2 ^ 31) (hn : n < 2 ^ 31) (h : ¬ (0 ≤ nI i ∧ nI i ≤ nI n - 1)) : n ≤ i := by
  rcases Nat.lt_or_ge i n with q | q
  · exact absurd ⟨i, q, rfl⟩ (z_sec0 hn h)
  · exact q
theorem z_three {v : Int32} (h1 : 2 ≤ v) (h2 : v ≤ 4) : v = 2 ∨ v = 3 ∨ v = 4 := by
  have a := Int32.le_iff_toInt_le.mp h1
  have b := Int32.le_iff_toInt_le.mp h2
  have a2 : (2 : Int32).toInt = 2 := by decide
  have b2 : (4 : Int32).toInt = 4 := by decide
  have e2 : (3 : Int32).toInt = 3 := by decide
  rcases (show v.toInt = 2 ∨ v.toInt = 3 ∨ v.toInt = 4 by omega) with h | h | h
  · exact Or.inl (Int32.toInt_inj.mp (h.trans a2.symm))
  · exact Or.inr (Or.inl (Int32.toInt_inj.mp (h.trans e2.symm)))
  · exact Or.inr (Or.inr (Int32.toInt_inj.mp (h.trans b2.symm)))
theorem z_ride1 {v : Int32} (h1 : 2 ≤ v) (h2 : v ≤ 4) : s_isRide v = 1 := if_pos (z_three h1 h2)
theorem z_ride0 {v : Int32} (h : ¬ (2 ≤ v ∧ v ≤ 4)) : s_isRide v = 0 := if_neg (fun q => h (by rcases q with rfl | rfl | rfl <;> decide))
theorem z_nin {v lo hi : Int32} (h : ¬ (lo ≤ v ∧ v ≤ hi)) : v < lo ∨ hi < v := by
  by_cases q : v < lo
  · exact Or.inl q
  · exact Or.inr (Int32.not_le.mp fun q2 => h ⟨Int32.not_lt.mp q, q2⟩)
theorem s_ride_ne {k : Int32} (h : ¬ s_isRide k = 0) : s_isRide k = 1 := by
  unfold s_isRide at h ⊢
  split
  · rfl
  · rename_i q
    rw [if_neg q] at h
    exact absurd rfl h
theorem s_if0 {p : Prop} [Decidable p] (h : (if p then (1 : Int32) else 0) = 0) : ¬ p := fun q => by
  rw [if_pos q] at h
  exact absurd h (by decide)
theorem s_if1 {p : Prop} [Decidable p] (h : ¬ (if p then (1 : Int32) else 0) = 0) : p := by
  by_cases q : p
  · exact q
  · exact absurd (if_neg q) h
end
section
/-! laid by wip/whole/vcg.py -/
set_option maxHeartbeats 4000000 in
set_option maxRecDepth 100000 in
theorem c_X4_isRide (l : Launch) (E : zE) (G : zG) (k : Int32) : zMi l yX4_isRide wsX4_isRide ({ frames := 0, cells := 0, slots := 0, locals := 0 } : Room) E G [.int k] (fun r G1 => s_isRide k = r ∧ G = G1) := by
  refine zOf (cc := cX4_isRide) (nL := 1) (ret := (some .boolean)) RX4 (by decide) rfl rfl (Nat.le_of_ble_eq_true rfl) ?_
  intro p_ e_ s_ m_ a_ b_ me_ c_ ls C0 hP hS hl
  have hx := C0.1
  have hb := C0.2.1
  have hts := C0.2.2.2.2.1
  have hD : zD E (zA E s_.heap.size) := C0.2.2.2.2.2.2.2.2
  have hA : ∀ q : Nat, s_.heap.size ≤ q → zA E s_.heap.size q := fun q h => Or.inr h
  refine z_gen (fun Q_ hQ_ => ?_)
  have hl : lv_has ls 1 [(0, .int k)] := hl
  refine lv_iload_n hx hb dX4_isRide_0 rfl (lv_at hl 0 rfl) ?_
  refine lv_iconst (v := (2 : Int32)) hx hb dX4_isRide_1 (by decide) ?_
  refine lv_icmp_eq (tgt := 15) hx hb dX4_isRide_2 (by decide) (fun c_2 => ?_) (fun c_2 => ?_)
  · skip
    refine lv_iconst (v := (1 : Int32)) hx hb dX4_isRide_15 (by decide) ?_
    refine lv_goto (tgt := 20) hx hb dX4_isRide_16 (by decide) ?_
    subst hQ_
    exact z_zret C0 hP hS (v := (1 : Int32)) (by decide) (by refine ⟨?_, rfl⟩; simp [s_isRide, c_2]) dX4_isRide_20
  · skip
    refine lv_iload_n hx hb dX4_isRide_5 rfl (lv_at hl 0 rfl) ?_
    refine lv_iconst (v := (3 : Int32)) hx hb dX4_isRide_6 (by decide) ?_
    refine lv_icmp_eq (tgt := 15) hx hb dX4_isRide_7 (by decide) (fun c_7 => ?_) (fun c_7 => ?_)
    · skip
      refine lv_iconst (v := (1 : Int32)) hx hb dX4_isRide_15 (by decide) ?_
      refine lv_goto (tgt := 20) hx hb dX4_isRide_16 (by decide) ?_
      subst hQ_
      exact z_zret C0 hP hS (v := (1 : Int32)) (by decide) (by refine ⟨?_, rfl⟩; simp [s_isRide, c_2, c_7]) dX4_isRide_20
    · skip
      refine lv_iload_n hx hb dX4_isRide_10 rfl (lv_at hl 0 rfl) ?_
      refine lv_iconst (v := (4 : Int32)) hx hb dX4_isRide_11 (by decide) ?_
      refine lv_icmp_ne (tgt := 19) hx hb dX4_isRide_12 (by decide) (fun c_12 => ?_) (fun c_12 => ?_)
      · skip
        refine lv_iconst (v := (0 : Int32)) hx hb dX4_isRide_19 (by decide) ?_
        subst hQ_
        exact z_zret C0 hP hS (v := (0 : Int32)) (by decide) (by refine ⟨?_, rfl⟩; simp [s_isRide, c_2, c_7, c_12]) dX4_isRide_20
      · skip
        refine lv_iconst (v := (1 : Int32)) hx hb dX4_isRide_15 (by decide) ?_
        refine lv_goto (tgt := 20) hx hb dX4_isRide_16 (by decide) ?_
        subst hQ_
        exact z_zret C0 hP hS (v := (1 : Int32)) (by decide) (by refine ⟨?_, rfl⟩; simp [s_isRide, c_2, c_7, c_12]) dX4_isRide_20
set_option maxHeartbeats 4000000 in
set_option maxRecDepth 100000 in
theorem c_X4_takes (l : Launch) (E : zE) (G : zG) (k : Int32) : zMi l yX4_takes wsX4_takes ({ frames := 0, cells := 0, slots := 0, locals := 0 } : Room) E G [.int k] (fun r G1 => s_takes k = r ∧ G = G1) := by
  refine zOf (cc := cX4_takes) (nL := 1) (ret := (some .int)) RX4 (by decide) rfl rfl (Nat.le_of_ble_eq_true rfl) ?_
  intro p_ e_ s_ m_ a_ b_ me_ c_ ls C0 hP hS hl
  have hx := C0.1
  have hb := C0.2.1
  have hts := C0.2.2.2.2.1
  have hD : zD E (zA E s_.heap.size) := C0.2.2.2.2.2.2.2.2
  have hA : ∀ q : Nat, s_.heap.size ≤ q → zA E s_.heap.size q := fun q h => Or.inr h
  refine z_gen (fun Q_ hQ_ => ?_)
  have hl : lv_has ls 1 [(0, .int k)] := hl
  refine lv_iload_n hx hb dX4_takes_0 rfl (lv_at hl 0 rfl) ?_
  rcases z_sw (k) 0 6 with hsw | ⟨k_, hk_, hsw⟩
  · skip
    refine lv_tableOut (tgt := 46) hx hb dX4_takes_1 (z_swo hsw rfl rfl) (by decide) ?_
    have hsn_1_0 : ¬ k = (0 : Int32) := fun q => by rw [q] at hsw; revert hsw; decide
    have hsn_1_1 : ¬ k = (1 : Int32) := fun q => by rw [q] at hsw; revert hsw; decide
    have hsn_1_2 : ¬ k = (2 : Int32) := fun q => by rw [q] at hsw; revert hsw; decide
    have hsn_1_3 : ¬ k = (3 : Int32) := fun q => by rw [q] at hsw; revert hsw; decide
    have hsn_1_4 : ¬ k = (4 : Int32) := fun q => by rw [q] at hsw; revert hsw; decide
    have hsn_1_5 : ¬ k = (5 : Int32) := fun q => by rw [q] at hsw; revert hsw; decide
    refine lv_iconst (v := (0 : Int32)) hx hb dX4_takes_46 (by decide) ?_
    subst hQ_
    exact z_iret C0 hP hS (v := (0 : Int32)) (by refine ⟨?_, rfl⟩; simp [s_takes, hsn_1_0, hsn_1_1, hsn_1_2, hsn_1_3, hsn_1_4, hsn_1_5]) dX4_takes_47
  · skip
    rcases (show k_ = 0 ∨ k_ = 1 ∨ k_ = 2 ∨ k_ = 3 ∨ k_ = 4 ∨ k_ = 5 by omega) with rfl | rfl | rfl | rfl | rfl | rfl
    · skip
      have hsw_1 : k = (0 : Int32) := z_swi hsw (by decide)
      refine lv_tableIn (tgt := 40) (off := 39) hx hb dX4_takes_1 (by rw [hsw_1]; decide) (by rw [hsw_1]; decide) (by rw [hsw_1]; rfl) (by decide) ?_
      refine lv_iconst (v := (1 : Int32)) hx hb dX4_takes_40 (by decide) ?_
      subst hQ_
      exact z_iret C0 hP hS (v := (1 : Int32)) (by refine ⟨?_, rfl⟩; simp [s_takes, hsw_1]) dX4_takes_41
    · skip
      have hsw_1 : k = (1 : Int32) := z_swi hsw (by decide)
      refine lv_tableIn (tgt := 40) (off := 39) hx hb dX4_takes_1 (by rw [hsw_1]; decide) (by rw [hsw_1]; decide) (by rw [hsw_1]; rfl) (by decide) ?_
      refine lv_iconst (v := (1 : Int32)) hx hb dX4_takes_40 (by decide) ?_
      subst hQ_
      exact z_iret C0 hP hS (v := (1 : Int32)) (by refine ⟨?_, rfl⟩; simp [s_takes, hsw_1]) dX4_takes_41
    · skip
      have hsw_1 : k = (2 : Int32) := z_swi hsw (by decide)
      refine lv_tableIn (tgt := 42) (off := 41) hx hb dX4_takes_1 (by rw [hsw_1]; decide) (by rw [hsw_1]; decide) (by rw [hsw_1]; rfl) (by decide) ?_
      refine lv_iconst (v := (2 : Int32)) hx hb dX4_takes_42 (by decide) ?_
      subst hQ_
      exact z_iret C0 hP hS (v := (2 : Int32)) (by refine ⟨?_, rfl⟩; simp [s_takes, hsw_1]) dX4_takes_43
    · skip
      have hsw_1 : k = (3 : Int32) := z_swi hsw (by decide)
      refine lv_tableIn (tgt := 44) (off := 43) hx hb dX4_takes_1 (by rw [hsw_1]; decide) (by rw [hsw_1]; decide) (by rw [hsw_1]; rfl) (by decide) ?_
      refine lv_iconst (v := (3 : Int32)) hx hb dX4_takes_44 (by decide) ?_
      subst hQ_
      exact z_iret C0 hP hS (v := (3 : Int32)) (by refine ⟨?_, rfl⟩; simp [s_takes, hsw_1]) dX4_takes_45
    · skip
      have hsw_1 : k = (4 : Int32) := z_swi hsw (by decide)
      refine lv_tableIn (tgt := 42) (off := 41) hx hb dX4_takes_1 (by rw [hsw_1]; decide) (by rw [hsw_1]; decide) (by rw [hsw_1]; rfl) (by decide) ?_
      refine lv_iconst (v := (2 : Int32)) hx hb dX4_takes_42 (by decide) ?_
      subst hQ_
      exact z_iret C0 hP hS (v := (2 : Int32)) (by refine ⟨?_, rfl⟩; simp [s_takes, hsw_1]) dX4_takes_43
    · skip
      have hsw_1 : k = (5 : Int32) := z_swi hsw (by decide)
      refine lv_tableIn (tgt := 42) (off := 41) hx hb dX4_takes_1 (by rw [hsw_1]; decide) (by rw [hsw_1]; decide) (by rw [hsw_1]; rfl) (by decide) ?_
      refine lv_iconst (v := (2 : Int32)) hx hb dX4_takes_42 (by decide) ?_
      subst hQ_
      exact z_iret C0 hP hS (v := (2 : Int32)) (by refine ⟨?_, rfl⟩; simp [s_takes, hsw_1]) dX4_takes_43
set_option maxHeartbeats 4000000 in
set_option maxRecDepth 100000 in
theorem c_X4_secondsTrying (l : Launch) (E : zE) (G : zG) (u t g : Int32) : zMi l yX4_secondsTrying wsX4_secondsTrying ({ frames := 0, cells := 0, slots := 0, locals := 0 } : Room) E G [.int u, .int t, .int g] (fun r G1 => s_sec u t g = r ∧ G = G1) := by
  refine zOf (cc := cX4_secondsTrying) (nL := 3) (ret := (some .int)) RX4 (by decide) rfl rfl (Nat.le_of_ble_eq_true rfl) ?_
  intro p_ e_ s_ m_ a_ b_ me_ c_ ls C0 hP hS hl
  have hx := C0.1
  have hb := C0.2.1
  have hts := C0.2.2.2.2.1
  have hD : zD E (zA E s_.heap.size) := C0.2.2.2.2.2.2.2.2
  have hA : ∀ q : Nat, s_.heap.size ≤ q → zA E s_.heap.size q := fun q h => Or.inr h
  refine z_gen (fun Q_ hQ_ => ?_)
  have hl : lv_has ls 3 [(0, .int u), (1, .int t), (2, .int g)] := hl
  refine lv_iload_n hx hb dX4_secondsTrying_0 rfl (lv_at hl 2 rfl) ?_
  refine lv_if_le (tgt := 15) hx hb dX4_secondsTrying_1 (by decide) (fun c_1 => ?_) (fun c_1 => ?_)
  · skip
    have d_1 := Int32.not_lt.mpr c_1
    refine lv_iload_n hx hb dX4_secondsTrying_15 rfl (lv_at hl 0 rfl) ?_
    refine lv_iload_n hx hb dX4_secondsTrying_16 rfl (lv_at hl 0 rfl) ?_
    refine lv_iconst (v := (4 : Int32)) hx hb dX4_secondsTrying_17 (by decide) ?_
    refine lv_idiv hx hb dX4_secondsTrying_18 (by decide) ?_
    refine lv_iadd hx hb dX4_secondsTrying_19 ?_
    subst hQ_
    exact z_iret C0 hP hS (v := (u + (u / (4 : Int32)))) (by refine ⟨?_, rfl⟩; simp [s_sec, d_1]) dX4_secondsTrying_20
  · skip
    have d_1 := Int32.not_le.mp c_1
    refine lv_iload_n hx hb dX4_secondsTrying_4 rfl (lv_at hl 0 rfl) ?_
    refine lv_iload_n hx hb dX4_secondsTrying_5 rfl (lv_at hl 0 rfl) ?_
    refine lv_iload_n hx hb dX4_secondsTrying_6 rfl (lv_at hl 1 rfl) ?_
    refine lv_imul hx hb dX4_secondsTrying_7 ?_
    refine lv_bipush (v := (10 : Int32)) hx hb dX4_secondsTrying_8 (by decide) ?_
    refine lv_idiv hx hb dX4_secondsTrying_10 (by decide) ?_
    refine lv_isub hx hb dX4_secondsTrying_11 ?_
    refine lv_goto (tgt := 20) hx hb dX4_secondsTrying_12 (by decide) ?_
    subst hQ_
    exact z_iret C0 hP hS (v := (u - ((u * t) / (10 : Int32)))) (by refine ⟨?_, rfl⟩; simp [s_sec, d_1]) dX4_secondsTrying_20
theorem mlRX4_21 : Cond.methodLink RX4 21 Lib.Math.min.name ∈ zU := zU_m 500 (by decide +kernel) rfl
theorem sMath_min : Cond.static Lib.Math.min.name ∈ zU := zU_m 501 (by decide +kernel) rfl
theorem iniMath : Cond.initialized "java/lang/Math" ∈ zU := zU_m 61 (by decide +kernel) rfl
theorem coMath_min : Cond.code Lib.Math.min.name Lib.Math.min.code 2 (some .int) ∈ zU := zU_m 502 (by decide +kernel) rfl
theorem mlRX4_11 : Cond.methodLink RX4 11 yX4_takes ∈ zU := zU_m 496 (by decide +kernel) rfl
theorem coX4_takes : Cond.code yX4_takes cX4_takes 1 (some .int) ∈ zU := zU_m 420 (by rfl) rfl
theorem stX4_takes : Cond.static yX4_takes ∈ zU := zU_m 419 (by decide +kernel) rfl
theorem iniRX4 : Cond.initialized RX4 ∈ zU := zU_m 59 (by decide +kernel) rfl
theorem mlRX4_15 : Cond.methodLink RX4 15 Lib.Math.max.name ∈ zU := zU_m 497 (by decide +kernel) rfl
theorem sMath_max : Cond.static Lib.Math.max.name ∈ zU := zU_m 498 (by decide +kernel) rfl
theorem coMath_max : Cond.code Lib.Math.max.name Lib.Math.max.code 2 (some .int) ∈ zU := zU_m 499 (by decide +kernel) rfl
set_option maxHeartbeats 4000000 in
set_option maxRecDepth 100000 in
theorem c_X4_legsBehind (l : Launch) (E : zE) (G : zG) (k n t g : Int32) : zMi l yX4_legsBehind wsX4_legsBehind ({ frames := 1, cells := 0, slots := 0, locals := 21 } : Room) E G [.int k, .int n, .int t, .int g] (fun r G1 => s_leg k n t g = r ∧ G = G1) := by
  refine zOf (cc := cX4_legsBehind) (nL := 5) (ret := (some .int)) RX4 (by decide) rfl rfl (Nat.le_of_ble_eq_true rfl) ?_
  intro p_ e_ s_ m_ a_ b_ me_ c_ ls C0 hP hS hl
  have hx := C0.1
  have hb := C0.2.1
  have hts := C0.2.2.2.2.1
  have hD : zD E (zA E s_.heap.size) := C0.2.2.2.2.2.2.2.2
  have hA : ∀ q : Nat, s_.heap.size ≤ q → zA E s_.heap.size q := fun q h => Or.inr h
  refine z_gen (fun Q_ hQ_ => ?_)
  have hl : lv_has ls 5 [(0, .int k), (1, .int n), (2, .int t), (3, .int g)] := hl
  refine lv_iload_n hx hb dX4_legsBehind_0 rfl (lv_at hl 3 rfl) ?_
  refine lv_if_le (tgt := 21) hx hb dX4_legsBehind_1 (by decide) (fun c_1 => ?_) (fun c_1 => ?_)
  · skip
    have d_1 := Int32.not_lt.mpr c_1
    refine lv_iconst (v := (0 : Int32)) hx hb dX4_legsBehind_21 (by decide) ?_
    refine lv_istore (lv' := [(4, .int (0 : Int32)), (0, .int k), (1, .int n), (2, .int t), (3, .int g)]) hx hb dX4_legsBehind_22 hl (by decide) rfl (fun ls hl => ?_)
    refine lv_iload_n hx hb dX4_legsBehind_24 rfl (lv_at hl 1 rfl) ?_
    refine lv_bipush (v := (6 : Int32)) hx hb dX4_legsBehind_25 (by decide) ?_
    refine lv_icmp_ne (tgt := 42) hx hb dX4_legsBehind_27 (by decide) (fun c_27 => ?_) (fun c_27 => ?_)
    · skip
      refine lv_iload hx hb dX4_legsBehind_42 (lv_at hl 0 rfl) ?_
      subst hQ_
      exact z_iret C0 hP hS (v := (0 : Int32)) (by refine ⟨?_, rfl⟩; simp [s_leg, s_left, d_1, c_27]) dX4_legsBehind_44
    · skip
      refine lv_bipush (v := (99 : Int32)) hx hb dX4_legsBehind_30 (by decide) ?_
      refine lv_iload hx hb dX4_legsBehind_32 (lv_at hl 0 rfl) ?_
      refine lv_iconst (v := (5 : Int32)) hx hb dX4_legsBehind_34 (by decide) ?_
      refine z_iadd hx hb (a := 0) (b := 5) (n := 5) dX4_legsBehind_35 rfl rfl rfl ?_
      refine va_mmin hx hb (C0.2.2.1.trans hl.1.symm) C0.2.2.2.1 (hts _ (zm mlRX4_21)) (hts _ (zm sMath_min)) (hts _ (zm iniMath)) (hts _ (zm coMath_min)) (Nat.le_of_ble_eq_true rfl) (Nat.le_of_ble_eq_true rfl) (Nat.zero_le _) (Nat.zero_le _) dX4_legsBehind_36 ?_
      refine z_eqi (y := (s_mn (99 : Int32) (5 : Int32))) (by unfold s_mn; congr) ?_
      refine lv_goto (tgt := 44) hx hb dX4_legsBehind_39 (by decide) ?_
      subst hQ_
      exact z_iret C0 hP hS (v := (s_mn (99 : Int32) (5 : Int32))) (by refine ⟨?_, rfl⟩; simp [s_leg, s_left, d_1, c_27]) dX4_legsBehind_44
  · skip
    have d_1 := Int32.not_le.mp c_1
    refine lv_iconst (v := (0 : Int32)) hx hb dX4_legsBehind_4 (by decide) ?_
    refine lv_iload_n hx hb dX4_legsBehind_5 rfl (lv_at hl 3 rfl) ?_
    refine lv_iload_n hx hb dX4_legsBehind_6 rfl (lv_at hl 0 rfl) ?_
    refine z_Si C0 hP hD hA hS (As := [.int k]) (rest := [.int g, .int (0 : Int32)]) (c_X4_takes l E _ k) (va_cwS 1 hts (zgS zbw mlRX4_11 stX4_takes iniRX4 coX4_takes) rfl rfl rfl (by decide +kernel) ⟨Nat.le_of_ble_eq_true rfl, Nat.le_of_ble_eq_true rfl⟩) rfl hl.1 rfl (Nat.le_of_ble_eq_true rfl) dX4_legsBehind_7 ⟨Nat.zero_le _, Nat.zero_le _⟩ (fun r1 G1 H locs hw1 hP hS => ?_)
    obtain ⟨rfl, rfl⟩ := hw1
    refine lv_iload_n hx hb dX4_legsBehind_10 rfl (lv_at hl 1 rfl) ?_
    refine lv_imul hx hb dX4_legsBehind_11 ?_
    refine lv_iload_n hx hb dX4_legsBehind_12 rfl (lv_at hl 2 rfl) ?_
    refine lv_imul hx hb dX4_legsBehind_13 ?_
    refine lv_isub hx hb dX4_legsBehind_14 ?_
    refine va_mmax hx hb (C0.2.2.1.trans hl.1.symm) C0.2.2.2.1 (hts _ (zm mlRX4_15)) (hts _ (zm sMath_max)) (hts _ (zm iniMath)) (hts _ (zm coMath_max)) (Nat.le_of_ble_eq_true rfl) (Nat.le_of_ble_eq_true rfl) (Nat.zero_le _) (Nat.zero_le _) dX4_legsBehind_15 ?_
    refine z_eqi (y := (s_mx (0 : Int32) (g - (((s_takes k) * n) * t)))) (by unfold s_mx; congr) ?_
    refine lv_goto (tgt := 22) hx hb dX4_legsBehind_18 (by decide) ?_
    refine lv_istore (lv' := [(4, .int (s_mx (0 : Int32) (g - (((s_takes k) * n) * t)))), (0, .int k), (1, .int n), (2, .int t), (3, .int g)]) hx hb dX4_legsBehind_22 hl (by decide) rfl (fun ls hl => ?_)
    refine lv_iload_n hx hb dX4_legsBehind_24 rfl (lv_at hl 1 rfl) ?_
    refine lv_bipush (v := (6 : Int32)) hx hb dX4_legsBehind_25 (by decide) ?_
    refine lv_icmp_ne (tgt := 42) hx hb dX4_legsBehind_27 (by decide) (fun c_27 => ?_) (fun c_27 => ?_)
    · skip
      refine lv_iload hx hb dX4_legsBehind_42 (lv_at hl 0 rfl) ?_
      subst hQ_
      exact z_iret C0 hP hS (v := (s_mx (0 : Int32) (g - (((s_takes k) * n) * t)))) (by refine ⟨?_, rfl⟩; simp [s_leg, s_left, d_1, c_27]) dX4_legsBehind_44
    · skip
      refine lv_bipush (v := (99 : Int32)) hx hb dX4_legsBehind_30 (by decide) ?_
      refine lv_iload hx hb dX4_legsBehind_32 (lv_at hl 0 rfl) ?_
      refine lv_iconst (v := (5 : Int32)) hx hb dX4_legsBehind_34 (by decide) ?_
      refine lv_iadd hx hb dX4_legsBehind_35 ?_
      refine va_mmin hx hb (C0.2.2.1.trans hl.1.symm) C0.2.2.2.1 (hts _ (zm mlRX4_21)) (hts _ (zm sMath_min)) (hts _ (zm iniMath)) (hts _ (zm coMath_min)) (Nat.le_of_ble_eq_true rfl) (Nat.le_of_ble_eq_true rfl) (Nat.zero_le _) (Nat.zero_le _) dX4_legsBehind_36 ?_
      refine z_eqi (y := (s_mn (99 : Int32) ((s_mx (0 : Int32) (g - (((s_takes k) * n) * t))) + (5 : Int32)))) (by unfold s_mn; congr) ?_
      refine lv_goto (tgt := 44) hx hb dX4_legsBehind_39 (by decide) ?_
      subst hQ_
      exact z_iret C0 hP hS (v := (s_mn (99 : Int32) ((s_mx (0 : Int32) (g - (((s_takes k) * n) * t))) + (5 : Int32)))) (by refine ⟨?_, rfl⟩; simp [s_leg, s_left, d_1, c_27]) dX4_legsBehind_44
theorem flRX1_9 : Cond.fieldLink RX1 9 "WetSuitPedalsShoes$Course" "many" "I" ∈ zU := zU_m 83 (by decide +kernel) rfl
set_option maxHeartbeats 4000000 in
set_option maxRecDepth 100000 in
theorem c_X1_has (l : Launch) (E : zE) (G : zG) (c n : Nat) (i : Int32) (hc : zIs c tCou) (hn : G c 0 = nI n) (hn2 : n < 2 ^ 31) : zMi l yX1_has wsX1_has ({ frames := 0, cells := 0, slots := 0, locals := 0 } : Room) E G [.ref (E.1 c), .int i] (fun r G1 => (1 = r ∧ G = G1 ∧ ∃ j : Nat, j < n ∧ i = nI j) ∨ (0 = r ∧ G = G1 ∧ ¬ ∃ j : Nat, j < n ∧ i = nI j)) := by
  refine zOf (cc := cX1_has) (nL := 2) (ret := (some .boolean)) RX1 (by decide) rfl rfl (Nat.le_of_ble_eq_true rfl) ?_
  intro p_ e_ s_ m_ a_ b_ me_ c_ ls C0 hP hS hl
  have hx := C0.1
  have hb := C0.2.1
  have hts := C0.2.2.2.2.1
  have hD : zD E (zA E s_.heap.size) := C0.2.2.2.2.2.2.2.2
  have hA : ∀ q : Nat, s_.heap.size ≤ q → zA E s_.heap.size q := fun q h => Or.inr h
  refine z_gen (fun Q_ hQ_ => ?_)
  have hl : lv_has ls 2 [(0, .ref (E.1 c)), (1, .int i)] := hl
  refine lv_iload_n hx hb dX1_has_0 rfl (lv_at hl 1 rfl) ?_
  refine lv_if_lt (tgt := 16) hx hb dX1_has_1 (by decide) (fun c_1 => ?_) (fun c_1 => ?_)
  · skip
    refine lv_iconst (v := (0 : Int32)) hx hb dX1_has_16 (by decide) ?_
    subst hQ_
    exact z_zret C0 hP hS (v := (0 : Int32)) (by decide) (by exact Or.inr ⟨rfl, rfl, z_has0 hn2 (by first | exact Or.inl c_1 | exact Or.inr c_9)⟩) dX1_has_17
  · skip
    refine lv_iload_n hx hb dX1_has_4 rfl (lv_at hl 1 rfl) ?_
    refine lv_aload_n hx hb dX1_has_5 rfl (lv_at hl 0 rfl) ?_
    refine z_get C0 hP (C := RX1) (T := TX1) (N := 4) (ci := 1) (index := 9) (k := c) (ref := "WetSuitPedalsShoes$Course") (zk_lt (hc (0, 1, 4) (by decide)).1 (by decide)) (zd_1 E (hc (0, 1, 4) (by decide)).1 _) rfl (zmi inU_1) 0 (by decide) (zm flRX1_9) rfl (v := .int (nI n)) (congrArg (fun z => some (Value.int z)) (hn)) dX1_has_6 ?_
    refine lv_icmp_ge (tgt := 16) hx hb dX1_has_9 (by decide) (fun c_9 => ?_) (fun c_9 => ?_)
    · skip
      have d_9 := Int32.not_lt.mpr c_9
      refine lv_iconst (v := (0 : Int32)) hx hb dX1_has_16 (by decide) ?_
      subst hQ_
      exact z_zret C0 hP hS (v := (0 : Int32)) (by decide) (by exact Or.inr ⟨rfl, rfl, z_has0 hn2 (by first | exact Or.inl c_1 | exact Or.inr c_9)⟩) dX1_has_17
    · skip
      have d_9 := Int32.not_le.mp c_9
      refine lv_iconst (v := (1 : Int32)) hx hb dX1_has_12 (by decide) ?_
      refine lv_goto (tgt := 17) hx hb dX1_has_13 (by decide) ?_
      subst hQ_
      exact z_zret C0 hP hS (v := (1 : Int32)) (by decide) (by exact Or.inl ⟨rfl, rfl, z_has1 hn2 c_1 c_9⟩) dX1_has_17
set_option maxHeartbeats 4000000 in
set_option maxRecDepth 100000 in
theorem c_X1_hasN (l : Launch) (E : zE) (G : zG) (c n i : Nat) (hc : zIs c tCou) (hn : G c 0 = nI n) (hn2 : n < 2 ^ 31) (hi : i < n) : zMi l yX1_has wsX1_has ({ frames := 0, cells := 0, slots := 0, locals := 0 } : Room) E G [.ref (E.1 c), .int (nI i)] (fun r G1 => 1 = r ∧ G = G1) := by
  refine zOf (cc := cX1_has) (nL := 2) (ret := (some .boolean)) RX1 (by decide) rfl rfl (Nat.le_of_ble_eq_true rfl) ?_
  intro p_ e_ s_ m_ a_ b_ me_ c_ ls C0 hP hS hl
  have hx := C0.1
  have hb := C0.2.1
  have hts := C0.2.2.2.2.1
  have hD : zD E (zA E s_.heap.size) := C0.2.2.2.2.2.2.2.2
  have hA : ∀ q : Nat, s_.heap.size ≤ q → zA E s_.heap.size q := fun q h => Or.inr h
  refine z_gen (fun Q_ hQ_ => ?_)
  have hl : lv_has ls 2 [(0, .ref (E.1 c)), (1, .int (nI i))] := hl
  refine lv_iload_n hx hb dX1_has_0 rfl (lv_at hl 1 rfl) ?_
  refine z_0_lt hx hb (a := i) (tgt := 16) dX1_has_1 rfl (by omega) (by decide) (fun c_1 => ?_) (fun c_1 => ?_)
  · skip
    refine lv_iconst (v := (0 : Int32)) hx hb dX1_has_16 (by decide) ?_
    subst hQ_
    exact z_zret C0 hP hS (v := (0 : Int32)) (by decide) (by exact absurd hi (by omega)) dX1_has_17
  · skip
    refine lv_iload_n hx hb dX1_has_4 rfl (lv_at hl 1 rfl) ?_
    refine lv_aload_n hx hb dX1_has_5 rfl (lv_at hl 0 rfl) ?_
    refine z_get C0 hP (C := RX1) (T := TX1) (N := 4) (ci := 1) (index := 9) (k := c) (ref := "WetSuitPedalsShoes$Course") (zk_lt (hc (0, 1, 4) (by decide)).1 (by decide)) (zd_1 E (hc (0, 1, 4) (by decide)).1 _) rfl (zmi inU_1) 0 (by decide) (zm flRX1_9) rfl (v := .int (nI n)) (congrArg (fun z => some (Value.int z)) (hn)) dX1_has_6 ?_
    refine z_N_ge hx hb (a := i) (b := n) (tgt := 16) dX1_has_9 rfl rfl (by omega) (by omega) (by decide) (fun c_9 => ?_) (fun c_9 => ?_)
    · skip
      refine lv_iconst (v := (0 : Int32)) hx hb dX1_has_16 (by decide) ?_
      subst hQ_
      exact z_zret C0 hP hS (v := (0 : Int32)) (by decide) (by exact absurd hi (by omega)) dX1_has_17
    · skip
      refine lv_iconst (v := (1 : Int32)) hx hb dX1_has_12 (by decide) ?_
      refine lv_goto (tgt := 17) hx hb dX1_has_13 (by decide) ?_
      subst hQ_
      exact z_zret C0 hP hS (v := (1 : Int32)) (by decide) (by exact ⟨rfl, rfl⟩) dX1_has_17
theorem flRX3_24 : Cond.fieldLink RX3 24 "WetSuitPedalsShoes$Field" "many" "I" ∈ zU := zU_m 135 (by decide +kernel) rfl
set_option maxHeartbeats 4000000 in
set_option maxRecDepth 100000 in
theorem c_X3_has (l : Launch) (E : zE) (G : zG) (f n : Nat) (i : Int32) (hf : zIs f tFie) (hn : G f 2 = nI n) (hn2 : n < 2 ^ 31) : zMi l yX3_has wsX3_has ({ frames := 0, cells := 0, slots := 0, locals := 0 } : Room) E G [.ref (E.1 f), .int i] (fun r G1 => (1 = r ∧ G = G1 ∧ ∃ j : Nat, j < n ∧ i = nI j) ∨ (0 = r ∧ G = G1 ∧ ¬ ∃ j : Nat, j < n ∧ i = nI j)) := by
  refine zOf (cc := cX3_has) (nL := 2) (ret := (some .boolean)) RX3 (by decide) rfl rfl (Nat.le_of_ble_eq_true rfl) ?_
  intro p_ e_ s_ m_ a_ b_ me_ c_ ls C0 hP hS hl
  have hx := C0.1
  have hb := C0.2.1
  have hts := C0.2.2.2.2.1
  have hD : zD E (zA E s_.heap.size) := C0.2.2.2.2.2.2.2.2
  have hA : ∀ q : Nat, s_.heap.size ≤ q → zA E s_.heap.size q := fun q h => Or.inr h
  refine z_gen (fun Q_ hQ_ => ?_)
  have hl : lv_has ls 2 [(0, .ref (E.1 f)), (1, .int i)] := hl
  refine lv_iload_n hx hb dX3_has_0 rfl (lv_at hl 1 rfl) ?_
  refine lv_if_lt (tgt := 16) hx hb dX3_has_1 (by decide) (fun c_1 => ?_) (fun c_1 => ?_)
  · skip
    refine lv_iconst (v := (0 : Int32)) hx hb dX3_has_16 (by decide) ?_
    subst hQ_
    exact z_zret C0 hP hS (v := (0 : Int32)) (by decide) (by exact Or.inr ⟨rfl, rfl, z_has0 hn2 (by first | exact Or.inl c_1 | exact Or.inr c_9)⟩) dX3_has_17
  · skip
    refine lv_iload_n hx hb dX3_has_4 rfl (lv_at hl 1 rfl) ?_
    refine lv_aload_n hx hb dX3_has_5 rfl (lv_at hl 0 rfl) ?_
    refine z_get C0 hP (C := RX3) (T := TX3) (N := 3) (ci := 3) (index := 24) (k := f) (ref := "WetSuitPedalsShoes$Field") (zk_lt (hf (0, 3, 3) (by decide)).1 (by decide)) (zd_3 E (hf (0, 3, 3) (by decide)).1 _) rfl (zmi inU_3) 2 (by decide) (zm flRX3_24) rfl (v := .int (nI n)) (congrArg (fun z => some (Value.int z)) (hn)) dX3_has_6 ?_
    refine lv_icmp_ge (tgt := 16) hx hb dX3_has_9 (by decide) (fun c_9 => ?_) (fun c_9 => ?_)
    · skip
      have d_9 := Int32.not_lt.mpr c_9
      refine lv_iconst (v := (0 : Int32)) hx hb dX3_has_16 (by decide) ?_
      subst hQ_
      exact z_zret C0 hP hS (v := (0 : Int32)) (by decide) (by exact Or.inr ⟨rfl, rfl, z_has0 hn2 (by first | exact Or.inl c_1 | exact Or.inr c_9)⟩) dX3_has_17
    · skip
      have d_9 := Int32.not_le.mp c_9
      refine lv_iconst (v := (1 : Int32)) hx hb dX3_has_12 (by decide) ?_
      refine lv_goto (tgt := 17) hx hb dX3_has_13 (by decide) ?_
      subst hQ_
      exact z_zret C0 hP hS (v := (1 : Int32)) (by decide) (by exact Or.inl ⟨rfl, rfl, z_has1 hn2 c_1 c_9⟩) dX3_has_17
set_option maxHeartbeats 4000000 in
set_option maxRecDepth 100000 in
theorem c_X3_hasN (l : Launch) (E : zE) (G : zG) (f n i : Nat) (hf : zIs f tFie) (hn : G f 2 = nI n) (hn2 : n < 2 ^ 31) (hi : i < n) : zMi l yX3_has wsX3_has ({ frames := 0, cells := 0, slots := 0, locals := 0 } : Room) E G [.ref (E.1 f), .int (nI i)] (fun r G1 => 1 = r ∧ G = G1) := by
  refine zOf (cc := cX3_has) (nL := 2) (ret := (some .boolean)) RX3 (by decide) rfl rfl (Nat.le_of_ble_eq_true rfl) ?_
  intro p_ e_ s_ m_ a_ b_ me_ c_ ls C0 hP hS hl
  have hx := C0.1
  have hb := C0.2.1
  have hts := C0.2.2.2.2.1
  have hD : zD E (zA E s_.heap.size) := C0.2.2.2.2.2.2.2.2
  have hA : ∀ q : Nat, s_.heap.size ≤ q → zA E s_.heap.size q := fun q h => Or.inr h
  refine z_gen (fun Q_ hQ_ => ?_)
  have hl : lv_has ls 2 [(0, .ref (E.1 f)), (1, .int (nI i))] := hl
  refine lv_iload_n hx hb dX3_has_0 rfl (lv_at hl 1 rfl) ?_
  refine z_0_lt hx hb (a := i) (tgt := 16) dX3_has_1 rfl (by omega) (by decide) (fun c_1 => ?_) (fun c_1 => ?_)
  · skip
    refine lv_iconst (v := (0 : Int32)) hx hb dX3_has_16 (by decide) ?_
    subst hQ_
    exact z_zret C0 hP hS (v := (0 : Int32)) (by decide) (by exact absurd hi (by omega)) dX3_has_17
  · skip
    refine lv_iload_n hx hb dX3_has_4 rfl (lv_at hl 1 rfl) ?_
    refine lv_aload_n hx hb dX3_has_5 rfl (lv_at hl 0 rfl) ?_
    refine z_get C0 hP (C := RX3) (T := TX3) (N := 3) (ci := 3) (index := 24) (k := f) (ref := "WetSuitPedalsShoes$Field") (zk_lt (hf (0, 3, 3) (by decide)).1 (by decide)) (zd_3 E (hf (0, 3, 3) (by decide)).1 _) rfl (zmi inU_3) 2 (by decide) (zm flRX3_24) rfl (v := .int (nI n)) (congrArg (fun z => some (Value.int z)) (hn)) dX3_has_6 ?_
    refine z_N_ge hx hb (a := i) (b := n) (tgt := 16) dX3_has_9 rfl rfl (by omega) (by omega) (by decide) (fun c_9 => ?_) (fun c_9 => ?_)
    · skip
      refine lv_iconst (v := (0 : Int32)) hx hb dX3_has_16 (by decide) ?_
      subst hQ_
      exact z_zret C0 hP hS (v := (0 : Int32)) (by decide) (by exact absurd hi (by omega)) dX3_has_17
    · skip
      refine lv_iconst (v := (1 : Int32)) hx hb dX3_has_12 (by decide) ?_
      refine lv_goto (tgt := 17) hx hb dX3_has_13 (by decide) ?_
      subst hQ_
      exact z_zret C0 hP hS (v := (1 : Int32)) (by decide) (by exact ⟨rfl, rfl⟩) dX3_has_17
theorem flRX1_15 : Cond.fieldLink RX1 15 "WetSuitPedalsShoes$Course" "kind" "[I" ∈ zU := zU_m 89 (by decide +kernel) rfl
theorem mlRX1_47 : Cond.methodLink RX1 47 yX4_isRide ∈ zU := zU_m 487 (by decide +kernel) rfl
theorem coX4_isRide : Cond.code yX4_isRide cX4_isRide 1 (some .boolean) ∈ zU := zU_m 489 (by rfl) rfl
theorem stX4_isRide : Cond.static yX4_isRide ∈ zU := zU_m 488 (by decide +kernel) rfl
set_option maxHeartbeats 4000000 in
set_option maxRecDepth 100000 in
theorem c_X1_isBehindRide (l : Launch) (E : zE) (G : zG) (c i : Nat) (hc : zIs c tCou) (hi : i ≤ 10) : zMi l yX1_isBehindRide wsX1_isBehindRide ({ frames := 1, cells := 0, slots := 0, locals := 20 } : Room) E G [.ref (E.1 c), .int (nI i)] (fun r G1 => (if 0 < i ∧ s_isRide (G (c + 1) (i - 1)) = 1 then 1 else 0) = r ∧ G = G1) := by
  refine zOf (cc := cX1_isBehindRide) (nL := 2) (ret := (some .boolean)) RX1 (by decide) rfl rfl (Nat.le_of_ble_eq_true rfl) ?_
  intro p_ e_ s_ m_ a_ b_ me_ c_ ls C0 hP hS hl
  have hx := C0.1
  have hb := C0.2.1
  have hts := C0.2.2.2.2.1
  have hD : zD E (zA E s_.heap.size) := C0.2.2.2.2.2.2.2.2
  have hA : ∀ q : Nat, s_.heap.size ≤ q → zA E s_.heap.size q := fun q h => Or.inr h
  refine z_gen (fun Q_ hQ_ => ?_)
  have hl : lv_has ls 2 [(0, .ref (E.1 c)), (1, .int (nI i))] := hl
  refine lv_iload_n hx hb dX1_isBehindRide_0 rfl (lv_at hl 1 rfl) ?_
  refine z_0_le hx hb (a := i) (tgt := 22) dX1_isBehindRide_1 rfl (by omega) (by decide) (fun c_1 => ?_) (fun c_1 => ?_)
  · skip
    refine lv_iconst (v := (0 : Int32)) hx hb dX1_isBehindRide_22 (by decide) ?_
    subst hQ_
    exact z_zret C0 hP hS (v := (0 : Int32)) (by decide) (by refine ⟨?_, rfl⟩; simp [c_1]) dX1_isBehindRide_23
  · skip
    refine lv_aload_n hx hb dX1_isBehindRide_4 rfl (lv_at hl 0 rfl) ?_
    refine z_get C0 hP (C := RX1) (T := TX1) (N := 4) (ci := 1) (index := 15) (k := c) (ref := "WetSuitPedalsShoes$Course") (zk_lt (hc (0, 1, 4) (by decide)).1 (by decide)) (zd_1 E (hc (0, 1, 4) (by decide)).1 _) rfl (zmi inU_1) 1 (by decide) (zm flRX1_15) rfl (v := .ref (E.1 (c + 1))) (rfl) dX1_isBehindRide_5 ?_
    refine lv_iload_n hx hb dX1_isBehindRide_8 rfl (lv_at hl 1 rfl) ?_
    refine lv_iconst (v := (1 : Int32)) hx hb dX1_isBehindRide_9 (by decide) ?_
    refine z_isub hx hb (a := i) (b := 1) (n := i - 1) dX1_isBehindRide_10 rfl rfl (by omega) (by omega) ?_
    refine z_iald C0 hP (k := (c + 1)) (i := i - 1) (v := (G (c + 1) (i - 1))) (hc (1, 11, 10) (by decide)).1 (Nat.lt_of_lt_of_eq (show i - 1 < 10 by omega) (hc (1, 11, 10) (by decide)).2.symm) rfl dX1_isBehindRide_11 (rfl) ?_
    refine z_Si C0 hP hD hA hS (As := [.int (G (c + 1) (i - 1))]) (rest := []) (c_X4_isRide l E _ (G (c + 1) (i - 1))) (va_cwS 1 hts (zgS zbw mlRX1_47 stX4_isRide iniRX4 coX4_isRide) rfl rfl rfl (by decide +kernel) ⟨Nat.le_of_ble_eq_true rfl, Nat.le_of_ble_eq_true rfl⟩) rfl hl.1 rfl (Nat.le_of_ble_eq_true rfl) dX1_isBehindRide_12 ⟨Nat.zero_le _, Nat.zero_le _⟩ (fun r1 G1 H locs hw1 hP hS => ?_)
    obtain ⟨rfl, rfl⟩ := hw1
    refine lv_if_eq (tgt := 22) hx hb dX1_isBehindRide_15 (by decide) (fun c_15 => ?_) (fun c_15 => ?_)
    · skip
      refine lv_iconst (v := (0 : Int32)) hx hb dX1_isBehindRide_22 (by decide) ?_
      subst hQ_
      exact z_zret C0 hP hS (v := (0 : Int32)) (by decide) (by refine ⟨?_, rfl⟩; simp [c_1, c_15]) dX1_isBehindRide_23
    · skip
      have e_15 := s_ride_ne c_15
      refine lv_iconst (v := (1 : Int32)) hx hb dX1_isBehindRide_18 (by decide) ?_
      refine lv_goto (tgt := 23) hx hb dX1_isBehindRide_19 (by decide) ?_
      subst hQ_
      exact z_zret C0 hP hS (v := (1 : Int32)) (by decide) (by refine ⟨?_, rfl⟩; simp [c_1, c_15, e_15]) dX1_isBehindRide_23
theorem flRX1_22 : Cond.fieldLink RX1 22 "WetSuitPedalsShoes$Course" "length" "[I" ∈ zU := zU_m 95 (by decide +kernel) rfl
theorem flRX1_19 : Cond.fieldLink RX1 19 "WetSuitPedalsShoes$Course" "figure" "[I" ∈ zU := zU_m 93 (by decide +kernel) rfl
theorem flRX1_39 : Cond.fieldLink RX1 39 "WetSuitPedalsShoes$Athlete" "able" "[I" ∈ zU := zU_m 120 (by decide +kernel) rfl
theorem mlRX1_44 : Cond.methodLink RX1 44 yX1_isBehindRide ∈ zU := zU_m 483 (by decide +kernel) rfl
theorem coX1_isBehindRide : Cond.code yX1_isBehindRide cX1_isBehindRide 2 (some .boolean) ∈ zU := zU_m 486 (by rfl) rfl
theorem imX1_isBehindRide : Cond.instanceMethod yX1_isBehindRide ∈ zU := zU_m 485 (by decide +kernel) rfl
theorem seX1_isBehindRide : Cond.selects RX1 yX1_isBehindRide yX1_isBehindRide ∈ zU := zU_m 10 (by decide +kernel) rfl
theorem iniRX1 : Cond.initialized RX1 ∈ zU := zU_m 50 (by decide +kernel) rfl
set_option maxHeartbeats 4000000 in
set_option maxRecDepth 100000 in
theorem c_X1_untried (l : Launch) (E : zE) (G : zG) (c i a : Nat) (hc : zIs c tCou) (ha : zIs a tAth) (hi : i < 10) : zMi l yX1_untried wsX1_untried ({ frames := 2, cells := 0, slots := 0, locals := 41 } : Room) E G [.ref (E.1 c), .int (nI i), .ref (E.1 a)] (fun r G1 => s_plain (G (c + 1)) (G (c + 2)) (G (c + 3)) (G (a + 1)) i = r ∧ G = G1) := by
  refine zOf (cc := cX1_untried) (nL := 6) (ret := (some .int)) RX1 (by decide) rfl rfl (Nat.le_of_ble_eq_true rfl) ?_
  intro p_ e_ s_ m_ a_ b_ me_ c_ ls C0 hP hS hl
  have hx := C0.1
  have hb := C0.2.1
  have hts := C0.2.2.2.2.1
  have hD : zD E (zA E s_.heap.size) := C0.2.2.2.2.2.2.2.2
  have hA : ∀ q : Nat, s_.heap.size ≤ q → zA E s_.heap.size q := fun q h => Or.inr h
  refine z_gen (fun Q_ hQ_ => ?_)
  have hl : lv_has ls 6 [(0, .ref (E.1 c)), (1, .int (nI i)), (2, .ref (E.1 a))] := hl
  refine lv_aload_n hx hb dX1_untried_0 rfl (lv_at hl 0 rfl) ?_
  refine z_get C0 hP (C := RX1) (T := TX1) (N := 4) (ci := 1) (index := 22) (k := c) (ref := "WetSuitPedalsShoes$Course") (zk_lt (hc (0, 1, 4) (by decide)).1 (by decide)) (zd_1 E (hc (0, 1, 4) (by decide)).1 _) rfl (zmi inU_1) 3 (by decide) (zm flRX1_22) rfl (v := .ref (E.1 (c + 3))) (rfl) dX1_untried_1 ?_
  refine lv_iload_n hx hb dX1_untried_4 rfl (lv_at hl 1 rfl) ?_
  refine z_iald C0 hP (k := (c + 3)) (i := i) (v := (G (c + 3) i)) (hc (3, 11, 10) (by decide)).1 (Nat.lt_of_lt_of_eq (show i < 10 by omega) (hc (3, 11, 10) (by decide)).2.symm) rfl dX1_untried_5 (rfl) ?_
  refine lv_istore_n (lv' := [(3, .int (G (c + 3) i)), (0, .ref (E.1 c)), (1, .int (nI i)), (2, .ref (E.1 a))]) hx hb dX1_untried_6 rfl hl (by decide) rfl (fun ls hl => ?_)
  refine lv_aload_n hx hb dX1_untried_7 rfl (lv_at hl 1 rfl) ?_
  refine z_get C0 hP (C := RX1) (T := TX1) (N := 4) (ci := 1) (index := 19) (k := c) (ref := "WetSuitPedalsShoes$Course") (zk_lt (hc (0, 1, 4) (by decide)).1 (by decide)) (zd_1 E (hc (0, 1, 4) (by decide)).1 _) rfl (zmi inU_1) 2 (by decide) (zm flRX1_19) rfl (v := .ref (E.1 (c + 2))) (rfl) dX1_untried_8 ?_
  refine lv_iload_n hx hb dX1_untried_11 rfl (lv_at hl 2 rfl) ?_
  refine z_iald C0 hP (k := (c + 2)) (i := i) (v := (G (c + 2) i)) (hc (2, 11, 10) (by decide)).1 (Nat.lt_of_lt_of_eq (show i < 10 by omega) (hc (2, 11, 10) (by decide)).2.symm) rfl dX1_untried_12 (rfl) ?_
  refine lv_istore (lv' := [(4, .int (G (c + 2) i)), (3, .int (G (c + 3) i)), (0, .ref (E.1 c)), (1, .int (nI i)), (2, .ref (E.1 a))]) hx hb dX1_untried_13 hl (by decide) rfl (fun ls hl => ?_)
  refine lv_aload_n hx hb dX1_untried_15 rfl (lv_at hl 2 rfl) ?_
  refine z_get C0 hP (C := RX1) (T := TX1) (N := 4) (ci := 1) (index := 15) (k := c) (ref := "WetSuitPedalsShoes$Course") (zk_lt (hc (0, 1, 4) (by decide)).1 (by decide)) (zd_1 E (hc (0, 1, 4) (by decide)).1 _) rfl (zmi inU_1) 1 (by decide) (zm flRX1_15) rfl (v := .ref (E.1 (c + 1))) (rfl) dX1_untried_16 ?_
  refine lv_iload_n hx hb dX1_untried_19 rfl (lv_at hl 3 rfl) ?_
  refine z_iald C0 hP (k := (c + 1)) (i := i) (v := (G (c + 1) i)) (hc (1, 11, 10) (by decide)).1 (Nat.lt_of_lt_of_eq (show i < 10 by omega) (hc (1, 11, 10) (by decide)).2.symm) rfl dX1_untried_20 (rfl) ?_
  rcases z_sw ((G (c + 1) i)) 0 6 with hsw | ⟨k_, hk_, hsw⟩
  · skip
    refine lv_tableOut (tgt := 164) hx hb dX1_untried_21 (z_swo hsw rfl rfl) (by decide) ?_
    have hsn_21_0 : ¬ (G (c + 1) i) = (0 : Int32) := fun q => by rw [q] at hsw; revert hsw; decide
    have hsn_21_1 : ¬ (G (c + 1) i) = (1 : Int32) := fun q => by rw [q] at hsw; revert hsw; decide
    have hsn_21_2 : ¬ (G (c + 1) i) = (2 : Int32) := fun q => by rw [q] at hsw; revert hsw; decide
    have hsn_21_3 : ¬ (G (c + 1) i) = (3 : Int32) := fun q => by rw [q] at hsw; revert hsw; decide
    have hsn_21_4 : ¬ (G (c + 1) i) = (4 : Int32) := fun q => by rw [q] at hsw; revert hsw; decide
    have hsn_21_5 : ¬ (G (c + 1) i) = (5 : Int32) := fun q => by rw [q] at hsw; revert hsw; decide
    refine lv_bipush (v := (10 : Int32)) hx hb dX1_untried_164 (by decide) ?_
    refine lv_iconst (v := (5 : Int32)) hx hb dX1_untried_166 (by decide) ?_
    refine lv_iload hx hb dX1_untried_167 (lv_at hl 0 rfl) ?_
    refine lv_imul hx hb dX1_untried_169 ?_
    refine lv_iadd hx hb dX1_untried_170 ?_
    subst hQ_
    exact z_iret C0 hP hS (v := ((10 : Int32) + ((5 : Int32) * (G (c + 2) i)))) (by refine ⟨?_, rfl⟩; simp [s_plain, hsn_21_0, hsn_21_1, hsn_21_2, hsn_21_3, hsn_21_4, hsn_21_5]) dX1_untried_171
  · skip
    rcases (show k_ = 0 ∨ k_ = 1 ∨ k_ = 2 ∨ k_ = 3 ∨ k_ = 4 ∨ k_ = 5 by omega) with rfl | rfl | rfl | rfl | rfl | rfl
    · skip
      have hsw_21 : (G (c + 1) i) = (0 : Int32) := z_swi hsw (by decide)
      refine lv_tableIn (tgt := 60) (off := 39) hx hb dX1_untried_21 (by rw [hsw_21]; decide) (by rw [hsw_21]; decide) (by rw [hsw_21]; rfl) (by decide) ?_
      refine lv_iload_n hx hb dX1_untried_60 rfl (lv_at hl 1 rfl) ?_
      refine lv_bipush (v := (20 : Int32)) hx hb dX1_untried_61 (by decide) ?_
      refine lv_aload_n hx hb dX1_untried_63 rfl (lv_at hl 4 rfl) ?_
      refine z_get C0 hP (C := RX0) (T := TX0) (N := 2) (ci := 0) (index := 39) (k := a) (ref := "WetSuitPedalsShoes$Athlete") (zk_lt (ha (0, 0, 2) (by decide)).1 (by decide)) (zd_0 E (ha (0, 0, 2) (by decide)).1 _) rfl (zmi inU_0) 0 (by decide) (zm flRX1_39) rfl (v := .ref (E.1 (a + 1))) (rfl) dX1_untried_64 ?_
      refine lv_iconst (v := (0 : Int32)) hx hb dX1_untried_67 (by decide) ?_
      refine z_iald C0 hP (k := (a + 1)) (i := 0) (v := (G (a + 1) 0)) (ha (1, 11, 4) (by decide)).1 (Nat.lt_of_lt_of_eq (show 0 < 4 by decide) (ha (1, 11, 4) (by decide)).2.symm) rfl dX1_untried_68 (rfl) ?_
      refine lv_isub hx hb dX1_untried_69 ?_
      refine lv_imul hx hb dX1_untried_70 ?_
      subst hQ_
      exact z_iret C0 hP hS (v := ((G (c + 3) i) * ((20 : Int32) - (G (a + 1) 0)))) (by refine ⟨?_, rfl⟩; simp [s_plain, hsw_21]) dX1_untried_71
    · skip
      have hsw_21 : (G (c + 1) i) = (1 : Int32) := z_swi hsw (by decide)
      refine lv_tableIn (tgt := 72) (off := 51) hx hb dX1_untried_21 (by rw [hsw_21]; decide) (by rw [hsw_21]; decide) (by rw [hsw_21]; rfl) (by decide) ?_
      refine lv_iload_n hx hb dX1_untried_72 rfl (lv_at hl 1 rfl) ?_
      refine lv_bipush (v := (20 : Int32)) hx hb dX1_untried_73 (by decide) ?_
      refine lv_aload_n hx hb dX1_untried_75 rfl (lv_at hl 4 rfl) ?_
      refine z_get C0 hP (C := RX0) (T := TX0) (N := 2) (ci := 0) (index := 39) (k := a) (ref := "WetSuitPedalsShoes$Athlete") (zk_lt (ha (0, 0, 2) (by decide)).1 (by decide)) (zd_0 E (ha (0, 0, 2) (by decide)).1 _) rfl (zmi inU_0) 0 (by decide) (zm flRX1_39) rfl (v := .ref (E.1 (a + 1))) (rfl) dX1_untried_76 ?_
      refine lv_iconst (v := (0 : Int32)) hx hb dX1_untried_79 (by decide) ?_
      refine z_iald C0 hP (k := (a + 1)) (i := 0) (v := (G (a + 1) 0)) (ha (1, 11, 4) (by decide)).1 (Nat.lt_of_lt_of_eq (show 0 < 4 by decide) (ha (1, 11, 4) (by decide)).2.symm) rfl dX1_untried_80 (rfl) ?_
      refine lv_isub hx hb dX1_untried_81 ?_
      refine lv_iload hx hb dX1_untried_82 (lv_at hl 0 rfl) ?_
      refine lv_isub hx hb dX1_untried_84 ?_
      refine lv_imul hx hb dX1_untried_85 ?_
      subst hQ_
      exact z_iret C0 hP hS (v := ((G (c + 3) i) * (((20 : Int32) - (G (a + 1) 0)) - (G (c + 2) i)))) (by refine ⟨?_, rfl⟩; simp [s_plain, hsw_21]) dX1_untried_86
    · skip
      have hsw_21 : (G (c + 1) i) = (2 : Int32) := z_swi hsw (by decide)
      refine lv_tableIn (tgt := 87) (off := 66) hx hb dX1_untried_21 (by rw [hsw_21]; decide) (by rw [hsw_21]; decide) (by rw [hsw_21]; rfl) (by decide) ?_
      refine lv_iload_n hx hb dX1_untried_87 rfl (lv_at hl 1 rfl) ?_
      refine lv_bipush (v := (20 : Int32)) hx hb dX1_untried_88 (by decide) ?_
      refine lv_aload_n hx hb dX1_untried_90 rfl (lv_at hl 4 rfl) ?_
      refine z_get C0 hP (C := RX0) (T := TX0) (N := 2) (ci := 0) (index := 39) (k := a) (ref := "WetSuitPedalsShoes$Athlete") (zk_lt (ha (0, 0, 2) (by decide)).1 (by decide)) (zd_0 E (ha (0, 0, 2) (by decide)).1 _) rfl (zmi inU_0) 0 (by decide) (zm flRX1_39) rfl (v := .ref (E.1 (a + 1))) (rfl) dX1_untried_91 ?_
      refine lv_iconst (v := (1 : Int32)) hx hb dX1_untried_94 (by decide) ?_
      refine z_iald C0 hP (k := (a + 1)) (i := 1) (v := (G (a + 1) 1)) (ha (1, 11, 4) (by decide)).1 (Nat.lt_of_lt_of_eq (show 1 < 4 by decide) (ha (1, 11, 4) (by decide)).2.symm) rfl dX1_untried_95 (rfl) ?_
      refine lv_isub hx hb dX1_untried_96 ?_
      refine lv_imul hx hb dX1_untried_97 ?_
      subst hQ_
      exact z_iret C0 hP hS (v := ((G (c + 3) i) * ((20 : Int32) - (G (a + 1) 1)))) (by refine ⟨?_, rfl⟩; simp [s_plain, hsw_21]) dX1_untried_98
    · skip
      have hsw_21 : (G (c + 1) i) = (3 : Int32) := z_swi hsw (by decide)
      refine lv_tableIn (tgt := 99) (off := 78) hx hb dX1_untried_21 (by rw [hsw_21]; decide) (by rw [hsw_21]; decide) (by rw [hsw_21]; rfl) (by decide) ?_
      refine lv_iload_n hx hb dX1_untried_99 rfl (lv_at hl 1 rfl) ?_
      refine lv_bipush (v := (20 : Int32)) hx hb dX1_untried_100 (by decide) ?_
      refine lv_aload_n hx hb dX1_untried_102 rfl (lv_at hl 4 rfl) ?_
      refine z_get C0 hP (C := RX0) (T := TX0) (N := 2) (ci := 0) (index := 39) (k := a) (ref := "WetSuitPedalsShoes$Athlete") (zk_lt (ha (0, 0, 2) (by decide)).1 (by decide)) (zd_0 E (ha (0, 0, 2) (by decide)).1 _) rfl (zmi inU_0) 0 (by decide) (zm flRX1_39) rfl (v := .ref (E.1 (a + 1))) (rfl) dX1_untried_103 ?_
      refine lv_iconst (v := (1 : Int32)) hx hb dX1_untried_106 (by decide) ?_
      refine z_iald C0 hP (k := (a + 1)) (i := 1) (v := (G (a + 1) 1)) (ha (1, 11, 4) (by decide)).1 (Nat.lt_of_lt_of_eq (show 1 < 4 by decide) (ha (1, 11, 4) (by decide)).2.symm) rfl dX1_untried_107 (rfl) ?_
      refine lv_isub hx hb dX1_untried_108 ?_
      refine lv_iload hx hb dX1_untried_109 (lv_at hl 0 rfl) ?_
      refine lv_iadd hx hb dX1_untried_111 ?_
      refine lv_imul hx hb dX1_untried_112 ?_
      subst hQ_
      exact z_iret C0 hP hS (v := ((G (c + 3) i) * (((20 : Int32) - (G (a + 1) 1)) + (G (c + 2) i)))) (by refine ⟨?_, rfl⟩; simp [s_plain, hsw_21]) dX1_untried_113
    · skip
      have hsw_21 : (G (c + 1) i) = (4 : Int32) := z_swi hsw (by decide)
      refine lv_tableIn (tgt := 114) (off := 93) hx hb dX1_untried_21 (by rw [hsw_21]; decide) (by rw [hsw_21]; decide) (by rw [hsw_21]; rfl) (by decide) ?_
      refine lv_iload_n hx hb dX1_untried_114 rfl (lv_at hl 1 rfl) ?_
      refine lv_bipush (v := (20 : Int32)) hx hb dX1_untried_115 (by decide) ?_
      refine lv_aload_n hx hb dX1_untried_117 rfl (lv_at hl 4 rfl) ?_
      refine z_get C0 hP (C := RX0) (T := TX0) (N := 2) (ci := 0) (index := 39) (k := a) (ref := "WetSuitPedalsShoes$Athlete") (zk_lt (ha (0, 0, 2) (by decide)).1 (by decide)) (zd_0 E (ha (0, 0, 2) (by decide)).1 _) rfl (zmi inU_0) 0 (by decide) (zm flRX1_39) rfl (v := .ref (E.1 (a + 1))) (rfl) dX1_untried_118 ?_
      refine lv_iconst (v := (1 : Int32)) hx hb dX1_untried_121 (by decide) ?_
      refine z_iald C0 hP (k := (a + 1)) (i := 1) (v := (G (a + 1) 1)) (ha (1, 11, 4) (by decide)).1 (Nat.lt_of_lt_of_eq (show 1 < 4 by decide) (ha (1, 11, 4) (by decide)).2.symm) rfl dX1_untried_122 (rfl) ?_
      refine lv_isub hx hb dX1_untried_123 ?_
      refine lv_iload hx hb dX1_untried_124 (lv_at hl 0 rfl) ?_
      refine lv_iconst (v := (2 : Int32)) hx hb dX1_untried_126 (by decide) ?_
      refine lv_idiv hx hb dX1_untried_127 (by decide) ?_
      refine lv_iadd hx hb dX1_untried_128 ?_
      refine lv_imul hx hb dX1_untried_129 ?_
      subst hQ_
      exact z_iret C0 hP hS (v := ((G (c + 3) i) * (((20 : Int32) - (G (a + 1) 1)) + ((G (c + 2) i) / (2 : Int32))))) (by refine ⟨?_, rfl⟩; simp [s_plain, hsw_21]) dX1_untried_130
    · skip
      have hsw_21 : (G (c + 1) i) = (5 : Int32) := z_swi hsw (by decide)
      refine lv_tableIn (tgt := 131) (off := 110) hx hb dX1_untried_21 (by rw [hsw_21]; decide) (by rw [hsw_21]; decide) (by rw [hsw_21]; rfl) (by decide) ?_
      refine lv_aload_n hx hb dX1_untried_131 rfl (lv_at hl 2 rfl) ?_
      refine lv_iload_n hx hb dX1_untried_132 rfl (lv_at hl 3 rfl) ?_
      refine z_Vi C0 hP hD hA hS (As := [.int (nI i)]) (rest := []) (k := c) (c_X1_isBehindRide l E _ c i hc (by omega)) (cwV 1 hts (zgV zbw mlRX1_44 imX1_isBehindRide seX1_isBehindRide iniRX1 coX1_isBehindRide) rfl rfl rfl (by decide +kernel) ⟨Nat.le_of_ble_eq_true rfl, Nat.le_of_ble_eq_true rfl⟩) (zk_lt (hc (0, 1, 4) (by decide)).1 (by decide)) (zd_1 E (hc (0, 1, 4) (by decide)).1 _) rfl rfl rfl hl.1 rfl (Nat.le_of_ble_eq_true rfl) dX1_untried_133 ⟨Nat.zero_le _, Nat.zero_le _⟩ (fun r1 G1 H locs hw1 hP hS => ?_)
      obtain ⟨hr1, rfl⟩ := hw1
      subst hr1
      refine lv_if_eq (tgt := 146) hx hb dX1_untried_136 (by decide) (fun c_136 => ?_) (fun c_136 => ?_)
      · skip
        have e_136 := s_if0 c_136
        refine lv_iconst (v := (0 : Int32)) hx hb dX1_untried_146 (by decide) ?_
        refine lv_istore (lv' := [(5, .int (0 : Int32)), (4, .int (G (c + 2) i)), (3, .int (G (c + 3) i)), (0, .ref (E.1 c)), (1, .int (nI i)), (2, .ref (E.1 a))]) hx hb dX1_untried_147 hl (by decide) rfl (fun ls hl => ?_)
        refine lv_iload_n hx hb dX1_untried_149 rfl (lv_at hl 2 rfl) ?_
        refine lv_bipush (v := (22 : Int32)) hx hb dX1_untried_150 (by decide) ?_
        refine lv_aload_n hx hb dX1_untried_152 rfl (lv_at hl 5 rfl) ?_
        refine z_get C0 hP (C := RX0) (T := TX0) (N := 2) (ci := 0) (index := 39) (k := a) (ref := "WetSuitPedalsShoes$Athlete") (zk_lt (ha (0, 0, 2) (by decide)).1 (by decide)) (zd_0 E (ha (0, 0, 2) (by decide)).1 _) rfl (zmi inU_0) 0 (by decide) (zm flRX1_39) rfl (v := .ref (E.1 (a + 1))) (rfl) dX1_untried_153 ?_
        refine lv_iconst (v := (2 : Int32)) hx hb dX1_untried_156 (by decide) ?_
        refine z_iald C0 hP (k := (a + 1)) (i := 2) (v := (G (a + 1) 2)) (ha (1, 11, 4) (by decide)).1 (Nat.lt_of_lt_of_eq (show 2 < 4 by decide) (ha (1, 11, 4) (by decide)).2.symm) rfl dX1_untried_157 (rfl) ?_
        refine lv_isub hx hb dX1_untried_158 ?_
        refine lv_imul hx hb dX1_untried_159 ?_
        refine lv_iload hx hb dX1_untried_160 (lv_at hl 0 rfl) ?_
        refine lv_iadd hx hb dX1_untried_162 ?_
        subst hQ_
        exact z_iret C0 hP hS (v := (((G (c + 3) i) * ((22 : Int32) - (G (a + 1) 2))) + (0 : Int32))) (by refine ⟨?_, rfl⟩; simp [s_plain, hsw_21, c_136, e_136]) dX1_untried_163
      · skip
        have e_136 := s_if1 c_136
        refine lv_iload_n hx hb dX1_untried_139 rfl (lv_at hl 1 rfl) ?_
        refine lv_iload hx hb dX1_untried_140 (lv_at hl 0 rfl) ?_
        refine lv_iadd hx hb dX1_untried_142 ?_
        refine lv_goto (tgt := 147) hx hb dX1_untried_143 (by decide) ?_
        refine lv_istore (lv' := [(5, .int ((G (c + 3) i) + (G (c + 2) i))), (4, .int (G (c + 2) i)), (3, .int (G (c + 3) i)), (0, .ref (E.1 c)), (1, .int (nI i)), (2, .ref (E.1 a))]) hx hb dX1_untried_147 hl (by decide) rfl (fun ls hl => ?_)
        refine lv_iload_n hx hb dX1_untried_149 rfl (lv_at hl 2 rfl) ?_
        refine lv_bipush (v := (22 : Int32)) hx hb dX1_untried_150 (by decide) ?_
        refine lv_aload_n hx hb dX1_untried_152 rfl (lv_at hl 5 rfl) ?_
        refine z_get C0 hP (C := RX0) (T := TX0) (N := 2) (ci := 0) (index := 39) (k := a) (ref := "WetSuitPedalsShoes$Athlete") (zk_lt (ha (0, 0, 2) (by decide)).1 (by decide)) (zd_0 E (ha (0, 0, 2) (by decide)).1 _) rfl (zmi inU_0) 0 (by decide) (zm flRX1_39) rfl (v := .ref (E.1 (a + 1))) (rfl) dX1_untried_153 ?_
        refine lv_iconst (v := (2 : Int32)) hx hb dX1_untried_156 (by decide) ?_
        refine z_iald C0 hP (k := (a + 1)) (i := 2) (v := (G (a + 1) 2)) (ha (1, 11, 4) (by decide)).1 (Nat.lt_of_lt_of_eq (show 2 < 4 by decide) (ha (1, 11, 4) (by decide)).2.symm) rfl dX1_untried_157 (rfl) ?_
        refine lv_isub hx hb dX1_untried_158 ?_
        refine lv_imul hx hb dX1_untried_159 ?_
        refine lv_iload hx hb dX1_untried_160 (lv_at hl 0 rfl) ?_
        refine lv_iadd hx hb dX1_untried_162 ?_
        subst hQ_
        exact z_iret C0 hP hS (v := (((G (c + 3) i) * ((22 : Int32) - (G (a + 1) 2))) + ((G (c + 3) i) + (G (c + 2) i)))) (by refine ⟨?_, rfl⟩; simp [s_plain, hsw_21, c_136, e_136]) dX1_untried_163
end
section
/-! laid by wip/whole/vcg.py -/
theorem flRX0_9 : Cond.fieldLink RX0 9 "WetSuitPedalsShoes$Athlete" "able" "[I" ∈ zU := zU_m 116 (by decide +kernel) rfl
theorem mlRX0_18 : Cond.methodLink RX0 18 arraycopyName ∈ zU := zU_m 474 (by decide +kernel) rfl
theorem natAC : Cond.native arraycopyName ∈ zU := zU_m 469 (by decide +kernel) rfl
theorem staAC : Cond.static arraycopyName ∈ zU := zU_m 468 (by decide +kernel) rfl
theorem iniSys : Cond.initialized "java/lang/System" ∈ zU := zU_m 60 (by decide +kernel) rfl
theorem flRX0_15 : Cond.fieldLink RX0 15 "WetSuitPedalsShoes$Athlete" "tries" "[I" ∈ zU := zU_m 121 (by decide +kernel) rfl
set_option maxHeartbeats 4000000 in
set_option maxRecDepth 100000 in
theorem c_X0_become (l : Launch) (E : zE) (G : zG) (a o : Nat) (ha : zIs a tAth) (ho : zIs o tAth) (hd : a + 2 < o ∨ o + 2 < a) : zMv l yX0_become wsX0_become ({ frames := 1, cells := 0, slots := 0, locals := 26 } : Room) E G [.ref (E.1 a), .ref (E.1 o)] (fun G1 => (∀ k, (k < a + 1 ∨ a + 2 < k) → G1 k = G k) ∧ (∀ j, j < 4 → G1 (a + 1) j = G (o + 1) j) ∧ (∀ j, j < 10 → G1 (a + 2) j = G (o + 2) j)) := by
  refine zOf (cc := cX0_become) (nL := 2) (ret := none) RX0 (by decide) rfl rfl (Nat.le_of_ble_eq_true rfl) ?_
  intro p_ e_ s_ m_ a_ b_ me_ c_ ls C0 hP hS hl
  have hx := C0.1
  have hb := C0.2.1
  have hts := C0.2.2.2.2.1
  have hD : zD E (zA E s_.heap.size) := C0.2.2.2.2.2.2.2.2
  have hA : ∀ q : Nat, s_.heap.size ≤ q → zA E s_.heap.size q := fun q h => Or.inr h
  refine z_gen (fun Q_ hQ_ => ?_)
  have hl : lv_has ls 2 [(0, .ref (E.1 a)), (1, .ref (E.1 o))] := hl
  refine lv_aload_n hx hb dX0_become_0 rfl (lv_at hl 1 rfl) ?_
  refine z_get C0 hP (C := RX0) (T := TX0) (N := 2) (ci := 0) (index := 9) (k := o) (ref := "WetSuitPedalsShoes$Athlete") (zk_lt (ho (0, 0, 2) (by decide)).1 (by decide)) (zd_0 E (ho (0, 0, 2) (by decide)).1 _) rfl (zmi inU_0) 0 (by decide) (zm flRX0_9) rfl (v := .ref (E.1 (o + 1))) (rfl) dX0_become_1 ?_
  refine lv_iconst (v := (0 : Int32)) hx hb dX0_become_4 (by decide) ?_
  refine lv_aload_n hx hb dX0_become_5 rfl (lv_at hl 0 rfl) ?_
  refine z_get C0 hP (C := RX0) (T := TX0) (N := 2) (ci := 0) (index := 9) (k := a) (ref := "WetSuitPedalsShoes$Athlete") (zk_lt (ha (0, 0, 2) (by decide)).1 (by decide)) (zd_0 E (ha (0, 0, 2) (by decide)).1 _) rfl (zmi inU_0) 0 (by decide) (zm flRX0_9) rfl (v := .ref (E.1 (a + 1))) (rfl) dX0_become_6 ?_
  refine lv_iconst (v := (0 : Int32)) hx hb dX0_become_9 (by decide) ?_
  refine lv_aload_n hx hb dX0_become_10 rfl (lv_at hl 0 rfl) ?_
  refine z_get C0 hP (C := RX0) (T := TX0) (N := 2) (ci := 0) (index := 9) (k := a) (ref := "WetSuitPedalsShoes$Athlete") (zk_lt (ha (0, 0, 2) (by decide)).1 (by decide)) (zd_0 E (ha (0, 0, 2) (by decide)).1 _) rfl (zmi inU_0) 0 (by decide) (zm flRX0_9) rfl (v := .ref (E.1 (a + 1))) (rfl) dX0_become_11 ?_
  refine z_alen C0 hP (k := (a + 1)) (v := (4 : Int32)) (ha (1, 11, 4) (by decide)).1 ((congrArg Int32.ofNat (ha (1, 11, 4) (by decide)).2).trans rfl) dX0_become_14 ?_
  refine z_copy C0 hP hD hS hl.1 (k0 := (o + 1)) (k := (a + 1)) (F0_ := G (o + 1)) (F := G (a + 1)) (sz := 4) (rfl) (rfl) (ho (1, 11, 4) (by decide)).1 (ha (1, 11, 4) (by decide)).1 (Nat.le_trans (show 4 ≤ 4 by decide) (Nat.le_of_eq (ho (1, 11, 4) (by decide)).2.symm)) (Nat.le_trans (show 4 ≤ 4 by decide) (Nat.le_of_eq (ha (1, 11, 4) (by decide)).2.symm)) (by decide) (hts _ (zm mlRX0_18)) (hts _ (zm natAC)) (hts _ (zm staAC)) (hts _ (zm iniSys)) (Nat.le_of_ble_eq_true rfl) (by show _ ≤ _; decide +kernel) dX0_become_15 rfl (fun f_1 hf_1 H locs hP hS => ?_)
  refine lv_aload_n hx hb dX0_become_18 rfl (lv_at hl 1 rfl) ?_
  refine z_get C0 hP (C := RX0) (T := TX0) (N := 2) (ci := 0) (index := 15) (k := o) (ref := "WetSuitPedalsShoes$Athlete") (zk_lt (ho (0, 0, 2) (by decide)).1 (by decide)) (zd_0 E (ho (0, 0, 2) (by decide)).1 _) rfl (zmi inU_0) 1 (by decide) (zm flRX0_15) rfl (v := .ref (E.1 (o + 2))) (rfl) dX0_become_19 ?_
  refine lv_iconst (v := (0 : Int32)) hx hb dX0_become_22 (by decide) ?_
  refine lv_aload_n hx hb dX0_become_23 rfl (lv_at hl 0 rfl) ?_
  refine z_get C0 hP (C := RX0) (T := TX0) (N := 2) (ci := 0) (index := 15) (k := a) (ref := "WetSuitPedalsShoes$Athlete") (zk_lt (ha (0, 0, 2) (by decide)).1 (by decide)) (zd_0 E (ha (0, 0, 2) (by decide)).1 _) rfl (zmi inU_0) 1 (by decide) (zm flRX0_15) rfl (v := .ref (E.1 (a + 2))) (rfl) dX0_become_24 ?_
  refine lv_iconst (v := (0 : Int32)) hx hb dX0_become_27 (by decide) ?_
  refine lv_bipush (v := (10 : Int32)) hx hb dX0_become_28 (by decide) ?_
  refine z_copy C0 hP hD hS hl.1 (k0 := (o + 2)) (k := (a + 2)) (F0_ := G (o + 2)) (F := G (a + 2)) (sz := 10) (g1_n (by omega)) (g1_n (by omega)) (ho (2, 11, 10) (by decide)).1 (ha (2, 11, 10) (by decide)).1 (Nat.le_trans (show 10 ≤ 10 by decide) (Nat.le_of_eq (ho (2, 11, 10) (by decide)).2.symm)) (Nat.le_trans (show 10 ≤ 10 by decide) (Nat.le_of_eq (ha (2, 11, 10) (by decide)).2.symm)) (by decide) (hts _ (zm mlRX0_18)) (hts _ (zm natAC)) (hts _ (zm staAC)) (hts _ (zm iniSys)) (Nat.le_of_ble_eq_true rfl) (by show _ ≤ _; decide +kernel) dX0_become_30 rfl (fun f_2 hf_2 H locs hP hS => ?_)
  subst hQ_
  exact z_vret C0 hP hS (by exact ⟨(by exact fun k hk => (g1_n (by omega)).trans (g1_n (by omega))), (fun j hj => (congrFun ((g1_n (by omega)).trans (g1_s _ _ _)) j).trans (hf_1 j hj)), (fun j hj => (congrFun (g1_s _ _ _) j).trans (hf_2 j hj))⟩) dX0_become_33
theorem mlRX1_25 : Cond.methodLink RX1 25 arraycopyName ∈ zU := zU_m 467 (by decide +kernel) rfl
set_option maxHeartbeats 4000000 in
set_option maxRecDepth 100000 in
theorem c_X1_become (l : Launch) (E : zE) (G : zG) (c o : Nat) (hc : zIs c tCou) (ho : zIs o tCou) (hd : c + 3 < o ∨ o + 3 < c) : zMv l yX1_become wsX1_become ({ frames := 1, cells := 0, slots := 0, locals := 26 } : Room) E G [.ref (E.1 c), .ref (E.1 o)] (fun G1 => (∀ k, (k < c ∨ c + 3 < k) → G1 k = G k) ∧ G1 c 0 = G o 0 ∧ ∀ j, j < 10 → G1 (c + 1) j = G (o + 1) j ∧ G1 (c + 2) j = G (o + 2) j ∧ G1 (c + 3) j = G (o + 3) j) := by
  refine zOf (cc := cX1_become) (nL := 2) (ret := none) RX1 (by decide) rfl rfl (Nat.le_of_ble_eq_true rfl) ?_
  intro p_ e_ s_ m_ a_ b_ me_ c_ ls C0 hP hS hl
  have hx := C0.1
  have hb := C0.2.1
  have hts := C0.2.2.2.2.1
  have hD : zD E (zA E s_.heap.size) := C0.2.2.2.2.2.2.2.2
  have hA : ∀ q : Nat, s_.heap.size ≤ q → zA E s_.heap.size q := fun q h => Or.inr h
  refine z_gen (fun Q_ hQ_ => ?_)
  have hl : lv_has ls 2 [(0, .ref (E.1 c)), (1, .ref (E.1 o))] := hl
  refine lv_aload_n hx hb dX1_become_0 rfl (lv_at hl 0 rfl) ?_
  refine lv_aload_n hx hb dX1_become_1 rfl (lv_at hl 1 rfl) ?_
  refine z_get C0 hP (C := RX1) (T := TX1) (N := 4) (ci := 1) (index := 9) (k := o) (ref := "WetSuitPedalsShoes$Course") (zk_lt (ho (0, 1, 4) (by decide)).1 (by decide)) (zd_1 E (ho (0, 1, 4) (by decide)).1 _) rfl (zmi inU_1) 0 (by decide) (zm flRX1_9) rfl (v := .int (G o 0)) (rfl) dX1_become_2 ?_
  refine z_put C0 hP hD hS (C := RX1) (T := TX1) (N := 4) (ci := 1) (index := 9) (k := c) (ref := "WetSuitPedalsShoes$Course") (F := G c) (ty := .int) (rfl) tyX1 tyX1_ok nmX1 (zk_lt (hc (0, 1, 4) (by decide)).1 (by decide)) (zd_1 E (hc (0, 1, 4) (by decide)).1 _) rfl (zmi inU_1) 0 (by decide) (zm flRX1_9) rfl rfl (by decide +kernel) (by rfl) rfl (by show 0 < 4; decide) (upd (G c) 0 (G o 0)) ((zd_1 E (hc (0, 1, 4) (by decide)).1 _).trans (rfl)) dX1_become_5 (fun H locs hP hS => ?_)
  refine lv_aload_n hx hb dX1_become_8 rfl (lv_at hl 1 rfl) ?_
  refine z_get C0 hP (C := RX1) (T := TX1) (N := 4) (ci := 1) (index := 15) (k := o) (ref := "WetSuitPedalsShoes$Course") (zk_lt (ho (0, 1, 4) (by decide)).1 (by decide)) (zd_1 E (ho (0, 1, 4) (by decide)).1 _) rfl (zmi inU_1) 1 (by decide) (zm flRX1_15) rfl (v := .ref (E.1 (o + 1))) (rfl) dX1_become_9 ?_
  refine lv_iconst (v := (0 : Int32)) hx hb dX1_become_12 (by decide) ?_
  refine lv_aload_n hx hb dX1_become_13 rfl (lv_at hl 0 rfl) ?_
  refine z_get C0 hP (C := RX1) (T := TX1) (N := 4) (ci := 1) (index := 15) (k := c) (ref := "WetSuitPedalsShoes$Course") (zk_lt (hc (0, 1, 4) (by decide)).1 (by decide)) (zd_1 E (hc (0, 1, 4) (by decide)).1 _) rfl (zmi inU_1) 1 (by decide) (zm flRX1_15) rfl (v := .ref (E.1 (c + 1))) (rfl) dX1_become_14 ?_
  refine lv_iconst (v := (0 : Int32)) hx hb dX1_become_17 (by decide) ?_
  refine lv_bipush (v := (10 : Int32)) hx hb dX1_become_18 (by decide) ?_
  refine z_copy C0 hP hD hS hl.1 (k0 := (o + 1)) (k := (c + 1)) (F0_ := G (o + 1)) (F := G (c + 1)) (sz := 10) (g1_n (by omega)) (g1_n (by omega)) (ho (1, 11, 10) (by decide)).1 (hc (1, 11, 10) (by decide)).1 (Nat.le_trans (show 10 ≤ 10 by decide) (Nat.le_of_eq (ho (1, 11, 10) (by decide)).2.symm)) (Nat.le_trans (show 10 ≤ 10 by decide) (Nat.le_of_eq (hc (1, 11, 10) (by decide)).2.symm)) (by decide) (hts _ (zm mlRX1_25)) (hts _ (zm natAC)) (hts _ (zm staAC)) (hts _ (zm iniSys)) (Nat.le_of_ble_eq_true rfl) (by show _ ≤ _; decide +kernel) dX1_become_20 rfl (fun f_1 hf_1 H locs hP hS => ?_)
  refine lv_aload_n hx hb dX1_become_23 rfl (lv_at hl 1 rfl) ?_
  refine z_get C0 hP (C := RX1) (T := TX1) (N := 4) (ci := 1) (index := 19) (k := o) (ref := "WetSuitPedalsShoes$Course") (zk_lt (ho (0, 1, 4) (by decide)).1 (by decide)) (zd_1 E (ho (0, 1, 4) (by decide)).1 _) rfl (zmi inU_1) 2 (by decide) (zm flRX1_19) rfl (v := .ref (E.1 (o + 2))) (rfl) dX1_become_24 ?_
  refine lv_iconst (v := (0 : Int32)) hx hb dX1_become_27 (by decide) ?_
  refine lv_aload_n hx hb dX1_become_28 rfl (lv_at hl 0 rfl) ?_
  refine z_get C0 hP (C := RX1) (T := TX1) (N := 4) (ci := 1) (index := 19) (k := c) (ref := "WetSuitPedalsShoes$Course") (zk_lt (hc (0, 1, 4) (by decide)).1 (by decide)) (zd_1 E (hc (0, 1, 4) (by decide)).1 _) rfl (zmi inU_1) 2 (by decide) (zm flRX1_19) rfl (v := .ref (E.1 (c + 2))) (rfl) dX1_become_29 ?_
  refine lv_iconst (v := (0 : Int32)) hx hb dX1_become_32 (by decide) ?_
  refine lv_bipush (v := (10 : Int32)) hx hb dX1_become_33 (by decide) ?_
  refine z_copy C0 hP hD hS hl.1 (k0 := (o + 2)) (k := (c + 2)) (F0_ := G (o + 2)) (F := G (c + 2)) (sz := 10) ((g1_n (by omega)).trans (g1_n (by omega))) ((g1_n (by omega)).trans (g1_n (by omega))) (ho (2, 11, 10) (by decide)).1 (hc (2, 11, 10) (by decide)).1 (Nat.le_trans (show 10 ≤ 10 by decide) (Nat.le_of_eq (ho (2, 11, 10) (by decide)).2.symm)) (Nat.le_trans (show 10 ≤ 10 by decide) (Nat.le_of_eq (hc (2, 11, 10) (by decide)).2.symm)) (by decide) (hts _ (zm mlRX1_25)) (hts _ (zm natAC)) (hts _ (zm staAC)) (hts _ (zm iniSys)) (Nat.le_of_ble_eq_true rfl) (by show _ ≤ _; decide +kernel) dX1_become_35 rfl (fun f_2 hf_2 H locs hP hS => ?_)
  refine lv_aload_n hx hb dX1_become_38 rfl (lv_at hl 1 rfl) ?_
  refine z_get C0 hP (C := RX1) (T := TX1) (N := 4) (ci := 1) (index := 22) (k := o) (ref := "WetSuitPedalsShoes$Course") (zk_lt (ho (0, 1, 4) (by decide)).1 (by decide)) (zd_1 E (ho (0, 1, 4) (by decide)).1 _) rfl (zmi inU_1) 3 (by decide) (zm flRX1_22) rfl (v := .ref (E.1 (o + 3))) (rfl) dX1_become_39 ?_
  refine lv_iconst (v := (0 : Int32)) hx hb dX1_become_42 (by decide) ?_
  refine lv_aload_n hx hb dX1_become_43 rfl (lv_at hl 0 rfl) ?_
  refine z_get C0 hP (C := RX1) (T := TX1) (N := 4) (ci := 1) (index := 22) (k := c) (ref := "WetSuitPedalsShoes$Course") (zk_lt (hc (0, 1, 4) (by decide)).1 (by decide)) (zd_1 E (hc (0, 1, 4) (by decide)).1 _) rfl (zmi inU_1) 3 (by decide) (zm flRX1_22) rfl (v := .ref (E.1 (c + 3))) (rfl) dX1_become_44 ?_
  refine lv_iconst (v := (0 : Int32)) hx hb dX1_become_47 (by decide) ?_
  refine lv_bipush (v := (10 : Int32)) hx hb dX1_become_48 (by decide) ?_
  refine z_copy C0 hP hD hS hl.1 (k0 := (o + 3)) (k := (c + 3)) (F0_ := G (o + 3)) (F := G (c + 3)) (sz := 10) ((g1_n (by omega)).trans ((g1_n (by omega)).trans (g1_n (by omega)))) ((g1_n (by omega)).trans ((g1_n (by omega)).trans (g1_n (by omega)))) (ho (3, 11, 10) (by decide)).1 (hc (3, 11, 10) (by decide)).1 (Nat.le_trans (show 10 ≤ 10 by decide) (Nat.le_of_eq (ho (3, 11, 10) (by decide)).2.symm)) (Nat.le_trans (show 10 ≤ 10 by decide) (Nat.le_of_eq (hc (3, 11, 10) (by decide)).2.symm)) (by decide) (hts _ (zm mlRX1_25)) (hts _ (zm natAC)) (hts _ (zm staAC)) (hts _ (zm iniSys)) (Nat.le_of_ble_eq_true rfl) (by show _ ≤ _; decide +kernel) dX1_become_50 rfl (fun f_3 hf_3 H locs hP hS => ?_)
  subst hQ_
  exact z_vret C0 hP hS (by exact ⟨(by exact fun k hk => (g1_n (by omega)).trans ((g1_n (by omega)).trans ((g1_n (by omega)).trans (g1_n (by omega))))), (congrFun ((g1_n (by omega)).trans ((g1_n (by omega)).trans ((g1_n (by omega)).trans (g1_s _ _ _)))) _).trans (pk_us), (fun j hj => ⟨(congrFun ((g1_n (by omega)).trans ((g1_n (by omega)).trans (g1_s _ _ _))) j).trans (hf_1 j hj), (congrFun ((g1_n (by omega)).trans (g1_s _ _ _)) j).trans (hf_2 j hj), (congrFun (g1_s _ _ _) j).trans (hf_3 j hj)⟩)⟩) dX1_become_53
theorem flRX10_12 : Cond.fieldLink RX10 12 "WetSuitPedalsShoes$Trial" "course" "LWetSuitPedalsShoes$Course;" ∈ zU := zU_m 184 (by decide +kernel) rfl
theorem mlRX10_39 : Cond.methodLink RX10 39 yX1_become ∈ zU := zU_m 463 (by decide +kernel) rfl
theorem coX1_become : Cond.code yX1_become cX1_become 2 none ∈ zU := zU_m 466 (by rfl) rfl
theorem imX1_become : Cond.instanceMethod yX1_become ∈ zU := zU_m 464 (by decide +kernel) rfl
theorem seX1_become : Cond.selects RX1 yX1_become yX1_become ∈ zU := zU_m 465 (by decide +kernel) rfl
theorem flRX10_21 : Cond.fieldLink RX10 21 "WetSuitPedalsShoes$Trial" "who" "LWetSuitPedalsShoes$Athlete;" ∈ zU := zU_m 186 (by decide +kernel) rfl
theorem mlRX10_43 : Cond.methodLink RX10 43 yX0_become ∈ zU := zU_m 470 (by decide +kernel) rfl
theorem coX0_become : Cond.code yX0_become cX0_become 2 none ∈ zU := zU_m 473 (by rfl) rfl
theorem imX0_become : Cond.instanceMethod yX0_become ∈ zU := zU_m 471 (by decide +kernel) rfl
theorem seX0_become : Cond.selects RX0 yX0_become yX0_become ∈ zU := zU_m 472 (by decide +kernel) rfl
theorem iniRX0 : Cond.initialized RX0 ∈ zU := zU_m 51 (by decide +kernel) rfl
theorem flRX10_25 : Cond.fieldLink RX10 25 "WetSuitPedalsShoes$Trial" "drinkBehind" "I" ∈ zU := zU_m 188 (by decide +kernel) rfl
set_option maxHeartbeats 4000000 in
set_option maxRecDepth 100000 in
theorem c_X10_load (l : Launch) (E : zE) (G : zG) (t c a : Nat) (ht : zIs t tTri) (hc : zIs c tCou) (ha : zIs a tAth) (hd : t + 10 < c ∨ c + 3 < t) (hd2 : t + 10 < a ∨ a + 2 < t) : zMv l yX10_load wsX10_load ({ frames := 2, cells := 0, slots := 0, locals := 47 } : Room) E G [.ref (E.1 t), .ref (E.1 c), .ref (E.1 a)] (fun G1 => (∀ k, (k < t ∨ t + 7 < k) → G1 k = G k) ∧ G1 (t + 1) 0 = G c 0 ∧ (∀ j, j < 10 → G1 (t + 2) j = G (c + 1) j ∧ G1 (t + 3) j = G (c + 2) j ∧ G1 (t + 4) j = G (c + 3) j) ∧ (∀ j, j < 4 → G1 (t + 6) j = G (a + 1) j) ∧ (∀ j, j < 10 → G1 (t + 7) j = G (a + 2) j) ∧ G1 t 2 = -9) := by
  refine zOf (cc := cX10_load) (nL := 3) (ret := none) RX10 (by decide) rfl rfl (Nat.le_of_ble_eq_true rfl) ?_
  intro p_ e_ s_ m_ a_ b_ me_ c_ ls C0 hP hS hl
  have hx := C0.1
  have hb := C0.2.1
  have hts := C0.2.2.2.2.1
  have hD : zD E (zA E s_.heap.size) := C0.2.2.2.2.2.2.2.2
  have hA : ∀ q : Nat, s_.heap.size ≤ q → zA E s_.heap.size q := fun q h => Or.inr h
  refine z_gen (fun Q_ hQ_ => ?_)
  have hl : lv_has ls 3 [(0, .ref (E.1 t)), (1, .ref (E.1 c)), (2, .ref (E.1 a))] := hl
  refine lv_aload_n hx hb dX10_load_0 rfl (lv_at hl 0 rfl) ?_
  refine z_get C0 hP (C := RX10) (T := TX10) (N := 6) (ci := 8) (index := 12) (k := t) (ref := "WetSuitPedalsShoes$Trial") (zk_lt (ht (0, 8, 6) (by decide)).1 (by decide)) (zd_8 E (ht (0, 8, 6) (by decide)).1 _) rfl (zmi inU_10) 0 (by decide) (zm flRX10_12) rfl (v := .ref (E.1 (t + 1))) (rfl) dX10_load_1 ?_
  refine lv_aload_n hx hb dX10_load_4 rfl (lv_at hl 1 rfl) ?_
  refine z_Vv C0 hP hD hA hS (As := [.ref (E.1 c)]) (rest := []) (k := (t + 1)) (c_X1_become l E _ (t + 1) c (zIs_sub ht 1 (by decide)) hc (by omega)) (cwV 1 hts (zgV zbw mlRX10_39 imX1_become seX1_become iniRX1 coX1_become) rfl rfl rfl (by decide +kernel) ⟨Nat.le_of_ble_eq_true rfl, Nat.le_of_ble_eq_true rfl⟩) (zk_lt (ht (1, 1, 4) (by decide)).1 (by decide)) (zd_1 E (ht (1, 1, 4) (by decide)).1 _) rfl rfl rfl hl.1 rfl (Nat.le_of_ble_eq_true rfl) dX10_load_5 ⟨Nat.zero_le _, Nat.zero_le _⟩ (fun G1 H locs hw1 hP hS => ?_)
  obtain ⟨hF1, hmn1, hkf1⟩ := hw1
  refine lv_aload_n hx hb dX10_load_8 rfl (lv_at hl 0 rfl) ?_
  refine z_get C0 hP (C := RX10) (T := TX10) (N := 6) (ci := 8) (index := 21) (k := t) (ref := "WetSuitPedalsShoes$Trial") (zk_lt (ht (0, 8, 6) (by decide)).1 (by decide)) (zd_8 E (ht (0, 8, 6) (by decide)).1 _) rfl (zmi inU_10) 1 (by decide) (zm flRX10_21) rfl (v := .ref (E.1 (t + 5))) (rfl) dX10_load_9 ?_
  refine lv_aload_n hx hb dX10_load_12 rfl (lv_at hl 2 rfl) ?_
  refine z_Vv C0 hP hD hA hS (As := [.ref (E.1 a)]) (rest := []) (k := (t + 5)) (c_X0_become l E _ (t + 5) a (zIs_sub ht 5 (by decide)) ha (by omega)) (cwV 1 hts (zgV zbw mlRX10_43 imX0_become seX0_become iniRX0 coX0_become) rfl rfl rfl (by decide +kernel) ⟨Nat.le_of_ble_eq_true rfl, Nat.le_of_ble_eq_true rfl⟩) (zk_lt (ht (5, 0, 2) (by decide)).1 (by decide)) (zd_0 E (ht (5, 0, 2) (by decide)).1 _) rfl rfl rfl hl.1 rfl (Nat.le_of_ble_eq_true rfl) dX10_load_13 ⟨Nat.zero_le _, Nat.zero_le _⟩ (fun G2 H locs hw2 hP hS => ?_)
  obtain ⟨hF2, hab2, htr2⟩ := hw2
  refine lv_aload_n hx hb dX10_load_16 rfl (lv_at hl 0 rfl) ?_
  refine lv_bipush (v := (-9 : Int32)) hx hb dX10_load_17 (by decide) ?_
  refine z_put C0 hP hD hS (C := RX10) (T := TX10) (N := 6) (ci := 8) (index := 25) (k := t) (ref := "WetSuitPedalsShoes$Trial") (F := G t) (ty := .int) ((hF2 _ (by omega)).trans (hF1 _ (by omega))) tyX10 tyX10_ok nmX10 (zk_lt (ht (0, 8, 6) (by decide)).1 (by decide)) (zd_8 E (ht (0, 8, 6) (by decide)).1 _) rfl (zmi inU_10) 2 (by decide) (zm flRX10_25) rfl rfl (by decide +kernel) (by rfl) rfl (by show 2 < 6; decide) (upd (G t) 2 (-9 : Int32)) ((zd_8 E (ht (0, 8, 6) (by decide)).1 _).trans (rfl)) dX10_load_19 (fun H locs hP hS => ?_)
  subst hQ_
  exact z_vret C0 hP hS (by exact ⟨(by exact fun k hk => (g1_n (by omega)).trans ((hF2 k (by omega)).trans (hF1 k (by omega)))), (congrFun ((g1_n (by omega)).trans (hF2 _ (by omega))) _).trans (hmn1), (fun j hj => ⟨(congrFun ((g1_n (by omega)).trans (hF2 _ (by omega))) j).trans ((hkf1 j hj).1), (congrFun ((g1_n (by omega)).trans (hF2 _ (by omega))) j).trans ((hkf1 j hj).2.1), (congrFun ((g1_n (by omega)).trans (hF2 _ (by omega))) j).trans ((hkf1 j hj).2.2)⟩), (fun j hj => (congrFun (g1_n (by omega)) j).trans ((hab2 j hj).trans (congrFun (hF1 _ (by omega)) j))), (fun j hj => (congrFun (g1_n (by omega)) j).trans ((htr2 j hj).trans (congrFun (hF1 _ (by omega)) j))), (congrFun (g1_s _ _ _) _).trans (pk_us)⟩) dX10_load_22
theorem flRX10_46 : Cond.fieldLink RX10 46 "WetSuitPedalsShoes$Athlete" "able" "[I" ∈ zU := zU_m 118 (by decide +kernel) rfl
theorem flRX10_49 : Cond.fieldLink RX10 49 "WetSuitPedalsShoes$Course" "many" "I" ∈ zU := zU_m 85 (by decide +kernel) rfl
theorem flRX10_52 : Cond.fieldLink RX10 52 "WetSuitPedalsShoes$Athlete" "tries" "[I" ∈ zU := zU_m 122 (by decide +kernel) rfl
theorem flRX10_29 : Cond.fieldLink RX10 29 "WetSuitPedalsShoes$Trial" "seconds" "[I" ∈ zU := zU_m 190 (by decide +kernel) rfl
theorem mlRX10_55 : Cond.methodLink RX10 55 yX1_untried ∈ zU := zU_m 479 (by decide +kernel) rfl
theorem coX1_untried : Cond.code yX1_untried cX1_untried 6 (some .int) ∈ zU := zU_m 482 (by rfl) rfl
theorem imX1_untried : Cond.instanceMethod yX1_untried ∈ zU := zU_m 480 (by decide +kernel) rfl
theorem seX1_untried : Cond.selects RX1 yX1_untried yX1_untried ∈ zU := zU_m 481 (by decide +kernel) rfl
theorem mlRX10_59 : Cond.methodLink RX10 59 yX4_secondsTrying ∈ zU := zU_m 490 (by decide +kernel) rfl
theorem coX4_secondsTrying : Cond.code yX4_secondsTrying cX4_secondsTrying 3 (some .int) ∈ zU := zU_m 492 (by rfl) rfl
theorem stX4_secondsTrying : Cond.static yX4_secondsTrying ∈ zU := zU_m 491 (by decide +kernel) rfl
theorem flRX10_65 : Cond.fieldLink RX10 65 "WetSuitPedalsShoes$Course" "kind" "[I" ∈ zU := zU_m 91 (by decide +kernel) rfl
theorem flRX10_68 : Cond.fieldLink RX10 68 "WetSuitPedalsShoes$Course" "length" "[I" ∈ zU := zU_m 97 (by decide +kernel) rfl
theorem mlRX10_71 : Cond.methodLink RX10 71 yX4_legsBehind ∈ zU := zU_m 493 (by decide +kernel) rfl
theorem coX4_legsBehind : Cond.code yX4_legsBehind cX4_legsBehind 5 (some .int) ∈ zU := zU_m 495 (by rfl) rfl
theorem stX4_legsBehind : Cond.static yX4_legsBehind ∈ zU := zU_m 494 (by decide +kernel) rfl
theorem flRX10_33 : Cond.fieldLink RX10 33 "WetSuitPedalsShoes$Trial" "legs" "[I" ∈ zU := zU_m 192 (by decide +kernel) rfl
theorem flRX10_36 : Cond.fieldLink RX10 36 "WetSuitPedalsShoes$Trial" "all" "[I" ∈ zU := zU_m 194 (by decide +kernel) rfl
theorem mlRX10_75 : Cond.methodLink RX10 75 Lib.Math.min.name ∈ zU := zU_m 503 (by decide +kernel) rfl
set_option maxHeartbeats 4000000 in
set_option maxRecDepth 100000 in
theorem c_X10_run (l : Launch) (E : zE) (G : zG) (t n : Nat) (ht : zIs t tTri) (hn : G (t + 1) 0 = nI n) (hn10 : n ≤ 10) : zMi l yX10_run wsX10_run ({ frames := 3, cells := 0, slots := 0, locals := 66 } : Room) E G [.ref (E.1 t)] (fun r G1 => (zt_run G t n).2 = r ∧ (∀ k, (k < t + 8 ∨ t + 10 < k) → G1 k = G k) ∧ ∀ j, j < n → G1 (t + 8) j = zt_sc G t j ∧ G1 (t + 9) j = (zt_run G t (j + 1)).1 ∧ G1 (t + 10) j = (zt_run G t (j + 1)).2) := by
  refine zOf (cc := cX10_run) (nL := 5) (ret := (some .int)) RX10 (by decide) rfl rfl (Nat.le_of_ble_eq_true rfl) ?_
  intro p_ e_ s_ m_ a_ b_ me_ c_ ls C0 hP hS hl
  have hx := C0.1
  have hb := C0.2.1
  have hts := C0.2.2.2.2.1
  have hD : zD E (zA E s_.heap.size) := C0.2.2.2.2.2.2.2.2
  have hA : ∀ q : Nat, s_.heap.size ≤ q → zA E s_.heap.size q := fun q h => Or.inr h
  refine z_gen (fun Q_ hQ_ => ?_)
  have hl : lv_has ls 5 [(0, .ref (E.1 t))] := hl
  refine lv_aload_n hx hb dX10_run_0 rfl (lv_at hl 0 rfl) ?_
  refine z_get C0 hP (C := RX10) (T := TX10) (N := 6) (ci := 8) (index := 21) (k := t) (ref := "WetSuitPedalsShoes$Trial") (zk_lt (ht (0, 8, 6) (by decide)).1 (by decide)) (zd_8 E (ht (0, 8, 6) (by decide)).1 _) rfl (zmi inU_10) 1 (by decide) (zm flRX10_21) rfl (v := .ref (E.1 (t + 5))) (rfl) dX10_run_1 ?_
  refine z_get C0 hP (C := RX0) (T := TX0) (N := 2) (ci := 0) (index := 46) (k := (t + 5)) (ref := "WetSuitPedalsShoes$Athlete") (zk_lt (ht (5, 0, 2) (by decide)).1 (by decide)) (zd_0 E (ht (5, 0, 2) (by decide)).1 _) rfl (zmi inU_0) 0 (by decide) (zm flRX10_46) rfl (v := .ref (E.1 (t + 6))) (rfl) dX10_run_4 ?_
  refine lv_iconst (v := (3 : Int32)) hx hb dX10_run_7 (by decide) ?_
  refine z_iald C0 hP (k := (t + 6)) (i := 3) (v := (G (t + 6) 3)) (ht (6, 11, 4) (by decide)).1 (Nat.lt_of_lt_of_eq (show 3 < 4 by decide) (ht (6, 11, 4) (by decide)).2.symm) rfl dX10_run_8 (rfl) ?_
  refine lv_istore_n (lv' := [(1, .int (G (t + 6) 3)), (0, .ref (E.1 t))]) hx hb dX10_run_9 rfl hl (by decide) rfl (fun ls hl => ?_)
  refine lv_iconst (v := (0 : Int32)) hx hb dX10_run_10 (by decide) ?_
  refine lv_istore_n (lv' := [(2, .int (0 : Int32)), (1, .int (G (t + 6) 3)), (0, .ref (E.1 t))]) hx hb dX10_run_11 rfl hl (by decide) rfl (fun ls hl => ?_)
  refine lv_iconst (v := (0 : Int32)) hx hb dX10_run_12 (by decide) ?_
  refine lv_istore_n (lv' := [(3, .int (0 : Int32)), (2, .int (0 : Int32)), (1, .int (G (t + 6) 3)), (0, .ref (E.1 t))]) hx hb dX10_run_13 rfl hl (by decide) rfl (fun ls hl => ?_)
  have cut_14 : ∀ (fuel : Nat), ∀ (i : Nat) (g sm : Int32) (G1 : zG) (H : Heap) (locs : List Loc) (ls : Array Slot), (i ≤ n) → (g = (zt_run G t i).1) → (sm = (zt_run G t i).2) → (∀ k, (k < t + 8 ∨ t + 10 < k) → G1 k = G k) → (∀ j, j < i → G1 (t + 8) j = zt_sc G t j ∧ G1 (t + 9) j = (zt_run G t (j + 1)).1 ∧ G1 (t + 10) j = (zt_run G t (j + 1)).2) → zP E G1 H → va_S (zA E s_.heap.size) s_.heap H locs → lv_has ls 5 [(0, .ref (E.1 t)), (1, .int g), (2, .int sm), (3, .int (nI i))] → n - i < fuel → W p_ l e_ ({ frames := 3, cells := 0, slots := 0, locals := 66 } : Room) s_ m_ a_ b_ me_ c_ H locs 0 0 Q_ (F0 m_ 14 ls []) := by
    intro fuel
    induction fuel with
    | zero =>
      intro i  g sm  G1  H locs ls hin hg hsm hF1 hrow hP hS hl hfu
      exact absurd hfu (Nat.not_lt_zero _)
    | succ fuel ih_14 =>
      intro i  g sm  G1  H locs ls hin hg hsm hF1 hrow hP hS hl hfu_14
      refine lv_iload_n hx hb dX10_run_14 rfl (lv_at hl 3 rfl) ?_
      refine lv_aload_n hx hb dX10_run_15 rfl (lv_at hl 0 rfl) ?_
      refine z_get C0 hP (C := RX10) (T := TX10) (N := 6) (ci := 8) (index := 12) (k := t) (ref := "WetSuitPedalsShoes$Trial") (zk_lt (ht (0, 8, 6) (by decide)).1 (by decide)) (zd_8 E (ht (0, 8, 6) (by decide)).1 _) rfl (zmi inU_10) 0 (by decide) (zm flRX10_12) rfl (v := .ref (E.1 (t + 1))) (rfl) dX10_run_16 ?_
      refine z_get C0 hP (C := RX1) (T := TX1) (N := 4) (ci := 1) (index := 49) (k := (t + 1)) (ref := "WetSuitPedalsShoes$Course") (zk_lt (ht (1, 1, 4) (by decide)).1 (by decide)) (zd_1 E (ht (1, 1, 4) (by decide)).1 _) rfl (zmi inU_1) 0 (by decide) (zm flRX10_49) rfl (v := .int (nI n)) (congrArg (fun z => some (Value.int z)) ((congrFun (hF1 _ (by omega)) _).trans (hn))) dX10_run_19 ?_
      refine z_N_ge hx hb (a := i) (b := n) (tgt := 132) dX10_run_22 rfl rfl (by omega) (by omega) (by decide) (fun c_22 => ?_) (fun c_22 => ?_)
      · skip
        refine lv_iload_n hx hb dX10_run_132 rfl (lv_at hl 2 rfl) ?_
        subst hQ_
        exact z_iret C0 hP hS (v := sm) (by exact ⟨(hsm.trans (by rw [show i = n by omega])).symm, hF1, fun j hj => hrow j (by omega)⟩) dX10_run_133
      · skip
        refine lv_aload_n hx hb dX10_run_25 rfl (lv_at hl 0 rfl) ?_
        refine z_get C0 hP (C := RX10) (T := TX10) (N := 6) (ci := 8) (index := 21) (k := t) (ref := "WetSuitPedalsShoes$Trial") (zk_lt (ht (0, 8, 6) (by decide)).1 (by decide)) (zd_8 E (ht (0, 8, 6) (by decide)).1 _) rfl (zmi inU_10) 1 (by decide) (zm flRX10_21) rfl (v := .ref (E.1 (t + 5))) (rfl) dX10_run_26 ?_
        refine z_get C0 hP (C := RX0) (T := TX0) (N := 2) (ci := 0) (index := 52) (k := (t + 5)) (ref := "WetSuitPedalsShoes$Athlete") (zk_lt (ht (5, 0, 2) (by decide)).1 (by decide)) (zd_0 E (ht (5, 0, 2) (by decide)).1 _) rfl (zmi inU_0) 1 (by decide) (zm flRX10_52) rfl (v := .ref (E.1 (t + 7))) (rfl) dX10_run_29 ?_
        refine lv_iload_n hx hb dX10_run_32 rfl (lv_at hl 3 rfl) ?_
        refine z_iald C0 hP (k := (t + 7)) (i := i) (v := (G (t + 7) i)) (ht (7, 11, 10) (by decide)).1 (Nat.lt_of_lt_of_eq (show i < 10 by omega) (ht (7, 11, 10) (by decide)).2.symm) rfl dX10_run_33 (congrFun (hF1 _ (by omega)) _) ?_
        refine lv_istore (lv' := [(4, .int (G (t + 7) i)), (0, .ref (E.1 t)), (1, .int g), (2, .int sm), (3, .int (nI i))]) hx hb dX10_run_34 hl (by decide) rfl (fun ls hl => ?_)
        refine lv_aload_n hx hb dX10_run_36 rfl (lv_at hl 1 rfl) ?_
        refine z_get C0 hP (C := RX10) (T := TX10) (N := 6) (ci := 8) (index := 29) (k := t) (ref := "WetSuitPedalsShoes$Trial") (zk_lt (ht (0, 8, 6) (by decide)).1 (by decide)) (zd_8 E (ht (0, 8, 6) (by decide)).1 _) rfl (zmi inU_10) 3 (by decide) (zm flRX10_29) rfl (v := .ref (E.1 (t + 8))) (rfl) dX10_run_37 ?_
        refine lv_iload_n hx hb dX10_run_40 rfl (lv_at hl 4 rfl) ?_
        refine lv_aload_n hx hb dX10_run_41 rfl (lv_at hl 1 rfl) ?_
        refine z_get C0 hP (C := RX10) (T := TX10) (N := 6) (ci := 8) (index := 12) (k := t) (ref := "WetSuitPedalsShoes$Trial") (zk_lt (ht (0, 8, 6) (by decide)).1 (by decide)) (zd_8 E (ht (0, 8, 6) (by decide)).1 _) rfl (zmi inU_10) 0 (by decide) (zm flRX10_12) rfl (v := .ref (E.1 (t + 1))) (rfl) dX10_run_42 ?_
        refine lv_iload_n hx hb dX10_run_45 rfl (lv_at hl 4 rfl) ?_
        refine lv_aload_n hx hb dX10_run_46 rfl (lv_at hl 1 rfl) ?_
        refine z_get C0 hP (C := RX10) (T := TX10) (N := 6) (ci := 8) (index := 21) (k := t) (ref := "WetSuitPedalsShoes$Trial") (zk_lt (ht (0, 8, 6) (by decide)).1 (by decide)) (zd_8 E (ht (0, 8, 6) (by decide)).1 _) rfl (zmi inU_10) 1 (by decide) (zm flRX10_21) rfl (v := .ref (E.1 (t + 5))) (rfl) dX10_run_47 ?_
        refine z_Vi C0 hP hD hA hS (As := [.int (nI i), .ref (E.1 (t + 5))]) (rest := [.int (nI i), .ref (E.1 (t + 8))]) (k := (t + 1)) (c_X1_untried l E _ (t + 1) i (t + 5) (zIs_sub ht 1 (by decide)) (zIs_sub ht 5 (by decide)) (by omega)) (cwV 2 hts (zgV zbw mlRX10_55 imX1_untried seX1_untried iniRX1 coX1_untried) rfl rfl rfl (by decide +kernel) ⟨Nat.le_of_ble_eq_true rfl, Nat.le_of_ble_eq_true rfl⟩) (zk_lt (ht (1, 1, 4) (by decide)).1 (by decide)) (zd_1 E (ht (1, 1, 4) (by decide)).1 _) rfl rfl rfl hl.1 rfl (Nat.le_of_ble_eq_true rfl) dX10_run_50 ⟨Nat.zero_le _, Nat.zero_le _⟩ (fun r1 G1 H locs hw1 hP hS => ?_)
        obtain ⟨hr1, rfl⟩ := hw1
        have hr1 := ((s_plain_c (hF1 _ (by omega)) (hF1 _ (by omega)) (hF1 _ (by omega)) (hF1 _ (by omega)) : _ = s_plain (G (t + 2)) (G (t + 3)) (G (t + 4)) (G (t + 6)) i).symm).trans hr1
        subst hr1
        refine lv_iload hx hb dX10_run_53 (lv_at hl 0 rfl) ?_
        refine lv_iload_n hx hb dX10_run_55 rfl (lv_at hl 2 rfl) ?_
        refine z_Si C0 hP hD hA hS (As := [.int (s_plain (G (t + 2)) (G (t + 3)) (G (t + 4)) (G (t + 6)) i), .int (G (t + 7) i), .int g]) (rest := [.int (nI i), .ref (E.1 (t + 8))]) (c_X4_secondsTrying l E _ (s_plain (G (t + 2)) (G (t + 3)) (G (t + 4)) (G (t + 6)) i) (G (t + 7) i) g) (va_cwS 3 hts (zgS zbw mlRX10_59 stX4_secondsTrying iniRX4 coX4_secondsTrying) rfl rfl rfl (by decide +kernel) ⟨Nat.le_of_ble_eq_true rfl, Nat.le_of_ble_eq_true rfl⟩) rfl hl.1 rfl (Nat.le_of_ble_eq_true rfl) dX10_run_56 ⟨Nat.zero_le _, Nat.zero_le _⟩ (fun r2 G2 H locs hw2 hP hS => ?_)
        obtain ⟨rfl, rfl⟩ := hw2
        refine z_iast C0 hP hD hS (k := (t + 8)) (i := i) (v := (s_sec (s_plain (G (t + 2)) (G (t + 3)) (G (t + 4)) (G (t + 6)) i) (G (t + 7) i) g)) (F := G1 (t + 8)) (rfl) (ht (8, 11, 10) (by decide)).1 (Nat.lt_of_lt_of_eq (show i < 10 by omega) (ht (8, 11, 10) (by decide)).2.symm) rfl dX10_run_59 (fun H locs hP hS => ?_)
        refine lv_aload_n hx hb dX10_run_60 rfl (lv_at hl 1 rfl) ?_
        refine z_get C0 hP (C := RX10) (T := TX10) (N := 6) (ci := 8) (index := 12) (k := t) (ref := "WetSuitPedalsShoes$Trial") (zk_lt (ht (0, 8, 6) (by decide)).1 (by decide)) (zd_8 E (ht (0, 8, 6) (by decide)).1 _) rfl (zmi inU_10) 0 (by decide) (zm flRX10_12) rfl (v := .ref (E.1 (t + 1))) (rfl) dX10_run_61 ?_
        refine z_get C0 hP (C := RX1) (T := TX1) (N := 4) (ci := 1) (index := 65) (k := (t + 1)) (ref := "WetSuitPedalsShoes$Course") (zk_lt (ht (1, 1, 4) (by decide)).1 (by decide)) (zd_1 E (ht (1, 1, 4) (by decide)).1 _) rfl (zmi inU_1) 1 (by decide) (zm flRX10_65) rfl (v := .ref (E.1 (t + 2))) (rfl) dX10_run_64 ?_
        refine lv_iload_n hx hb dX10_run_67 rfl (lv_at hl 4 rfl) ?_
        refine z_iald C0 hP (k := (t + 2)) (i := i) (v := (G (t + 2) i)) (ht (2, 11, 10) (by decide)).1 (Nat.lt_of_lt_of_eq (show i < 10 by omega) (ht (2, 11, 10) (by decide)).2.symm) rfl dX10_run_68 (congrFun ((g1_n (by omega)).trans (hF1 _ (by omega))) _) ?_
        refine lv_aload_n hx hb dX10_run_69 rfl (lv_at hl 1 rfl) ?_
        refine z_get C0 hP (C := RX10) (T := TX10) (N := 6) (ci := 8) (index := 12) (k := t) (ref := "WetSuitPedalsShoes$Trial") (zk_lt (ht (0, 8, 6) (by decide)).1 (by decide)) (zd_8 E (ht (0, 8, 6) (by decide)).1 _) rfl (zmi inU_10) 0 (by decide) (zm flRX10_12) rfl (v := .ref (E.1 (t + 1))) (rfl) dX10_run_70 ?_
        refine z_get C0 hP (C := RX1) (T := TX1) (N := 4) (ci := 1) (index := 68) (k := (t + 1)) (ref := "WetSuitPedalsShoes$Course") (zk_lt (ht (1, 1, 4) (by decide)).1 (by decide)) (zd_1 E (ht (1, 1, 4) (by decide)).1 _) rfl (zmi inU_1) 3 (by decide) (zm flRX10_68) rfl (v := .ref (E.1 (t + 4))) (rfl) dX10_run_73 ?_
        refine lv_iload_n hx hb dX10_run_76 rfl (lv_at hl 4 rfl) ?_
        refine z_iald C0 hP (k := (t + 4)) (i := i) (v := (G (t + 4) i)) (ht (4, 11, 10) (by decide)).1 (Nat.lt_of_lt_of_eq (show i < 10 by omega) (ht (4, 11, 10) (by decide)).2.symm) rfl dX10_run_77 (congrFun ((g1_n (by omega)).trans (hF1 _ (by omega))) _) ?_
        refine lv_iload hx hb dX10_run_78 (lv_at hl 0 rfl) ?_
        refine lv_iload_n hx hb dX10_run_80 rfl (lv_at hl 2 rfl) ?_
        refine z_Si C0 hP hD hA hS (As := [.int (G (t + 2) i), .int (G (t + 4) i), .int (G (t + 7) i), .int g]) (rest := []) (c_X4_legsBehind l E _ (G (t + 2) i) (G (t + 4) i) (G (t + 7) i) g) (va_cwS 4 hts (zgS zbw mlRX10_71 stX4_legsBehind iniRX4 coX4_legsBehind) rfl rfl rfl (by decide +kernel) ⟨Nat.le_of_ble_eq_true rfl, Nat.le_of_ble_eq_true rfl⟩) rfl hl.1 rfl (Nat.le_of_ble_eq_true rfl) dX10_run_81 ⟨Nat.zero_le _, Nat.zero_le _⟩ (fun r3 G3 H locs hw3 hP hS => ?_)
        obtain ⟨rfl, rfl⟩ := hw3
        refine lv_istore_n (lv' := [(1, .int (s_leg (G (t + 2) i) (G (t + 4) i) (G (t + 7) i) g)), (4, .int (G (t + 7) i)), (0, .ref (E.1 t)), (2, .int sm), (3, .int (nI i))]) hx hb dX10_run_84 rfl hl (by decide) rfl (fun ls hl => ?_)
        refine lv_iload_n hx hb dX10_run_85 rfl (lv_at hl 4 rfl) ?_
        refine lv_aload_n hx hb dX10_run_86 rfl (lv_at hl 2 rfl) ?_
        refine z_get C0 hP (C := RX10) (T := TX10) (N := 6) (ci := 8) (index := 25) (k := t) (ref := "WetSuitPedalsShoes$Trial") (zk_lt (ht (0, 8, 6) (by decide)).1 (by decide)) (zd_8 E (ht (0, 8, 6) (by decide)).1 _) rfl (zmi inU_10) 2 (by decide) (zm flRX10_25) rfl (v := .int (G t 2)) (congrArg (fun z => some (Value.int z)) (congrFun ((g1_n (by omega)).trans (hF1 _ (by omega))) _)) dX10_run_87 ?_
        refine lv_icmp_ne (tgt := 103) hx hb dX10_run_90 (by decide) (fun c_90 => ?_) (fun c_90 => ?_)
        · skip
          refine lv_iload_n hx hb dX10_run_103 rfl (lv_at hl 3 rfl) ?_
          refine lv_aload_n hx hb dX10_run_104 rfl (lv_at hl 2 rfl) ?_
          refine z_get C0 hP (C := RX10) (T := TX10) (N := 6) (ci := 8) (index := 29) (k := t) (ref := "WetSuitPedalsShoes$Trial") (zk_lt (ht (0, 8, 6) (by decide)).1 (by decide)) (zd_8 E (ht (0, 8, 6) (by decide)).1 _) rfl (zmi inU_10) 3 (by decide) (zm flRX10_29) rfl (v := .ref (E.1 (t + 8))) (rfl) dX10_run_105 ?_
          refine lv_iload_n hx hb dX10_run_108 rfl (lv_at hl 4 rfl) ?_
          refine z_iald C0 hP (k := (t + 8)) (i := i) (v := (s_sec (s_plain (G (t + 2)) (G (t + 3)) (G (t + 4)) (G (t + 6)) i) (G (t + 7) i) g)) (ht (8, 11, 10) (by decide)).1 (Nat.lt_of_lt_of_eq (show i < 10 by omega) (ht (8, 11, 10) (by decide)).2.symm) rfl dX10_run_109 ((congrFun (g1_s _ _ _) _).trans (pk_us)) ?_
          refine lv_iadd hx hb dX10_run_110 ?_
          refine lv_istore_n (lv' := [(2, .int (sm + (s_sec (s_plain (G (t + 2)) (G (t + 3)) (G (t + 4)) (G (t + 6)) i) (G (t + 7) i) g))), (1, .int (s_leg (G (t + 2) i) (G (t + 4) i) (G (t + 7) i) g)), (4, .int (G (t + 7) i)), (0, .ref (E.1 t)), (3, .int (nI i))]) hx hb dX10_run_111 rfl hl (by decide) rfl (fun ls hl => ?_)
          refine lv_aload_n hx hb dX10_run_112 rfl (lv_at hl 3 rfl) ?_
          refine z_get C0 hP (C := RX10) (T := TX10) (N := 6) (ci := 8) (index := 33) (k := t) (ref := "WetSuitPedalsShoes$Trial") (zk_lt (ht (0, 8, 6) (by decide)).1 (by decide)) (zd_8 E (ht (0, 8, 6) (by decide)).1 _) rfl (zmi inU_10) 4 (by decide) (zm flRX10_33) rfl (v := .ref (E.1 (t + 9))) (rfl) dX10_run_113 ?_
          refine lv_iload_n hx hb dX10_run_116 rfl (lv_at hl 4 rfl) ?_
          refine lv_iload_n hx hb dX10_run_117 rfl (lv_at hl 1 rfl) ?_
          refine z_iast C0 hP hD hS (k := (t + 9)) (i := i) (v := (s_leg (G (t + 2) i) (G (t + 4) i) (G (t + 7) i) g)) (F := G1 (t + 9)) (g1_n (by omega)) (ht (9, 11, 10) (by decide)).1 (Nat.lt_of_lt_of_eq (show i < 10 by omega) (ht (9, 11, 10) (by decide)).2.symm) rfl dX10_run_118 (fun H locs hP hS => ?_)
          refine lv_aload_n hx hb dX10_run_119 rfl (lv_at hl 3 rfl) ?_
          refine z_get C0 hP (C := RX10) (T := TX10) (N := 6) (ci := 8) (index := 36) (k := t) (ref := "WetSuitPedalsShoes$Trial") (zk_lt (ht (0, 8, 6) (by decide)).1 (by decide)) (zd_8 E (ht (0, 8, 6) (by decide)).1 _) rfl (zmi inU_10) 5 (by decide) (zm flRX10_36) rfl (v := .ref (E.1 (t + 10))) (rfl) dX10_run_120 ?_
          refine lv_iload_n hx hb dX10_run_123 rfl (lv_at hl 4 rfl) ?_
          refine lv_iload_n hx hb dX10_run_124 rfl (lv_at hl 0 rfl) ?_
          refine z_iast C0 hP hD hS (k := (t + 10)) (i := i) (v := (sm + (s_sec (s_plain (G (t + 2)) (G (t + 3)) (G (t + 4)) (G (t + 6)) i) (G (t + 7) i) g))) (F := G1 (t + 10)) ((g1_n (by omega)).trans (g1_n (by omega))) (ht (10, 11, 10) (by decide)).1 (Nat.lt_of_lt_of_eq (show i < 10 by omega) (ht (10, 11, 10) (by decide)).2.symm) rfl dX10_run_125 (fun H locs hP hS => ?_)
          refine lv_iinc (v := (nI (i + 1))) (lv' := [(3, .int (nI (i + 1))), (2, .int (sm + (s_sec (s_plain (G (t + 2)) (G (t + 3)) (G (t + 4)) (G (t + 6)) i) (G (t + 7) i) g))), (1, .int (s_leg (G (t + 2) i) (G (t + 4) i) (G (t + 7) i) g)), (4, .int (G (t + 7) i)), (0, .ref (E.1 t))]) hx hb dX10_run_126 hl (k := 4) rfl (z_inc (by decide)) (by decide) rfl (fun ls hl => ?_)
          refine lv_goto (tgt := 14) hx hb dX10_run_129 (by decide) ?_
          exact ih_14 (i + 1) (s_leg (G (t + 2) i) (G (t + 4) i) (G (t + 7) i) g) (sm + (s_sec (s_plain (G (t + 2)) (G (t + 3)) (G (t + 4)) (G (t + 6)) i) (G (t + 7) i) g)) (g1 (g1 (g1 G1 (t + 8) (upd (G1 (t + 8)) i (s_sec (s_plain (G (t + 2)) (G (t + 3)) (G (t + 4)) (G (t + 6)) i) (G (t + 7) i) g))) (t + 9) (upd (G1 (t + 9)) i (s_leg (G (t + 2) i) (G (t + 4) i) (G (t + 7) i) g))) (t + 10) (upd (G1 (t + 10)) i (sm + (s_sec (s_plain (G (t + 2)) (G (t + 3)) (G (t + 4)) (G (t + 6)) i) (G (t + 7) i) g)))) _ _ _ (by first | assumption | omega) (by subst hg; simp [zt_run, s_run, c_22, c_90]) (by subst hg; subst hsm; simp [zt_run, s_run]) (by intro k hk; rw [g1_n (by omega)]; rw [g1_n (by omega)]; rw [g1_n (by omega)]; exact hF1 k hk) (by subst hg; subst hsm; intro j hj; rcases Nat.lt_or_ge j i with q | q; (exact ⟨(congrFun ((g1_n (by omega)).trans ((g1_n (by omega)).trans (g1_s _ _ _))) j).trans ((pk_un (by omega)).trans (hrow j q).1), (congrFun ((g1_n (by omega)).trans (g1_s _ _ _)) j).trans ((pk_un (by omega)).trans (hrow j q).2.1), (congrFun (g1_s _ _ _) j).trans ((pk_un (by omega)).trans (hrow j q).2.2)⟩); (have e9 : j = i := by omega); (subst e9; exact ⟨(congrFun ((g1_n (by omega)).trans ((g1_n (by omega)).trans (g1_s _ _ _))) _).trans (pk_us.trans (by simp [zt_run, zt_sc, s_run, s_sc, c_22, c_90])), (congrFun ((g1_n (by omega)).trans (g1_s _ _ _)) _).trans (pk_us.trans (by simp [zt_run, zt_sc, s_run, s_sc, c_22, c_90])), (congrFun (g1_s _ _ _) _).trans (pk_us.trans (by simp [zt_run, zt_sc, s_run, s_sc, c_22, c_90]))⟩)) hP hS (lv_sub hl [4, 2, 1, 0] rfl) (by omega)
        · skip
          refine lv_bipush (v := (99 : Int32)) hx hb dX10_run_93 (by decide) ?_
          refine lv_iload_n hx hb dX10_run_95 rfl (lv_at hl 0 rfl) ?_
          refine lv_bipush (v := (20 : Int32)) hx hb dX10_run_96 (by decide) ?_
          refine lv_iadd hx hb dX10_run_98 ?_
          refine va_mmin hx hb (C0.2.2.1.trans hl.1.symm) C0.2.2.2.1 (hts _ (zm mlRX10_75)) (hts _ (zm sMath_min)) (hts _ (zm iniMath)) (hts _ (zm coMath_min)) (Nat.le_of_ble_eq_true rfl) (Nat.le_of_ble_eq_true rfl) (Nat.zero_le _) (Nat.zero_le _) dX10_run_99 ?_
          refine z_eqi (y := (s_mn (99 : Int32) ((s_leg (G (t + 2) i) (G (t + 4) i) (G (t + 7) i) g) + (20 : Int32)))) (by unfold s_mn; congr) ?_
          refine lv_istore_n (lv' := [(1, .int (s_mn (99 : Int32) ((s_leg (G (t + 2) i) (G (t + 4) i) (G (t + 7) i) g) + (20 : Int32)))), (4, .int (G (t + 7) i)), (0, .ref (E.1 t)), (2, .int sm), (3, .int (nI i))]) hx hb dX10_run_102 rfl hl (by decide) rfl (fun ls hl => ?_)
          refine lv_iload_n hx hb dX10_run_103 rfl (lv_at hl 3 rfl) ?_
          refine lv_aload_n hx hb dX10_run_104 rfl (lv_at hl 2 rfl) ?_
          refine z_get C0 hP (C := RX10) (T := TX10) (N := 6) (ci := 8) (index := 29) (k := t) (ref := "WetSuitPedalsShoes$Trial") (zk_lt (ht (0, 8, 6) (by decide)).1 (by decide)) (zd_8 E (ht (0, 8, 6) (by decide)).1 _) rfl (zmi inU_10) 3 (by decide) (zm flRX10_29) rfl (v := .ref (E.1 (t + 8))) (rfl) dX10_run_105 ?_
          refine lv_iload_n hx hb dX10_run_108 rfl (lv_at hl 4 rfl) ?_
          refine z_iald C0 hP (k := (t + 8)) (i := i) (v := (s_sec (s_plain (G (t + 2)) (G (t + 3)) (G (t + 4)) (G (t + 6)) i) (G (t + 7) i) g)) (ht (8, 11, 10) (by decide)).1 (Nat.lt_of_lt_of_eq (show i < 10 by omega) (ht (8, 11, 10) (by decide)).2.symm) rfl dX10_run_109 ((congrFun (g1_s _ _ _) _).trans (pk_us)) ?_
          refine lv_iadd hx hb dX10_run_110 ?_
          refine lv_istore_n (lv' := [(2, .int (sm + (s_sec (s_plain (G (t + 2)) (G (t + 3)) (G (t + 4)) (G (t + 6)) i) (G (t + 7) i) g))), (1, .int (s_mn (99 : Int32) ((s_leg (G (t + 2) i) (G (t + 4) i) (G (t + 7) i) g) + (20 : Int32)))), (4, .int (G (t + 7) i)), (0, .ref (E.1 t)), (3, .int (nI i))]) hx hb dX10_run_111 rfl hl (by decide) rfl (fun ls hl => ?_)
          refine lv_aload_n hx hb dX10_run_112 rfl (lv_at hl 3 rfl) ?_
          refine z_get C0 hP (C := RX10) (T := TX10) (N := 6) (ci := 8) (index := 33) (k := t) (ref := "WetSuitPedalsShoes$Trial") (zk_lt (ht (0, 8, 6) (by decide)).1 (by decide)) (zd_8 E (ht (0, 8, 6) (by decide)).1 _) rfl (zmi inU_10) 4 (by decide) (zm flRX10_33) rfl (v := .ref (E.1 (t + 9))) (rfl) dX10_run_113 ?_
          refine lv_iload_n hx hb dX10_run_116 rfl (lv_at hl 4 rfl) ?_
          refine lv_iload_n hx hb dX10_run_117 rfl (lv_at hl 1 rfl) ?_
          refine z_iast C0 hP hD hS (k := (t + 9)) (i := i) (v := (s_mn (99 : Int32) ((s_leg (G (t + 2) i) (G (t + 4) i) (G (t + 7) i) g) + (20 : Int32)))) (F := G1 (t + 9)) (g1_n (by omega)) (ht (9, 11, 10) (by decide)).1 (Nat.lt_of_lt_of_eq (show i < 10 by omega) (ht (9, 11, 10) (by decide)).2.symm) rfl dX10_run_118 (fun H locs hP hS => ?_)
          refine lv_aload_n hx hb dX10_run_119 rfl (lv_at hl 3 rfl) ?_
          refine z_get C0 hP (C := RX10) (T := TX10) (N := 6) (ci := 8) (index := 36) (k := t) (ref := "WetSuitPedalsShoes$Trial") (zk_lt (ht (0, 8, 6) (by decide)).1 (by decide)) (zd_8 E (ht (0, 8, 6) (by decide)).1 _) rfl (zmi inU_10) 5 (by decide) (zm flRX10_36) rfl (v := .ref (E.1 (t + 10))) (rfl) dX10_run_120 ?_
          refine lv_iload_n hx hb dX10_run_123 rfl (lv_at hl 4 rfl) ?_
          refine lv_iload_n hx hb dX10_run_124 rfl (lv_at hl 0 rfl) ?_
          refine z_iast C0 hP hD hS (k := (t + 10)) (i := i) (v := (sm + (s_sec (s_plain (G (t + 2)) (G (t + 3)) (G (t + 4)) (G (t + 6)) i) (G (t + 7) i) g))) (F := G1 (t + 10)) ((g1_n (by omega)).trans (g1_n (by omega))) (ht (10, 11, 10) (by decide)).1 (Nat.lt_of_lt_of_eq (show i < 10 by omega) (ht (10, 11, 10) (by decide)).2.symm) rfl dX10_run_125 (fun H locs hP hS => ?_)
          refine lv_iinc (v := (nI (i + 1))) (lv' := [(3, .int (nI (i + 1))), (2, .int (sm + (s_sec (s_plain (G (t + 2)) (G (t + 3)) (G (t + 4)) (G (t + 6)) i) (G (t + 7) i) g))), (1, .int (s_mn (99 : Int32) ((s_leg (G (t + 2) i) (G (t + 4) i) (G (t + 7) i) g) + (20 : Int32)))), (4, .int (G (t + 7) i)), (0, .ref (E.1 t))]) hx hb dX10_run_126 hl (k := 4) rfl (z_inc (by decide)) (by decide) rfl (fun ls hl => ?_)
          refine lv_goto (tgt := 14) hx hb dX10_run_129 (by decide) ?_
          exact ih_14 (i + 1) (s_mn (99 : Int32) ((s_leg (G (t + 2) i) (G (t + 4) i) (G (t + 7) i) g) + (20 : Int32))) (sm + (s_sec (s_plain (G (t + 2)) (G (t + 3)) (G (t + 4)) (G (t + 6)) i) (G (t + 7) i) g)) (g1 (g1 (g1 G1 (t + 8) (upd (G1 (t + 8)) i (s_sec (s_plain (G (t + 2)) (G (t + 3)) (G (t + 4)) (G (t + 6)) i) (G (t + 7) i) g))) (t + 9) (upd (G1 (t + 9)) i (s_mn (99 : Int32) ((s_leg (G (t + 2) i) (G (t + 4) i) (G (t + 7) i) g) + (20 : Int32))))) (t + 10) (upd (G1 (t + 10)) i (sm + (s_sec (s_plain (G (t + 2)) (G (t + 3)) (G (t + 4)) (G (t + 6)) i) (G (t + 7) i) g)))) _ _ _ (by first | assumption | omega) (by subst hg; simp [zt_run, s_run, c_22, c_90]) (by subst hg; subst hsm; simp [zt_run, s_run]) (by intro k hk; rw [g1_n (by omega)]; rw [g1_n (by omega)]; rw [g1_n (by omega)]; exact hF1 k hk) (by subst hg; subst hsm; intro j hj; rcases Nat.lt_or_ge j i with q | q; (exact ⟨(congrFun ((g1_n (by omega)).trans ((g1_n (by omega)).trans (g1_s _ _ _))) j).trans ((pk_un (by omega)).trans (hrow j q).1), (congrFun ((g1_n (by omega)).trans (g1_s _ _ _)) j).trans ((pk_un (by omega)).trans (hrow j q).2.1), (congrFun (g1_s _ _ _) j).trans ((pk_un (by omega)).trans (hrow j q).2.2)⟩); (have e9 : j = i := by omega); (subst e9; exact ⟨(congrFun ((g1_n (by omega)).trans ((g1_n (by omega)).trans (g1_s _ _ _))) _).trans (pk_us.trans (by simp [zt_run, zt_sc, s_run, s_sc, c_22, c_90])), (congrFun ((g1_n (by omega)).trans (g1_s _ _ _)) _).trans (pk_us.trans (by simp [zt_run, zt_sc, s_run, s_sc, c_22, c_90])), (congrFun (g1_s _ _ _) _).trans (pk_us.trans (by simp [zt_run, zt_sc, s_run, s_sc, c_22, c_90]))⟩)) hP hS (lv_sub hl [4, 2, 1, 0] rfl) (by omega)
  exact cut_14 (_ + 1) 0 (G (t + 6) 3) (0 : Int32) G _ _ _ (by first | assumption | omega) (by rfl) (by rfl) (by exact fun _ _ => rfl) (by exact fun j hj => absurd hj (Nat.not_lt_zero j)) hP hS (lv_sub hl [3, 2, 1, 0] rfl) (Nat.lt_succ_self _)
end
section
/-! laid by wip/whole/vcg.py -/
set_option maxHeartbeats 4000000 in
set_option maxRecDepth 100000 in
theorem c_X12_of (l : Launch) (E : zE) (G : zG) (x y : Nat) : zMi l yX12_of wsX12_of ({ frames := 0, cells := 0, slots := 0, locals := 0 } : Room) E G [.int (nI x), .int (nI y)] (fun r G1 => nI (2 + 3 * x + y) = r ∧ G = G1) := by
  refine zOf (cc := cX12_of) (nL := 2) (ret := (some .int)) RX12 (by decide) rfl rfl (Nat.le_of_ble_eq_true rfl) ?_
  intro p_ e_ s_ m_ a_ b_ me_ c_ ls C0 hP hS hl
  have hx := C0.1
  have hb := C0.2.1
  have hts := C0.2.2.2.2.1
  have hD : zD E (zA E s_.heap.size) := C0.2.2.2.2.2.2.2.2
  have hA : ∀ q : Nat, s_.heap.size ≤ q → zA E s_.heap.size q := fun q h => Or.inr h
  refine z_gen (fun Q_ hQ_ => ?_)
  have hl : lv_has ls 2 [(0, .int (nI x)), (1, .int (nI y))] := hl
  refine lv_iconst (v := (2 : Int32)) hx hb dX12_of_0 (by decide) ?_
  refine lv_iconst (v := (3 : Int32)) hx hb dX12_of_1 (by decide) ?_
  refine lv_iload_n hx hb dX12_of_2 rfl (lv_at hl 0 rfl) ?_
  refine z_imul hx hb (a := 3) (b := x) (n := 3 * x) dX12_of_3 rfl rfl rfl ?_
  refine z_iadd hx hb (a := 2) (b := 3 * x) (n := 2 + (3 * x)) dX12_of_4 rfl rfl rfl ?_
  refine lv_iload_n hx hb dX12_of_5 rfl (lv_at hl 1 rfl) ?_
  refine z_iadd hx hb (a := 2 + (3 * x)) (b := y) (n := (2 + (3 * x)) + y) dX12_of_6 rfl rfl rfl ?_
  subst hQ_
  exact z_iret C0 hP hS (v := (nI ((2 + (3 * x)) + y))) (by refine ⟨congrArg nI (by omega), rfl⟩) dX12_of_7
set_option maxHeartbeats 4000000 in
set_option maxRecDepth 100000 in
theorem c_X12_athleteAt (l : Launch) (E : zE) (G : zG) (x y : Nat) : zMi l yX12_athleteAt wsX12_athleteAt ({ frames := 0, cells := 0, slots := 0, locals := 0 } : Room) E G [.int (nI x), .int (nI y)] (fun r G1 => nI (32 + 4 * x + y) = r ∧ G = G1) := by
  refine zOf (cc := cX12_athleteAt) (nL := 2) (ret := (some .int)) RX12 (by decide) rfl rfl (Nat.le_of_ble_eq_true rfl) ?_
  intro p_ e_ s_ m_ a_ b_ me_ c_ ls C0 hP hS hl
  have hx := C0.1
  have hb := C0.2.1
  have hts := C0.2.2.2.2.1
  have hD : zD E (zA E s_.heap.size) := C0.2.2.2.2.2.2.2.2
  have hA : ∀ q : Nat, s_.heap.size ≤ q → zA E s_.heap.size q := fun q h => Or.inr h
  refine z_gen (fun Q_ hQ_ => ?_)
  have hl : lv_has ls 2 [(0, .int (nI x)), (1, .int (nI y))] := hl
  refine lv_bipush (v := (32 : Int32)) hx hb dX12_athleteAt_0 (by decide) ?_
  refine lv_iconst (v := (4 : Int32)) hx hb dX12_athleteAt_2 (by decide) ?_
  refine lv_iload_n hx hb dX12_athleteAt_3 rfl (lv_at hl 0 rfl) ?_
  refine z_imul hx hb (a := 4) (b := x) (n := 4 * x) dX12_athleteAt_4 rfl rfl rfl ?_
  refine z_iadd hx hb (a := 32) (b := 4 * x) (n := 32 + (4 * x)) dX12_athleteAt_5 rfl rfl rfl ?_
  refine lv_iload_n hx hb dX12_athleteAt_6 rfl (lv_at hl 1 rfl) ?_
  refine z_iadd hx hb (a := 32 + (4 * x)) (b := y) (n := (32 + (4 * x)) + y) dX12_athleteAt_7 rfl rfl rfl ?_
  subst hQ_
  exact z_iret C0 hP hS (v := (nI ((32 + (4 * x)) + y))) (by refine ⟨congrArg nI (by omega), rfl⟩) dX12_athleteAt_8
set_option maxHeartbeats 4000000 in
set_option maxRecDepth 100000 in
theorem c_X12_tried (l : Launch) (E : zE) (G : zG) (x y : Nat) : zMi l yX12_tried wsX12_tried ({ frames := 0, cells := 0, slots := 0, locals := 0 } : Room) E G [.int (nI x), .int (nI y)] (fun r G1 => nI (52 + 10 * x + y) = r ∧ G = G1) := by
  refine zOf (cc := cX12_tried) (nL := 2) (ret := (some .int)) RX12 (by decide) rfl rfl (Nat.le_of_ble_eq_true rfl) ?_
  intro p_ e_ s_ m_ a_ b_ me_ c_ ls C0 hP hS hl
  have hx := C0.1
  have hb := C0.2.1
  have hts := C0.2.2.2.2.1
  have hD : zD E (zA E s_.heap.size) := C0.2.2.2.2.2.2.2.2
  have hA : ∀ q : Nat, s_.heap.size ≤ q → zA E s_.heap.size q := fun q h => Or.inr h
  refine z_gen (fun Q_ hQ_ => ?_)
  have hl : lv_has ls 2 [(0, .int (nI x)), (1, .int (nI y))] := hl
  refine lv_bipush (v := (52 : Int32)) hx hb dX12_tried_0 (by decide) ?_
  refine lv_bipush (v := (10 : Int32)) hx hb dX12_tried_2 (by decide) ?_
  refine lv_iload_n hx hb dX12_tried_4 rfl (lv_at hl 0 rfl) ?_
  refine z_imul hx hb (a := 10) (b := x) (n := 10 * x) dX12_tried_5 rfl rfl rfl ?_
  refine z_iadd hx hb (a := 52) (b := 10 * x) (n := 52 + (10 * x)) dX12_tried_6 rfl rfl rfl ?_
  refine lv_iload_n hx hb dX12_tried_7 rfl (lv_at hl 1 rfl) ?_
  refine z_iadd hx hb (a := 52 + (10 * x)) (b := y) (n := (52 + (10 * x)) + y) dX12_tried_8 rfl rfl rfl ?_
  subst hQ_
  exact z_iret C0 hP hS (v := (nI ((52 + (10 * x)) + y))) (by refine ⟨congrArg nI (by omega), rfl⟩) dX12_tried_9
set_option maxHeartbeats 4000000 in
set_option maxRecDepth 100000 in
theorem c_X12_isIn (l : Launch) (E : zE) (G : zG) (v lo hi : Int32) : zMi l yX12_isIn wsX12_isIn ({ frames := 0, cells := 0, slots := 0, locals := 0 } : Room) E G [.int v, .int lo, .int hi] (fun r G1 => (1 = r ∧ G = G1 ∧ lo ≤ v ∧ v ≤ hi) ∨ (0 = r ∧ G = G1 ∧ ¬ (lo ≤ v ∧ v ≤ hi))) := by
  refine zOf (cc := cX12_isIn) (nL := 3) (ret := (some .boolean)) RX12 (by decide) rfl rfl (Nat.le_of_ble_eq_true rfl) ?_
  intro p_ e_ s_ m_ a_ b_ me_ c_ ls C0 hP hS hl
  have hx := C0.1
  have hb := C0.2.1
  have hts := C0.2.2.2.2.1
  have hD : zD E (zA E s_.heap.size) := C0.2.2.2.2.2.2.2.2
  have hA : ∀ q : Nat, s_.heap.size ≤ q → zA E s_.heap.size q := fun q h => Or.inr h
  refine z_gen (fun Q_ hQ_ => ?_)
  have hl : lv_has ls 3 [(0, .int v), (1, .int lo), (2, .int hi)] := hl
  refine lv_iload_n hx hb dX12_isIn_0 rfl (lv_at hl 0 rfl) ?_
  refine lv_iload_n hx hb dX12_isIn_1 rfl (lv_at hl 1 rfl) ?_
  refine lv_icmp_lt (tgt := 14) hx hb dX12_isIn_2 (by decide) (fun c_2 => ?_) (fun c_2 => ?_)
  · skip
    refine lv_iconst (v := (0 : Int32)) hx hb dX12_isIn_14 (by decide) ?_
    subst hQ_
    exact z_zret C0 hP hS (v := (0 : Int32)) (by decide) (by exact Or.inr ⟨rfl, rfl, fun q => by first | exact Int32.not_lt.mpr q.1 c_2 | exact Int32.not_lt.mpr q.2 c_7⟩) dX12_isIn_15
  · skip
    refine lv_iload_n hx hb dX12_isIn_5 rfl (lv_at hl 0 rfl) ?_
    refine lv_iload_n hx hb dX12_isIn_6 rfl (lv_at hl 2 rfl) ?_
    refine lv_icmp_gt (tgt := 14) hx hb dX12_isIn_7 (by decide) (fun c_7 => ?_) (fun c_7 => ?_)
    · skip
      refine lv_iconst (v := (0 : Int32)) hx hb dX12_isIn_14 (by decide) ?_
      subst hQ_
      exact z_zret C0 hP hS (v := (0 : Int32)) (by decide) (by exact Or.inr ⟨rfl, rfl, fun q => by first | exact Int32.not_lt.mpr q.1 c_2 | exact Int32.not_lt.mpr q.2 c_7⟩) dX12_isIn_15
    · skip
      refine lv_iconst (v := (1 : Int32)) hx hb dX12_isIn_10 (by decide) ?_
      refine lv_goto (tgt := 15) hx hb dX12_isIn_11 (by decide) ?_
      subst hQ_
      exact z_zret C0 hP hS (v := (1 : Int32)) (by decide) (by exact Or.inl ⟨rfl, rfl, Int32.not_lt.mp c_2, Int32.not_lt.mp c_7⟩) dX12_isIn_15
set_option maxHeartbeats 4000000 in
set_option maxRecDepth 100000 in
theorem c_X12_least (l : Launch) (E : zE) (G : zG) (a b : Int32) : zMi l yX12_least wsX12_least ({ frames := 0, cells := 0, slots := 0, locals := 0 } : Room) E G [.int a, .int b] (fun r G1 => s_min a b = r ∧ G = G1) := by
  refine zOf (cc := cX12_least) (nL := 2) (ret := (some .int)) RX12 (by decide) rfl rfl (Nat.le_of_ble_eq_true rfl) ?_
  intro p_ e_ s_ m_ a_ b_ me_ c_ ls C0 hP hS hl
  have hx := C0.1
  have hb := C0.2.1
  have hts := C0.2.2.2.2.1
  have hD : zD E (zA E s_.heap.size) := C0.2.2.2.2.2.2.2.2
  have hA : ∀ q : Nat, s_.heap.size ≤ q → zA E s_.heap.size q := fun q h => Or.inr h
  refine z_gen (fun Q_ hQ_ => ?_)
  have hl : lv_has ls 2 [(0, .int a), (1, .int b)] := hl
  refine lv_iload_n hx hb dX12_least_0 rfl (lv_at hl 0 rfl) ?_
  refine lv_iload_n hx hb dX12_least_1 rfl (lv_at hl 1 rfl) ?_
  refine lv_icmp_ge (tgt := 9) hx hb dX12_least_2 (by decide) (fun c_2 => ?_) (fun c_2 => ?_)
  · skip
    have d_2 := Int32.not_lt.mpr c_2
    refine lv_iload_n hx hb dX12_least_9 rfl (lv_at hl 1 rfl) ?_
    subst hQ_
    exact z_iret C0 hP hS (v := b) (by refine ⟨?_, rfl⟩; simp [s_min, s_max, d_2]) dX12_least_10
  · skip
    have d_2 := Int32.not_le.mp c_2
    refine lv_iload_n hx hb dX12_least_5 rfl (lv_at hl 0 rfl) ?_
    refine lv_goto (tgt := 10) hx hb dX12_least_6 (by decide) ?_
    subst hQ_
    exact z_iret C0 hP hS (v := a) (by refine ⟨?_, rfl⟩; simp [s_min, s_max, d_2]) dX12_least_10
set_option maxHeartbeats 4000000 in
set_option maxRecDepth 100000 in
theorem c_X12_most (l : Launch) (E : zE) (G : zG) (a b : Int32) : zMi l yX12_most wsX12_most ({ frames := 0, cells := 0, slots := 0, locals := 0 } : Room) E G [.int a, .int b] (fun r G1 => s_max a b = r ∧ G = G1) := by
  refine zOf (cc := cX12_most) (nL := 2) (ret := (some .int)) RX12 (by decide) rfl rfl (Nat.le_of_ble_eq_true rfl) ?_
  intro p_ e_ s_ m_ a_ b_ me_ c_ ls C0 hP hS hl
  have hx := C0.1
  have hb := C0.2.1
  have hts := C0.2.2.2.2.1
  have hD : zD E (zA E s_.heap.size) := C0.2.2.2.2.2.2.2.2
  have hA : ∀ q : Nat, s_.heap.size ≤ q → zA E s_.heap.size q := fun q h => Or.inr h
  refine z_gen (fun Q_ hQ_ => ?_)
  have hl : lv_has ls 2 [(0, .int a), (1, .int b)] := hl
  refine lv_iload_n hx hb dX12_most_0 rfl (lv_at hl 0 rfl) ?_
  refine lv_iload_n hx hb dX12_most_1 rfl (lv_at hl 1 rfl) ?_
  refine lv_icmp_le (tgt := 9) hx hb dX12_most_2 (by decide) (fun c_2 => ?_) (fun c_2 => ?_)
  · skip
    have d_2 := Int32.not_lt.mpr c_2
    refine lv_iload_n hx hb dX12_most_9 rfl (lv_at hl 1 rfl) ?_
    subst hQ_
    exact z_iret C0 hP hS (v := b) (by refine ⟨?_, rfl⟩; simp [s_min, s_max, d_2]) dX12_most_10
  · skip
    have d_2 := Int32.not_le.mp c_2
    refine lv_iload_n hx hb dX12_most_5 rfl (lv_at hl 0 rfl) ?_
    refine lv_goto (tgt := 10) hx hb dX12_most_6 (by decide) ?_
    subst hQ_
    exact z_iret C0 hP hS (v := a) (by refine ⟨?_, rfl⟩; simp [s_min, s_max, d_2]) dX12_most_10
theorem flRX12_9 : Cond.fieldLink RX12 9 "WetSuitPedalsShoesModel" "s" "[I" ∈ zU := zU_m 808 (by decide +kernel) rfl
theorem mlRX12_62 : Cond.methodLink RX12 62 yX12_isIn ∈ zU := zU_m 907 (by decide +kernel) rfl
theorem coX12_isIn : Cond.code yX12_isIn cX12_isIn 3 (some .boolean) ∈ zU := zU_m 909 (by rfl) rfl
theorem stX12_isIn : Cond.static yX12_isIn ∈ zU := zU_m 908 (by decide +kernel) rfl
theorem iniRX12 : Cond.initialized RX12 ∈ zU := zU_m 58 (by decide +kernel) rfl
set_option maxHeartbeats 4000000 in
set_option maxRecDepth 100000 in
theorem c_X12_isSection (l : Launch) (E : zE) (G : zG) (n : Nat) (i : Int32) (hn : G 93 0 = nI n) (hn2 : n < 2 ^ 31) : zMi l yX12_isSection wsX12_isSection ({ frames := 1, cells := 0, slots := 0, locals := 22 } : Room) E G [.ref (E.1 92), .int i] (fun r G1 => (1 = r ∧ G = G1 ∧ ∃ j : Nat, j < n ∧ i = nI j) ∨ (0 = r ∧ G = G1 ∧ ¬ ∃ j : Nat, j < n ∧ i = nI j)) := by
  refine zOf (cc := cX12_isSection) (nL := 2) (ret := (some .boolean)) RX12 (by decide) rfl rfl (Nat.le_of_ble_eq_true rfl) ?_
  intro p_ e_ s_ m_ a_ b_ me_ c_ ls C0 hP hS hl
  have hx := C0.1
  have hb := C0.2.1
  have hts := C0.2.2.2.2.1
  have hD : zD E (zA E s_.heap.size) := C0.2.2.2.2.2.2.2.2
  have hA : ∀ q : Nat, s_.heap.size ≤ q → zA E s_.heap.size q := fun q h => Or.inr h
  refine z_gen (fun Q_ hQ_ => ?_)
  have hl : lv_has ls 2 [(0, .ref (E.1 92)), (1, .int i)] := hl
  refine lv_iload_n hx hb dX12_isSection_0 rfl (lv_at hl 1 rfl) ?_
  refine lv_iconst (v := (0 : Int32)) hx hb dX12_isSection_1 (by decide) ?_
  refine lv_aload_n hx hb dX12_isSection_2 rfl (lv_at hl 0 rfl) ?_
  refine z_get C0 hP (C := RX12) (T := TX12) (N := 21) (ci := 10) (index := 9) (k := 92) (ref := "WetSuitPedalsShoesModel") (zk_lt (rfl : zk 92 = 10) (by decide)) (zd_10 E (rfl : zk 92 = 10) _) rfl (zmi inU_12) 0 (by decide) (zm flRX12_9) rfl (v := .ref (E.1 93)) (rfl) dX12_isSection_3 ?_
  refine lv_iconst (v := (0 : Int32)) hx hb dX12_isSection_6 (by decide) ?_
  refine z_iald C0 hP (k := 93) (i := 0) (v := (nI n)) (rfl : zk 93 = 11) (Nat.lt_of_lt_of_eq (show 0 < 102 by decide) (rfl : zl 93 = 102).symm) rfl dX12_isSection_7 (hn) ?_
  refine lv_iconst (v := (1 : Int32)) hx hb dX12_isSection_8 (by decide) ?_
  refine lv_isub hx hb dX12_isSection_9 ?_
  refine z_Si C0 hP hD hA hS (As := [.int i, .int (0 : Int32), .int ((nI n) - (1 : Int32))]) (rest := []) (c_X12_isIn l E _ i (0 : Int32) ((nI n) - (1 : Int32))) (va_cwS 3 hts (zgS zbw mlRX12_62 stX12_isIn iniRX12 coX12_isIn) rfl rfl rfl (by decide +kernel) ⟨Nat.le_of_ble_eq_true rfl, Nat.le_of_ble_eq_true rfl⟩) rfl hl.1 rfl (Nat.le_of_ble_eq_true rfl) dX12_isSection_10 ⟨Nat.zero_le _, Nat.zero_le _⟩ (fun r1 G1 H locs hw1 hP hS => ?_)
  rcases hw1 with ⟨rfl, rfl, hi11, hi21⟩ | ⟨rfl, rfl, hi01⟩
  · skip
    have hi31 := Int32.not_lt.mpr hi11
    have hi41 := Int32.not_lt.mpr hi21
    subst hQ_
    exact z_zret C0 hP hS (v := (1 : Int32)) (by decide) (by exact Or.inl ⟨rfl, rfl, z_sec1 hn2 hi1_1 hi2_1⟩) dX12_isSection_13
  · skip
    have hi51 := z_nin hi01
    subst hQ_
    exact z_zret C0 hP hS (v := (0 : Int32)) (by decide) (by exact Or.inr ⟨rfl, rfl, z_sec0 hn2 hi0_1⟩) dX12_isSection_13
set_option maxHeartbeats 4000000 in
set_option maxRecDepth 100000 in
theorem c_X12_isAthlete (l : Launch) (E : zE) (G : zG) (n : Nat) (i : Int32) (hn : G 93 1 = nI n) (hn2 : n < 2 ^ 31) : zMi l yX12_isAthlete wsX12_isAthlete ({ frames := 1, cells := 0, slots := 0, locals := 22 } : Room) E G [.ref (E.1 92), .int i] (fun r G1 => (1 = r ∧ G = G1 ∧ ∃ j : Nat, j < n ∧ i = nI j) ∨ (0 = r ∧ G = G1 ∧ ¬ ∃ j : Nat, j < n ∧ i = nI j)) := by
  refine zOf (cc := cX12_isAthlete) (nL := 2) (ret := (some .boolean)) RX12 (by decide) rfl rfl (Nat.le_of_ble_eq_true rfl) ?_
  intro p_ e_ s_ m_ a_ b_ me_ c_ ls C0 hP hS hl
  have hx := C0.1
  have hb := C0.2.1
  have hts := C0.2.2.2.2.1
  have hD : zD E (zA E s_.heap.size) := C0.2.2.2.2.2.2.2.2
  have hA : ∀ q : Nat, s_.heap.size ≤ q → zA E s_.heap.size q := fun q h => Or.inr h
  refine z_gen (fun Q_ hQ_ => ?_)
  have hl : lv_has ls 2 [(0, .ref (E.1 92)), (1, .int i)] := hl
  refine lv_iload_n hx hb dX12_isAthlete_0 rfl (lv_at hl 1 rfl) ?_
  refine lv_iconst (v := (0 : Int32)) hx hb dX12_isAthlete_1 (by decide) ?_
  refine lv_aload_n hx hb dX12_isAthlete_2 rfl (lv_at hl 0 rfl) ?_
  refine z_get C0 hP (C := RX12) (T := TX12) (N := 21) (ci := 10) (index := 9) (k := 92) (ref := "WetSuitPedalsShoesModel") (zk_lt (rfl : zk 92 = 10) (by decide)) (zd_10 E (rfl : zk 92 = 10) _) rfl (zmi inU_12) 0 (by decide) (zm flRX12_9) rfl (v := .ref (E.1 93)) (rfl) dX12_isAthlete_3 ?_
  refine lv_iconst (v := (1 : Int32)) hx hb dX12_isAthlete_6 (by decide) ?_
  refine z_iald C0 hP (k := 93) (i := 1) (v := (nI n)) (rfl : zk 93 = 11) (Nat.lt_of_lt_of_eq (show 1 < 102 by decide) (rfl : zl 93 = 102).symm) rfl dX12_isAthlete_7 (hn) ?_
  refine lv_iconst (v := (1 : Int32)) hx hb dX12_isAthlete_8 (by decide) ?_
  refine lv_isub hx hb dX12_isAthlete_9 ?_
  refine z_Si C0 hP hD hA hS (As := [.int i, .int (0 : Int32), .int ((nI n) - (1 : Int32))]) (rest := []) (c_X12_isIn l E _ i (0 : Int32) ((nI n) - (1 : Int32))) (va_cwS 3 hts (zgS zbw mlRX12_62 stX12_isIn iniRX12 coX12_isIn) rfl rfl rfl (by decide +kernel) ⟨Nat.le_of_ble_eq_true rfl, Nat.le_of_ble_eq_true rfl⟩) rfl hl.1 rfl (Nat.le_of_ble_eq_true rfl) dX12_isAthlete_10 ⟨Nat.zero_le _, Nat.zero_le _⟩ (fun r1 G1 H locs hw1 hP hS => ?_)
  rcases hw1 with ⟨rfl, rfl, hi11, hi21⟩ | ⟨rfl, rfl, hi01⟩
  · skip
    have hi31 := Int32.not_lt.mpr hi11
    have hi41 := Int32.not_lt.mpr hi21
    subst hQ_
    exact z_zret C0 hP hS (v := (1 : Int32)) (by decide) (by exact Or.inl ⟨rfl, rfl, z_sec1 hn2 hi1_1 hi2_1⟩) dX12_isAthlete_13
  · skip
    have hi51 := z_nin hi01
    subst hQ_
    exact z_zret C0 hP hS (v := (0 : Int32)) (by decide) (by exact Or.inr ⟨rfl, rfl, z_sec0 hn2 hi0_1⟩) dX12_isAthlete_13
set_option maxHeartbeats 4000000 in
set_option maxRecDepth 100000 in
theorem c_X12_isSectionN (l : Launch) (E : zE) (G : zG) (n i : Nat) (hn : G 93 0 = nI n) (hn2 : n < 2 ^ 31) (hi : i < 2 ^ 31) : zMi l yX12_isSection wsX12_isSection ({ frames := 1, cells := 0, slots := 0, locals := 22 } : Room) E G [.ref (E.1 92), .int (nI i)] (fun r G1 => (1 = r ∧ G = G1 ∧ i < n) ∨ (0 = r ∧ G = G1 ∧ n ≤ i)) := by
  refine zOf (cc := cX12_isSection) (nL := 2) (ret := (some .boolean)) RX12 (by decide) rfl rfl (Nat.le_of_ble_eq_true rfl) ?_
  intro p_ e_ s_ m_ a_ b_ me_ c_ ls C0 hP hS hl
  have hx := C0.1
  have hb := C0.2.1
  have hts := C0.2.2.2.2.1
  have hD : zD E (zA E s_.heap.size) := C0.2.2.2.2.2.2.2.2
  have hA : ∀ q : Nat, s_.heap.size ≤ q → zA E s_.heap.size q := fun q h => Or.inr h
  refine z_gen (fun Q_ hQ_ => ?_)
  have hl : lv_has ls 2 [(0, .ref (E.1 92)), (1, .int (nI i))] := hl
  refine lv_iload_n hx hb dX12_isSection_0 rfl (lv_at hl 1 rfl) ?_
  refine lv_iconst (v := (0 : Int32)) hx hb dX12_isSection_1 (by decide) ?_
  refine lv_aload_n hx hb dX12_isSection_2 rfl (lv_at hl 0 rfl) ?_
  refine z_get C0 hP (C := RX12) (T := TX12) (N := 21) (ci := 10) (index := 9) (k := 92) (ref := "WetSuitPedalsShoesModel") (zk_lt (rfl : zk 92 = 10) (by decide)) (zd_10 E (rfl : zk 92 = 10) _) rfl (zmi inU_12) 0 (by decide) (zm flRX12_9) rfl (v := .ref (E.1 93)) (rfl) dX12_isSection_3 ?_
  refine lv_iconst (v := (0 : Int32)) hx hb dX12_isSection_6 (by decide) ?_
  refine z_iald C0 hP (k := 93) (i := 0) (v := (nI n)) (rfl : zk 93 = 11) (Nat.lt_of_lt_of_eq (show 0 < 102 by decide) (rfl : zl 93 = 102).symm) rfl dX12_isSection_7 (hn) ?_
  refine lv_iconst (v := (1 : Int32)) hx hb dX12_isSection_8 (by decide) ?_
  refine lv_isub hx hb dX12_isSection_9 ?_
  refine z_Si C0 hP hD hA hS (As := [.int (nI i), .int (0 : Int32), .int ((nI n) - (1 : Int32))]) (rest := []) (c_X12_isIn l E _ (nI i) (0 : Int32) ((nI n) - (1 : Int32))) (va_cwS 3 hts (zgS zbw mlRX12_62 stX12_isIn iniRX12 coX12_isIn) rfl rfl rfl (by decide +kernel) ⟨Nat.le_of_ble_eq_true rfl, Nat.le_of_ble_eq_true rfl⟩) rfl hl.1 rfl (Nat.le_of_ble_eq_true rfl) dX12_isSection_10 ⟨Nat.zero_le _, Nat.zero_le _⟩ (fun r1 G1 H locs hw1 hP hS => ?_)
  rcases hw1 with ⟨rfl, rfl, hi11, hi21⟩ | ⟨rfl, rfl, hi01⟩
  · skip
    have hi31 := Int32.not_lt.mpr hi11
    have hi41 := Int32.not_lt.mpr hi21
    subst hQ_
    exact z_zret C0 hP hS (v := (1 : Int32)) (by decide) (by exact Or.inl ⟨rfl, rfl, z_secN1 hi hn2 hi1_1 hi2_1⟩) dX12_isSection_13
  · skip
    have hi51 := z_nin hi01
    subst hQ_
    exact z_zret C0 hP hS (v := (0 : Int32)) (by decide) (by exact Or.inr ⟨rfl, rfl, z_secN0 hi hn2 hi0_1⟩) dX12_isSection_13
set_option maxHeartbeats 4000000 in
set_option maxRecDepth 100000 in
theorem c_X12_isAthleteN (l : Launch) (E : zE) (G : zG) (n i : Nat) (hn : G 93 1 = nI n) (hn2 : n < 2 ^ 31) (hi : i < 2 ^ 31) : zMi l yX12_isAthlete wsX12_isAthlete ({ frames := 1, cells := 0, slots := 0, locals := 22 } : Room) E G [.ref (E.1 92), .int (nI i)] (fun r G1 => (1 = r ∧ G = G1 ∧ i < n) ∨ (0 = r ∧ G = G1 ∧ n ≤ i)) := by
  refine zOf (cc := cX12_isAthlete) (nL := 2) (ret := (some .boolean)) RX12 (by decide) rfl rfl (Nat.le_of_ble_eq_true rfl) ?_
  intro p_ e_ s_ m_ a_ b_ me_ c_ ls C0 hP hS hl
  have hx := C0.1
  have hb := C0.2.1
  have hts := C0.2.2.2.2.1
  have hD : zD E (zA E s_.heap.size) := C0.2.2.2.2.2.2.2.2
  have hA : ∀ q : Nat, s_.heap.size ≤ q → zA E s_.heap.size q := fun q h => Or.inr h
  refine z_gen (fun Q_ hQ_ => ?_)
  have hl : lv_has ls 2 [(0, .ref (E.1 92)), (1, .int (nI i))] := hl
  refine lv_iload_n hx hb dX12_isAthlete_0 rfl (lv_at hl 1 rfl) ?_
  refine lv_iconst (v := (0 : Int32)) hx hb dX12_isAthlete_1 (by decide) ?_
  refine lv_aload_n hx hb dX12_isAthlete_2 rfl (lv_at hl 0 rfl) ?_
  refine z_get C0 hP (C := RX12) (T := TX12) (N := 21) (ci := 10) (index := 9) (k := 92) (ref := "WetSuitPedalsShoesModel") (zk_lt (rfl : zk 92 = 10) (by decide)) (zd_10 E (rfl : zk 92 = 10) _) rfl (zmi inU_12) 0 (by decide) (zm flRX12_9) rfl (v := .ref (E.1 93)) (rfl) dX12_isAthlete_3 ?_
  refine lv_iconst (v := (1 : Int32)) hx hb dX12_isAthlete_6 (by decide) ?_
  refine z_iald C0 hP (k := 93) (i := 1) (v := (nI n)) (rfl : zk 93 = 11) (Nat.lt_of_lt_of_eq (show 1 < 102 by decide) (rfl : zl 93 = 102).symm) rfl dX12_isAthlete_7 (hn) ?_
  refine lv_iconst (v := (1 : Int32)) hx hb dX12_isAthlete_8 (by decide) ?_
  refine lv_isub hx hb dX12_isAthlete_9 ?_
  refine z_Si C0 hP hD hA hS (As := [.int (nI i), .int (0 : Int32), .int ((nI n) - (1 : Int32))]) (rest := []) (c_X12_isIn l E _ (nI i) (0 : Int32) ((nI n) - (1 : Int32))) (va_cwS 3 hts (zgS zbw mlRX12_62 stX12_isIn iniRX12 coX12_isIn) rfl rfl rfl (by decide +kernel) ⟨Nat.le_of_ble_eq_true rfl, Nat.le_of_ble_eq_true rfl⟩) rfl hl.1 rfl (Nat.le_of_ble_eq_true rfl) dX12_isAthlete_10 ⟨Nat.zero_le _, Nat.zero_le _⟩ (fun r1 G1 H locs hw1 hP hS => ?_)
  rcases hw1 with ⟨rfl, rfl, hi11, hi21⟩ | ⟨rfl, rfl, hi01⟩
  · skip
    have hi31 := Int32.not_lt.mpr hi11
    have hi41 := Int32.not_lt.mpr hi21
    subst hQ_
    exact z_zret C0 hP hS (v := (1 : Int32)) (by decide) (by exact Or.inl ⟨rfl, rfl, z_secN1 hi hn2 hi1_1 hi2_1⟩) dX12_isAthlete_13
  · skip
    have hi51 := z_nin hi01
    subst hQ_
    exact z_zret C0 hP hS (v := (0 : Int32)) (by decide) (by exact Or.inr ⟨rfl, rfl, z_secN0 hi hn2 hi0_1⟩) dX12_isAthlete_13
theorem flRX12_28 : Cond.fieldLink RX12 28 "WetSuitPedalsShoesModel" "refused" "[I" ∈ zU := zU_m 815 (by decide +kernel) rfl
set_option maxHeartbeats 4000000 in
set_option maxRecDepth 100000 in
theorem c_X12_no (l : Launch) (E : zE) (G : zG) (cd : Int32) (k : Nat) (hk : k < 7) (hcd : -cd = nI k) : zMi l yX12_no wsX12_no ({ frames := 0, cells := 0, slots := 0, locals := 0 } : Room) E G [.ref (E.1 92), .int cd] (fun r G1 => cd = r ∧ g1 G 99 (upd (G 99) k (G 99 k + 1)) = G1) := by
  refine zOf (cc := cX12_no) (nL := 2) (ret := (some .int)) RX12 (by decide) rfl rfl (Nat.le_of_ble_eq_true rfl) ?_
  intro p_ e_ s_ m_ a_ b_ me_ c_ ls C0 hP hS hl
  have hx := C0.1
  have hb := C0.2.1
  have hts := C0.2.2.2.2.1
  have hD : zD E (zA E s_.heap.size) := C0.2.2.2.2.2.2.2.2
  have hA : ∀ q : Nat, s_.heap.size ≤ q → zA E s_.heap.size q := fun q h => Or.inr h
  refine z_gen (fun Q_ hQ_ => ?_)
  have hl : lv_has ls 2 [(0, .ref (E.1 92)), (1, .int cd)] := hl
  refine lv_aload_n hx hb dX12_no_0 rfl (lv_at hl 0 rfl) ?_
  refine z_get C0 hP (C := RX12) (T := TX12) (N := 21) (ci := 10) (index := 28) (k := 92) (ref := "WetSuitPedalsShoesModel") (zk_lt (rfl : zk 92 = 10) (by decide)) (zd_10 E (rfl : zk 92 = 10) _) rfl (zmi inU_12) 7 (by decide) (zm flRX12_28) rfl (v := .ref (E.1 99)) (rfl) dX12_no_1 ?_
  refine lv_iload_n hx hb dX12_no_4 rfl (lv_at hl 1 rfl) ?_
  refine lv_ineg hx hb dX12_no_5 ?_
  refine z_eqi (y := (nI k)) (hcd) ?_
  refine lv_dup2_11 hx hb dX12_no_6 rfl rfl ?_
  refine z_iald C0 hP (k := 99) (i := k) (v := (G 99 k)) (rfl : zk 99 = 11) (Nat.lt_of_lt_of_eq (show k < 7 by omega) (rfl : zl 99 = 7).symm) rfl dX12_no_7 (rfl) ?_
  refine lv_iconst (v := (1 : Int32)) hx hb dX12_no_8 (by decide) ?_
  refine lv_iadd hx hb dX12_no_9 ?_
  refine z_iast C0 hP hD hS (k := 99) (i := k) (v := ((G 99 k) + (1 : Int32))) (F := G 99) (rfl) (rfl : zk 99 = 11) (Nat.lt_of_lt_of_eq (show k < 7 by omega) (rfl : zl 99 = 7).symm) rfl dX12_no_10 (fun H locs hP hS => ?_)
  refine lv_iload_n hx hb dX12_no_11 rfl (lv_at hl 1 rfl) ?_
  subst hQ_
  exact z_iret C0 hP hS (v := cd) (by exact ⟨rfl, rfl⟩) dX12_no_12
theorem kkRX12_55 : Cond.constant RX12 55 (1000000000) ∈ zU := zU_m 1023 (by decide +kernel) rfl
theorem mlRX12_56 : Cond.methodLink RX12 56 yX12_no ∈ zU := zU_m 876 (by decide +kernel) rfl
theorem coX12_no : Cond.code yX12_no cX12_no 2 (some .int) ∈ zU := zU_m 879 (by rfl) rfl
theorem imX12_no : Cond.instanceMethod yX12_no ∈ zU := zU_m 878 (by decide +kernel) rfl
theorem seX12_no : Cond.selects RX12 yX12_no yX12_no ∈ zU := zU_m 26 (by decide +kernel) rfl
set_option maxHeartbeats 4000000 in
set_option maxRecDepth 100000 in
theorem c_X12_noFar (l : Launch) (E : zE) (G : zG) (cd : Int32) (k : Nat) (hk : k < 7) (hcd : -cd = nI k) : zMi l yX12_noFar wsX12_noFar ({ frames := 1, cells := 0, slots := 0, locals := 21 } : Room) E G [.ref (E.1 92), .int cd] (fun r G1 => 1000000000 - cd = r ∧ g1 G 99 (upd (G 99) k (G 99 k + 1)) = G1) := by
  refine zOf (cc := cX12_noFar) (nL := 2) (ret := (some .int)) RX12 (by decide) rfl rfl (Nat.le_of_ble_eq_true rfl) ?_
  intro p_ e_ s_ m_ a_ b_ me_ c_ ls C0 hP hS hl
  have hx := C0.1
  have hb := C0.2.1
  have hts := C0.2.2.2.2.1
  have hD : zD E (zA E s_.heap.size) := C0.2.2.2.2.2.2.2.2
  have hA : ∀ q : Nat, s_.heap.size ≤ q → zA E s_.heap.size q := fun q h => Or.inr h
  refine z_gen (fun Q_ hQ_ => ?_)
  have hl : lv_has ls 2 [(0, .ref (E.1 92)), (1, .int cd)] := hl
  refine lv_ldc (v := (1000000000 : Int32)) hx hb C0.2.2.2.1 (hts _ (zm kkRX12_55)) dX12_noFar_0 ?_
  refine lv_aload_n hx hb dX12_noFar_2 rfl (lv_at hl 0 rfl) ?_
  refine lv_iload_n hx hb dX12_noFar_3 rfl (lv_at hl 1 rfl) ?_
  refine z_Vi C0 hP hD hA hS (As := [.int cd]) (rest := [.int (1000000000 : Int32)]) (k := 92) (c_X12_no l E _ cd k hk hcd) (cwV 1 hts (zgV zbw mlRX12_56 imX12_no seX12_no iniRX12 coX12_no) rfl rfl rfl (by decide +kernel) ⟨Nat.le_of_ble_eq_true rfl, Nat.le_of_ble_eq_true rfl⟩) (zk_lt (rfl : zk 92 = 10) (by decide)) (zd_10 E (rfl : zk 92 = 10) _) rfl rfl rfl hl.1 rfl (Nat.le_of_ble_eq_true rfl) dX12_noFar_4 ⟨Nat.zero_le _, Nat.zero_le _⟩ (fun r1 G1 H locs hw1 hP hS => ?_)
  obtain ⟨rfl, rfl⟩ := hw1
  refine lv_isub hx hb dX12_noFar_7 ?_
  subst hQ_
  exact z_iret C0 hP hS (v := ((1000000000 : Int32) - cd)) (by exact ⟨rfl, rfl⟩) dX12_noFar_8
theorem kkRX12_60 : Cond.constantLong RX12 60 (4000000000000000000) ∈ zU := zU_m 1076 (by decide +kernel) rfl
set_option maxHeartbeats 4000000 in
set_option maxRecDepth 100000 in
theorem c_X12_noWide (l : Launch) (E : zE) (G : zG) (cd : Int32) (k : Nat) (hk : k < 7) (hcd : -cd = nI k) : zMl l yX12_noWide wsX12_noWide ({ frames := 1, cells := 0, slots := 0, locals := 21 } : Room) E G [.ref (E.1 92), .int cd] (fun r G1 => 4000000000000000000 - cd.toInt64 = r ∧ g1 G 99 (upd (G 99) k (G 99 k + 1)) = G1) := by
  refine zOf (cc := cX12_noWide) (nL := 2) (ret := (some .long)) RX12 (by decide) rfl rfl (Nat.le_of_ble_eq_true rfl) ?_
  intro p_ e_ s_ m_ a_ b_ me_ c_ ls C0 hP hS hl
  have hx := C0.1
  have hb := C0.2.1
  have hts := C0.2.2.2.2.1
  have hD : zD E (zA E s_.heap.size) := C0.2.2.2.2.2.2.2.2
  have hA : ∀ q : Nat, s_.heap.size ≤ q → zA E s_.heap.size q := fun q h => Or.inr h
  refine z_gen (fun Q_ hQ_ => ?_)
  have hl : lv_has ls 2 [(0, .ref (E.1 92)), (1, .int cd)] := hl
  refine lv_ldc2 (v := (4000000000000000000 : Int64)) hx hb C0.2.2.2.1 (hts _ (zm kkRX12_60)) dX12_noWide_0 ?_
  refine lv_aload_n hx hb dX12_noWide_3 rfl (lv_at hl 0 rfl) ?_
  refine lv_iload_n hx hb dX12_noWide_4 rfl (lv_at hl 1 rfl) ?_
  refine z_Vi C0 hP hD hA hS (As := [.int cd]) (rest := [.long (4000000000000000000 : Int64)]) (k := 92) (c_X12_no l E _ cd k hk hcd) (cwV 1 hts (zgV zbw mlRX12_56 imX12_no seX12_no iniRX12 coX12_no) rfl rfl rfl (by decide +kernel) ⟨Nat.le_of_ble_eq_true rfl, Nat.le_of_ble_eq_true rfl⟩) (zk_lt (rfl : zk 92 = 10) (by decide)) (zd_10 E (rfl : zk 92 = 10) _) rfl rfl rfl hl.1 rfl (Nat.le_of_ble_eq_true rfl) dX12_noWide_5 ⟨Nat.zero_le _, Nat.zero_le _⟩ (fun r1 G1 H locs hw1 hP hS => ?_)
  obtain ⟨rfl, rfl⟩ := hw1
  refine lv_i2l (v := cd.toInt64) hx hb dX12_noWide_8 rfl ?_
  refine lv_lsub hx hb dX12_noWide_9 ?_
  subst hQ_
  exact z_lret C0 hP hS (v := ((4000000000000000000 : Int64) - cd.toInt64)) (by exact ⟨rfl, rfl⟩) dX12_noWide_10
theorem mlRX12_66 : Cond.methodLink RX12 66 yX12_of ∈ zU := zU_m 921 (by decide +kernel) rfl
theorem coX12_of : Cond.code yX12_of cX12_of 2 (some .int) ∈ zU := zU_m 923 (by rfl) rfl
theorem stX12_of : Cond.static yX12_of ∈ zU := zU_m 922 (by decide +kernel) rfl
set_option maxHeartbeats 4000000 in
set_option maxRecDepth 100000 in
theorem c_X12_isRide (l : Launch) (E : zE) (G : zG) (q i : Nat) (hq : zIs q tArr102) (hi : i < 10) : zMi l yX12_isRide wsX12_isRide ({ frames := 1, cells := 0, slots := 0, locals := 22 } : Room) E G [.ref (E.1 q), .int (nI i)] (fun r G1 => s_isRide (G q (2 + 3 * i)) = r ∧ G = G1) := by
  refine zOf (cc := cX12_isRide) (nL := 2) (ret := (some .boolean)) RX12 (by decide) rfl rfl (Nat.le_of_ble_eq_true rfl) ?_
  intro p_ e_ s_ m_ a_ b_ me_ c_ ls C0 hP hS hl
  have hx := C0.1
  have hb := C0.2.1
  have hts := C0.2.2.2.2.1
  have hD : zD E (zA E s_.heap.size) := C0.2.2.2.2.2.2.2.2
  have hA : ∀ q : Nat, s_.heap.size ≤ q → zA E s_.heap.size q := fun q h => Or.inr h
  refine z_gen (fun Q_ hQ_ => ?_)
  have hl : lv_has ls 2 [(0, .ref (E.1 q)), (1, .int (nI i))] := hl
  refine lv_aload_n hx hb dX12_isRide_0 rfl (lv_at hl 0 rfl) ?_
  refine lv_iload_n hx hb dX12_isRide_1 rfl (lv_at hl 1 rfl) ?_
  refine lv_iconst (v := (0 : Int32)) hx hb dX12_isRide_2 (by decide) ?_
  refine z_Si C0 hP hD hA hS (As := [.int (nI i), .int (0 : Int32)]) (rest := [.ref (E.1 q)]) (c_X12_of l E _ i 0) (va_cwS 2 hts (zgS zbw mlRX12_66 stX12_of iniRX12 coX12_of) rfl rfl rfl (by decide +kernel) ⟨Nat.le_of_ble_eq_true rfl, Nat.le_of_ble_eq_true rfl⟩) rfl hl.1 rfl (Nat.le_of_ble_eq_true rfl) dX12_isRide_3 ⟨Nat.zero_le _, Nat.zero_le _⟩ (fun r1 G1 H locs hw1 hP hS => ?_)
  obtain ⟨hr1, rfl⟩ := hw1
  subst hr1
  refine z_eqi (y := (nI (2 + 3 * i))) (congrArg nI (by omega)) ?_
  refine z_iald C0 hP (k := q) (i := 2 + 3 * i) (v := (G q (2 + 3 * i))) (hq (0, 11, 102) (by decide)).1 (Nat.lt_of_lt_of_eq (show 2 + 3 * i < 102 by omega) (hq (0, 11, 102) (by decide)).2.symm) rfl dX12_isRide_6 (rfl) ?_
  refine lv_iconst (v := (2 : Int32)) hx hb dX12_isRide_7 (by decide) ?_
  refine lv_iconst (v := (4 : Int32)) hx hb dX12_isRide_8 (by decide) ?_
  refine z_Si C0 hP hD hA hS (As := [.int (G q (2 + 3 * i)), .int (2 : Int32), .int (4 : Int32)]) (rest := []) (c_X12_isIn l E _ (G q (2 + 3 * i)) (2 : Int32) (4 : Int32)) (va_cwS 3 hts (zgS zbw mlRX12_62 stX12_isIn iniRX12 coX12_isIn) rfl rfl rfl (by decide +kernel) ⟨Nat.le_of_ble_eq_true rfl, Nat.le_of_ble_eq_true rfl⟩) rfl hl.1 rfl (Nat.le_of_ble_eq_true rfl) dX12_isRide_9 ⟨Nat.zero_le _, Nat.zero_le _⟩ (fun r2 G2 H locs hw2 hP hS => ?_)
  rcases hw2 with ⟨rfl, rfl, hi12, hi22⟩ | ⟨rfl, rfl, hi02⟩
  · skip
    have hi32 := Int32.not_lt.mpr hi12
    have hi42 := Int32.not_lt.mpr hi22
    subst hQ_
    exact z_zret C0 hP hS (v := (1 : Int32)) (by decide) (by exact ⟨z_ride1 hi1_2 hi2_2, rfl⟩) dX12_isRide_12
  · skip
    have hi52 := z_nin hi02
    subst hQ_
    exact z_zret C0 hP hS (v := (0 : Int32)) (by decide) (by exact ⟨z_ride0 hi0_2, rfl⟩) dX12_isRide_12
set_option maxHeartbeats 4000000 in
set_option maxRecDepth 100000 in
theorem c_X12_takes (l : Launch) (E : zE) (G : zG) (q i : Nat) (hq : zIs q tArr102) (hi : i < 10) : zMi l yX12_takes wsX12_takes ({ frames := 1, cells := 0, slots := 0, locals := 21 } : Room) E G [.ref (E.1 q), .int (nI i)] (fun r G1 => m_takes (G q (2 + 3 * i)) = r ∧ G = G1) := by
  refine zOf (cc := cX12_takes) (nL := 3) (ret := (some .int)) RX12 (by decide) rfl rfl (Nat.le_of_ble_eq_true rfl) ?_
  intro p_ e_ s_ m_ a_ b_ me_ c_ ls C0 hP hS hl
  have hx := C0.1
  have hb := C0.2.1
  have hts := C0.2.2.2.2.1
  have hD : zD E (zA E s_.heap.size) := C0.2.2.2.2.2.2.2.2
  have hA : ∀ q : Nat, s_.heap.size ≤ q → zA E s_.heap.size q := fun q h => Or.inr h
  refine z_gen (fun Q_ hQ_ => ?_)
  have hl : lv_has ls 3 [(0, .ref (E.1 q)), (1, .int (nI i))] := hl
  refine lv_aload_n hx hb dX12_takes_0 rfl (lv_at hl 0 rfl) ?_
  refine lv_iload_n hx hb dX12_takes_1 rfl (lv_at hl 1 rfl) ?_
  refine lv_iconst (v := (0 : Int32)) hx hb dX12_takes_2 (by decide) ?_
  refine z_Si C0 hP hD hA hS (As := [.int (nI i), .int (0 : Int32)]) (rest := [.ref (E.1 q)]) (c_X12_of l E _ i 0) (va_cwS 2 hts (zgS zbw mlRX12_66 stX12_of iniRX12 coX12_of) rfl rfl rfl (by decide +kernel) ⟨Nat.le_of_ble_eq_true rfl, Nat.le_of_ble_eq_true rfl⟩) rfl hl.1 rfl (Nat.le_of_ble_eq_true rfl) dX12_takes_3 ⟨Nat.zero_le _, Nat.zero_le _⟩ (fun r1 G1 H locs hw1 hP hS => ?_)
  obtain ⟨hr1, rfl⟩ := hw1
  subst hr1
  refine z_eqi (y := (nI (2 + 3 * i))) (congrArg nI (by omega)) ?_
  refine z_iald C0 hP (k := q) (i := 2 + 3 * i) (v := (G q (2 + 3 * i))) (hq (0, 11, 102) (by decide)).1 (Nat.lt_of_lt_of_eq (show 2 + 3 * i < 102 by omega) (hq (0, 11, 102) (by decide)).2.symm) rfl dX12_takes_6 (rfl) ?_
  refine lv_istore_n (lv' := [(2, .int (G q (2 + 3 * i))), (0, .ref (E.1 q)), (1, .int (nI i))]) hx hb dX12_takes_7 rfl hl (by decide) rfl (fun ls hl => ?_)
  refine lv_iload_n hx hb dX12_takes_8 rfl (lv_at hl 0 rfl) ?_
  refine lv_bipush (v := (6 : Int32)) hx hb dX12_takes_9 (by decide) ?_
  refine lv_icmp_ne (tgt := 18) hx hb dX12_takes_11 (by decide) (fun c_11 => ?_) (fun c_11 => ?_)
  · skip
    refine lv_iload_n hx hb dX12_takes_18 rfl (lv_at hl 0 rfl) ?_
    refine lv_iconst (v := (2 : Int32)) hx hb dX12_takes_19 (by decide) ?_
    refine lv_icmp_ge (tgt := 27) hx hb dX12_takes_20 (by decide) (fun c_20 => ?_) (fun c_20 => ?_)
    · skip
      have d_20 := Int32.not_lt.mpr c_20
      refine lv_iload_n hx hb dX12_takes_27 rfl (lv_at hl 0 rfl) ?_
      refine lv_iconst (v := (3 : Int32)) hx hb dX12_takes_28 (by decide) ?_
      refine lv_icmp_ne (tgt := 36) hx hb dX12_takes_29 (by decide) (fun c_29 => ?_) (fun c_29 => ?_)
      · skip
        refine lv_iconst (v := (2 : Int32)) hx hb dX12_takes_36 (by decide) ?_
        subst hQ_
        exact z_iret C0 hP hS (v := (2 : Int32)) (by refine ⟨?_, rfl⟩; simp [m_takes, c_11, d_20, c_29]) dX12_takes_37
      · skip
        refine lv_iconst (v := (3 : Int32)) hx hb dX12_takes_32 (by decide) ?_
        refine lv_goto (tgt := 37) hx hb dX12_takes_33 (by decide) ?_
        subst hQ_
        exact z_iret C0 hP hS (v := (3 : Int32)) (by refine ⟨?_, rfl⟩; simp [m_takes, c_11, d_20, c_29]) dX12_takes_37
    · skip
      have d_20 := Int32.not_le.mp c_20
      refine lv_iconst (v := (1 : Int32)) hx hb dX12_takes_23 (by decide) ?_
      refine lv_goto (tgt := 37) hx hb dX12_takes_24 (by decide) ?_
      subst hQ_
      exact z_iret C0 hP hS (v := (1 : Int32)) (by refine ⟨?_, rfl⟩; simp [m_takes, c_11, d_20]) dX12_takes_37
  · skip
    refine lv_iconst (v := (0 : Int32)) hx hb dX12_takes_14 (by decide) ?_
    refine lv_goto (tgt := 37) hx hb dX12_takes_15 (by decide) ?_
    subst hQ_
    exact z_iret C0 hP hS (v := (0 : Int32)) (by refine ⟨?_, rfl⟩; simp [m_takes, c_11]) dX12_takes_37
theorem mlRX12_70 : Cond.methodLink RX12 70 yX12_athleteAt ∈ zU := zU_m 924 (by decide +kernel) rfl
theorem coX12_athleteAt : Cond.code yX12_athleteAt cX12_athleteAt 2 (some .int) ∈ zU := zU_m 926 (by rfl) rfl
theorem stX12_athleteAt : Cond.static yX12_athleteAt ∈ zU := zU_m 925 (by decide +kernel) rfl
theorem mlRX12_73 : Cond.methodLink RX12 73 yX12_isRide ∈ zU := zU_m 991 (by decide +kernel) rfl
theorem coX12_isRide : Cond.code yX12_isRide cX12_isRide 2 (some .boolean) ∈ zU := zU_m 993 (by rfl) rfl
theorem stX12_isRide : Cond.static yX12_isRide ∈ zU := zU_m 992 (by decide +kernel) rfl
set_option maxHeartbeats 4000000 in
set_option maxRecDepth 100000 in
theorem c_X12_plain (l : Launch) (E : zE) (G : zG) (q a i : Nat) (hq : zIs q tArr102) (ha : a < 5) (hi : i < 10) : zMi l yX12_plain wsX12_plain ({ frames := 2, cells := 0, slots := 0, locals := 43 } : Room) E G [.ref (E.1 q), .int (nI a), .int (nI i)] (fun r G1 => m_plain (G q) a i = r ∧ G = G1) := by
  refine zOf (cc := cX12_plain) (nL := 7) (ret := (some .int)) RX12 (by decide) rfl rfl (Nat.le_of_ble_eq_true rfl) ?_
  intro p_ e_ s_ m_ a_ b_ me_ c_ ls C0 hP hS hl
  have hx := C0.1
  have hb := C0.2.1
  have hts := C0.2.2.2.2.1
  have hD : zD E (zA E s_.heap.size) := C0.2.2.2.2.2.2.2.2
  have hA : ∀ q : Nat, s_.heap.size ≤ q → zA E s_.heap.size q := fun q h => Or.inr h
  refine z_gen (fun Q_ hQ_ => ?_)
  have hl : lv_has ls 7 [(0, .ref (E.1 q)), (1, .int (nI a)), (2, .int (nI i))] := hl
  refine lv_aload_n hx hb dX12_plain_0 rfl (lv_at hl 0 rfl) ?_
  refine lv_iload_n hx hb dX12_plain_1 rfl (lv_at hl 2 rfl) ?_
  refine lv_iconst (v := (1 : Int32)) hx hb dX12_plain_2 (by decide) ?_
  refine z_Si C0 hP hD hA hS (As := [.int (nI i), .int (1 : Int32)]) (rest := [.ref (E.1 q)]) (c_X12_of l E _ i 1) (va_cwS 2 hts (zgS zbw mlRX12_66 stX12_of iniRX12 coX12_of) rfl rfl rfl (by decide +kernel) ⟨Nat.le_of_ble_eq_true rfl, Nat.le_of_ble_eq_true rfl⟩) rfl hl.1 rfl (Nat.le_of_ble_eq_true rfl) dX12_plain_3 ⟨Nat.zero_le _, Nat.zero_le _⟩ (fun r1 G1 H locs hw1 hP hS => ?_)
  obtain ⟨hr1, rfl⟩ := hw1
  subst hr1
  refine z_eqi (y := (nI (3 + 3 * i))) (congrArg nI (by omega)) ?_
  refine z_iald C0 hP (k := q) (i := 3 + 3 * i) (v := (G q (3 + 3 * i))) (hq (0, 11, 102) (by decide)).1 (Nat.lt_of_lt_of_eq (show 3 + 3 * i < 102 by omega) (hq (0, 11, 102) (by decide)).2.symm) rfl dX12_plain_6 (rfl) ?_
  refine lv_istore_n (lv' := [(3, .int (G q (3 + 3 * i))), (0, .ref (E.1 q)), (1, .int (nI a)), (2, .int (nI i))]) hx hb dX12_plain_7 rfl hl (by decide) rfl (fun ls hl => ?_)
  refine lv_aload_n hx hb dX12_plain_8 rfl (lv_at hl 1 rfl) ?_
  refine lv_iload_n hx hb dX12_plain_9 rfl (lv_at hl 3 rfl) ?_
  refine lv_iconst (v := (2 : Int32)) hx hb dX12_plain_10 (by decide) ?_
  refine z_Si C0 hP hD hA hS (As := [.int (nI i), .int (2 : Int32)]) (rest := [.ref (E.1 q)]) (c_X12_of l E _ i 2) (va_cwS 2 hts (zgS zbw mlRX12_66 stX12_of iniRX12 coX12_of) rfl rfl rfl (by decide +kernel) ⟨Nat.le_of_ble_eq_true rfl, Nat.le_of_ble_eq_true rfl⟩) rfl hl.1 rfl (Nat.le_of_ble_eq_true rfl) dX12_plain_11 ⟨Nat.zero_le _, Nat.zero_le _⟩ (fun r2 G2 H locs hw2 hP hS => ?_)
  obtain ⟨hr2, rfl⟩ := hw2
  subst hr2
  refine z_eqi (y := (nI (4 + 3 * i))) (congrArg nI (by omega)) ?_
  refine z_iald C0 hP (k := q) (i := 4 + 3 * i) (v := (G q (4 + 3 * i))) (hq (0, 11, 102) (by decide)).1 (Nat.lt_of_lt_of_eq (show 4 + 3 * i < 102 by omega) (hq (0, 11, 102) (by decide)).2.symm) rfl dX12_plain_14 (rfl) ?_
  refine lv_istore (lv' := [(4, .int (G q (4 + 3 * i))), (3, .int (G q (3 + 3 * i))), (0, .ref (E.1 q)), (1, .int (nI a)), (2, .int (nI i))]) hx hb dX12_plain_15 hl (by decide) rfl (fun ls hl => ?_)
  refine lv_iload hx hb dX12_plain_17 (lv_at hl 0 rfl) ?_
  refine lv_bipush (v := (20 : Int32)) hx hb dX12_plain_19 (by decide) ?_
  refine lv_aload_n hx hb dX12_plain_21 rfl (lv_at hl 2 rfl) ?_
  refine lv_iload_n hx hb dX12_plain_22 rfl (lv_at hl 3 rfl) ?_
  refine lv_iconst (v := (0 : Int32)) hx hb dX12_plain_23 (by decide) ?_
  refine z_Si C0 hP hD hA hS (As := [.int (nI a), .int (0 : Int32)]) (rest := [.ref (E.1 q), .int (20 : Int32), .int (G q (4 + 3 * i))]) (c_X12_athleteAt l E _ a 0) (va_cwS 2 hts (zgS zbw mlRX12_70 stX12_athleteAt iniRX12 coX12_athleteAt) rfl rfl rfl (by decide +kernel) ⟨Nat.le_of_ble_eq_true rfl, Nat.le_of_ble_eq_true rfl⟩) rfl hl.1 rfl (Nat.le_of_ble_eq_true rfl) dX12_plain_24 ⟨Nat.zero_le _, Nat.zero_le _⟩ (fun r3 G3 H locs hw3 hP hS => ?_)
  obtain ⟨hr3, rfl⟩ := hw3
  subst hr3
  refine z_eqi (y := (nI (32 + 4 * a))) (congrArg nI (by omega)) ?_
  refine z_iald C0 hP (k := q) (i := 32 + 4 * a) (v := (G q (32 + 4 * a))) (hq (0, 11, 102) (by decide)).1 (Nat.lt_of_lt_of_eq (show 32 + 4 * a < 102 by omega) (hq (0, 11, 102) (by decide)).2.symm) rfl dX12_plain_27 (rfl) ?_
  refine lv_isub hx hb dX12_plain_28 ?_
  refine lv_imul hx hb dX12_plain_29 ?_
  refine lv_istore (lv' := [(5, .int ((G q (4 + 3 * i)) * ((20 : Int32) - (G q (32 + 4 * a))))), (4, .int (G q (4 + 3 * i))), (3, .int (G q (3 + 3 * i))), (0, .ref (E.1 q)), (1, .int (nI a)), (2, .int (nI i))]) hx hb dX12_plain_30 hl (by decide) rfl (fun ls hl => ?_)
  refine lv_iload hx hb dX12_plain_32 (lv_at hl 1 rfl) ?_
  refine lv_bipush (v := (20 : Int32)) hx hb dX12_plain_34 (by decide) ?_
  refine lv_aload_n hx hb dX12_plain_36 rfl (lv_at hl 3 rfl) ?_
  refine lv_iload_n hx hb dX12_plain_37 rfl (lv_at hl 4 rfl) ?_
  refine lv_iconst (v := (1 : Int32)) hx hb dX12_plain_38 (by decide) ?_
  refine z_Si C0 hP hD hA hS (As := [.int (nI a), .int (1 : Int32)]) (rest := [.ref (E.1 q), .int (20 : Int32), .int (G q (4 + 3 * i))]) (c_X12_athleteAt l E _ a 1) (va_cwS 2 hts (zgS zbw mlRX12_70 stX12_athleteAt iniRX12 coX12_athleteAt) rfl rfl rfl (by decide +kernel) ⟨Nat.le_of_ble_eq_true rfl, Nat.le_of_ble_eq_true rfl⟩) rfl hl.1 rfl (Nat.le_of_ble_eq_true rfl) dX12_plain_39 ⟨Nat.zero_le _, Nat.zero_le _⟩ (fun r4 G4 H locs hw4 hP hS => ?_)
  obtain ⟨hr4, rfl⟩ := hw4
  subst hr4
  refine z_eqi (y := (nI (33 + 4 * a))) (congrArg nI (by omega)) ?_
  refine z_iald C0 hP (k := q) (i := 33 + 4 * a) (v := (G q (33 + 4 * a))) (hq (0, 11, 102) (by decide)).1 (Nat.lt_of_lt_of_eq (show 33 + 4 * a < 102 by omega) (hq (0, 11, 102) (by decide)).2.symm) rfl dX12_plain_42 (rfl) ?_
  refine lv_isub hx hb dX12_plain_43 ?_
  refine lv_imul hx hb dX12_plain_44 ?_
  refine lv_istore (lv' := [(6, .int ((G q (4 + 3 * i)) * ((20 : Int32) - (G q (33 + 4 * a))))), (5, .int ((G q (4 + 3 * i)) * ((20 : Int32) - (G q (32 + 4 * a))))), (4, .int (G q (4 + 3 * i))), (3, .int (G q (3 + 3 * i))), (0, .ref (E.1 q)), (1, .int (nI a)), (2, .int (nI i))]) hx hb dX12_plain_45 hl (by decide) rfl (fun ls hl => ?_)
  refine lv_aload_n hx hb dX12_plain_47 rfl (lv_at hl 4 rfl) ?_
  refine lv_iload_n hx hb dX12_plain_48 rfl (lv_at hl 6 rfl) ?_
  refine lv_iconst (v := (0 : Int32)) hx hb dX12_plain_49 (by decide) ?_
  refine z_Si C0 hP hD hA hS (As := [.int (nI i), .int (0 : Int32)]) (rest := [.ref (E.1 q)]) (c_X12_of l E _ i 0) (va_cwS 2 hts (zgS zbw mlRX12_66 stX12_of iniRX12 coX12_of) rfl rfl rfl (by decide +kernel) ⟨Nat.le_of_ble_eq_true rfl, Nat.le_of_ble_eq_true rfl⟩) rfl hl.1 rfl (Nat.le_of_ble_eq_true rfl) dX12_plain_50 ⟨Nat.zero_le _, Nat.zero_le _⟩ (fun r5 G5 H locs hw5 hP hS => ?_)
  obtain ⟨hr5, rfl⟩ := hw5
  subst hr5
  refine z_eqi (y := (nI (2 + 3 * i))) (congrArg nI (by omega)) ?_
  refine z_iald C0 hP (k := q) (i := 2 + 3 * i) (v := (G q (2 + 3 * i))) (hq (0, 11, 102) (by decide)).1 (Nat.lt_of_lt_of_eq (show 2 + 3 * i < 102 by omega) (hq (0, 11, 102) (by decide)).2.symm) rfl dX12_plain_53 (rfl) ?_
  rcases z_sw ((G q (2 + 3 * i))) 0 6 with hsw | ⟨k_, hk_, hsw⟩
  · skip
    refine lv_tableOut (tgt := 161) hx hb dX12_plain_54 (z_swo hsw rfl rfl) (by decide) ?_
    have hsn_54_0 : ¬ (G q (2 + 3 * i)) = (0 : Int32) := fun q => by rw [q] at hsw; revert hsw; decide
    have hsn_54_1 : ¬ (G q (2 + 3 * i)) = (1 : Int32) := fun q => by rw [q] at hsw; revert hsw; decide
    have hsn_54_2 : ¬ (G q (2 + 3 * i)) = (2 : Int32) := fun q => by rw [q] at hsw; revert hsw; decide
    have hsn_54_3 : ¬ (G q (2 + 3 * i)) = (3 : Int32) := fun q => by rw [q] at hsw; revert hsw; decide
    have hsn_54_4 : ¬ (G q (2 + 3 * i)) = (4 : Int32) := fun q => by rw [q] at hsw; revert hsw; decide
    have hsn_54_5 : ¬ (G q (2 + 3 * i)) = (5 : Int32) := fun q => by rw [q] at hsw; revert hsw; decide
    refine lv_bipush (v := (10 : Int32)) hx hb dX12_plain_161 (by decide) ?_
    refine lv_iconst (v := (5 : Int32)) hx hb dX12_plain_163 (by decide) ?_
    refine lv_iload_n hx hb dX12_plain_164 rfl (lv_at hl 3 rfl) ?_
    refine lv_imul hx hb dX12_plain_165 ?_
    refine lv_iadd hx hb dX12_plain_166 ?_
    subst hQ_
    exact z_iret C0 hP hS (v := ((10 : Int32) + ((5 : Int32) * (G q (3 + 3 * i))))) (by refine ⟨?_, rfl⟩; simp [m_plain, hsn_54_0, hsn_54_1, hsn_54_2, hsn_54_3, hsn_54_4, hsn_54_5]) dX12_plain_167
  · skip
    rcases (show k_ = 0 ∨ k_ = 1 ∨ k_ = 2 ∨ k_ = 3 ∨ k_ = 4 ∨ k_ = 5 by omega) with rfl | rfl | rfl | rfl | rfl | rfl
    · skip
      have hsw_54 : (G q (2 + 3 * i)) = (0 : Int32) := z_swi hsw (by decide)
      refine lv_tableIn (tgt := 92) (off := 38) hx hb dX12_plain_54 (by rw [hsw_54]; decide) (by rw [hsw_54]; decide) (by rw [hsw_54]; rfl) (by decide) ?_
      refine lv_iload hx hb dX12_plain_92 (lv_at hl 1 rfl) ?_
      subst hQ_
      exact z_iret C0 hP hS (v := ((G q (4 + 3 * i)) * ((20 : Int32) - (G q (32 + 4 * a))))) (by refine ⟨?_, rfl⟩; simp [m_plain, hsw_54]) dX12_plain_94
    · skip
      have hsw_54 : (G q (2 + 3 * i)) = (1 : Int32) := z_swi hsw (by decide)
      refine lv_tableIn (tgt := 95) (off := 41) hx hb dX12_plain_54 (by rw [hsw_54]; decide) (by rw [hsw_54]; decide) (by rw [hsw_54]; rfl) (by decide) ?_
      refine lv_iload hx hb dX12_plain_95 (lv_at hl 1 rfl) ?_
      refine lv_iload hx hb dX12_plain_97 (lv_at hl 2 rfl) ?_
      refine lv_iload_n hx hb dX12_plain_99 rfl (lv_at hl 3 rfl) ?_
      refine lv_imul hx hb dX12_plain_100 ?_
      refine lv_isub hx hb dX12_plain_101 ?_
      subst hQ_
      exact z_iret C0 hP hS (v := (((G q (4 + 3 * i)) * ((20 : Int32) - (G q (32 + 4 * a)))) - ((G q (4 + 3 * i)) * (G q (3 + 3 * i))))) (by refine ⟨?_, rfl⟩; simp [m_plain, hsw_54]) dX12_plain_102
    · skip
      have hsw_54 : (G q (2 + 3 * i)) = (2 : Int32) := z_swi hsw (by decide)
      refine lv_tableIn (tgt := 103) (off := 49) hx hb dX12_plain_54 (by rw [hsw_54]; decide) (by rw [hsw_54]; decide) (by rw [hsw_54]; rfl) (by decide) ?_
      refine lv_iload hx hb dX12_plain_103 (lv_at hl 0 rfl) ?_
      subst hQ_
      exact z_iret C0 hP hS (v := ((G q (4 + 3 * i)) * ((20 : Int32) - (G q (33 + 4 * a))))) (by refine ⟨?_, rfl⟩; simp [m_plain, hsw_54]) dX12_plain_105
    · skip
      have hsw_54 : (G q (2 + 3 * i)) = (3 : Int32) := z_swi hsw (by decide)
      refine lv_tableIn (tgt := 106) (off := 52) hx hb dX12_plain_54 (by rw [hsw_54]; decide) (by rw [hsw_54]; decide) (by rw [hsw_54]; rfl) (by decide) ?_
      refine lv_iload hx hb dX12_plain_106 (lv_at hl 0 rfl) ?_
      refine lv_iload hx hb dX12_plain_108 (lv_at hl 2 rfl) ?_
      refine lv_iload_n hx hb dX12_plain_110 rfl (lv_at hl 3 rfl) ?_
      refine lv_imul hx hb dX12_plain_111 ?_
      refine lv_iadd hx hb dX12_plain_112 ?_
      subst hQ_
      exact z_iret C0 hP hS (v := (((G q (4 + 3 * i)) * ((20 : Int32) - (G q (33 + 4 * a)))) + ((G q (4 + 3 * i)) * (G q (3 + 3 * i))))) (by refine ⟨?_, rfl⟩; simp [m_plain, hsw_54]) dX12_plain_113
    · skip
      have hsw_54 : (G q (2 + 3 * i)) = (4 : Int32) := z_swi hsw (by decide)
      refine lv_tableIn (tgt := 114) (off := 60) hx hb dX12_plain_54 (by rw [hsw_54]; decide) (by rw [hsw_54]; decide) (by rw [hsw_54]; rfl) (by decide) ?_
      refine lv_iload hx hb dX12_plain_114 (lv_at hl 0 rfl) ?_
      refine lv_iload hx hb dX12_plain_116 (lv_at hl 2 rfl) ?_
      refine lv_iload_n hx hb dX12_plain_118 rfl (lv_at hl 3 rfl) ?_
      refine lv_iconst (v := (2 : Int32)) hx hb dX12_plain_119 (by decide) ?_
      refine lv_idiv hx hb dX12_plain_120 (by decide) ?_
      refine lv_imul hx hb dX12_plain_121 ?_
      refine lv_iadd hx hb dX12_plain_122 ?_
      subst hQ_
      exact z_iret C0 hP hS (v := (((G q (4 + 3 * i)) * ((20 : Int32) - (G q (33 + 4 * a)))) + ((G q (4 + 3 * i)) * ((G q (3 + 3 * i)) / (2 : Int32))))) (by refine ⟨?_, rfl⟩; simp [m_plain, hsw_54]) dX12_plain_123
    · skip
      have hsw_54 : (G q (2 + 3 * i)) = (5 : Int32) := z_swi hsw (by decide)
      refine lv_tableIn (tgt := 124) (off := 70) hx hb dX12_plain_54 (by rw [hsw_54]; decide) (by rw [hsw_54]; decide) (by rw [hsw_54]; rfl) (by decide) ?_
      refine lv_iload hx hb dX12_plain_124 (lv_at hl 2 rfl) ?_
      refine lv_bipush (v := (22 : Int32)) hx hb dX12_plain_126 (by decide) ?_
      refine lv_aload_n hx hb dX12_plain_128 rfl (lv_at hl 4 rfl) ?_
      refine lv_iload_n hx hb dX12_plain_129 rfl (lv_at hl 5 rfl) ?_
      refine lv_iconst (v := (2 : Int32)) hx hb dX12_plain_130 (by decide) ?_
      refine z_Si C0 hP hD hA hS (As := [.int (nI a), .int (2 : Int32)]) (rest := [.ref (E.1 q), .int (22 : Int32), .int (G q (4 + 3 * i))]) (c_X12_athleteAt l E _ a 2) (va_cwS 2 hts (zgS zbw mlRX12_70 stX12_athleteAt iniRX12 coX12_athleteAt) rfl rfl rfl (by decide +kernel) ⟨Nat.le_of_ble_eq_true rfl, Nat.le_of_ble_eq_true rfl⟩) rfl hl.1 rfl (Nat.le_of_ble_eq_true rfl) dX12_plain_131 ⟨Nat.zero_le _, Nat.zero_le _⟩ (fun r6 G6 H locs hw6 hP hS => ?_)
      obtain ⟨hr6, rfl⟩ := hw6
      subst hr6
      refine z_eqi (y := (nI (34 + 4 * a))) (congrArg nI (by omega)) ?_
      refine z_iald C0 hP (k := q) (i := 34 + 4 * a) (v := (G q (34 + 4 * a))) (hq (0, 11, 102) (by decide)).1 (Nat.lt_of_lt_of_eq (show 34 + 4 * a < 102 by omega) (hq (0, 11, 102) (by decide)).2.symm) rfl dX12_plain_134 (rfl) ?_
      refine lv_isub hx hb dX12_plain_135 ?_
      refine lv_imul hx hb dX12_plain_136 ?_
      refine lv_iload_n hx hb dX12_plain_137 rfl (lv_at hl 6 rfl) ?_
      refine z_0_le hx hb (a := i) (tgt := 158) dX12_plain_138 rfl (by omega) (by decide) (fun c_138 => ?_) (fun c_138 => ?_)
      · skip
        refine lv_iconst (v := (0 : Int32)) hx hb dX12_plain_158 (by decide) ?_
        refine lv_iadd hx hb dX12_plain_159 ?_
        subst hQ_
        exact z_iret C0 hP hS (v := (((G q (4 + 3 * i)) * ((22 : Int32) - (G q (34 + 4 * a)))) + (0 : Int32))) (by refine ⟨?_, rfl⟩; simp [m_plain, hsw_54, c_138]) dX12_plain_160
      · skip
        refine lv_aload_n hx hb dX12_plain_141 rfl (lv_at hl 4 rfl) ?_
        refine lv_iload_n hx hb dX12_plain_142 rfl (lv_at hl 6 rfl) ?_
        refine lv_iconst (v := (1 : Int32)) hx hb dX12_plain_143 (by decide) ?_
        refine z_isub hx hb (a := i) (b := 1) (n := i - 1) dX12_plain_144 rfl rfl (by omega) (by omega) ?_
        refine z_Si C0 hP hD hA hS (As := [.ref (E.1 q), .int (nI (i - 1))]) (rest := [.int ((G q (4 + 3 * i)) * ((22 : Int32) - (G q (34 + 4 * a))))]) (c_X12_isRide l E _ q (i - 1) hq (by omega)) (va_cwS 2 hts (zgS zbw mlRX12_73 stX12_isRide iniRX12 coX12_isRide) rfl rfl rfl (by decide +kernel) ⟨Nat.le_of_ble_eq_true rfl, Nat.le_of_ble_eq_true rfl⟩) rfl hl.1 rfl (Nat.le_of_ble_eq_true rfl) dX12_plain_145 ⟨Nat.zero_le _, Nat.zero_le _⟩ (fun r7 G7 H locs hw7 hP hS => ?_)
        obtain ⟨hr7, rfl⟩ := hw7
        subst hr7
        refine lv_if_eq (tgt := 158) hx hb dX12_plain_148 (by decide) (fun c_148 => ?_) (fun c_148 => ?_)
        · skip
          refine lv_iconst (v := (0 : Int32)) hx hb dX12_plain_158 (by decide) ?_
          refine lv_iadd hx hb dX12_plain_159 ?_
          subst hQ_
          exact z_iret C0 hP hS (v := (((G q (4 + 3 * i)) * ((22 : Int32) - (G q (34 + 4 * a)))) + (0 : Int32))) (by refine ⟨?_, rfl⟩; simp [m_plain, hsw_54, c_138, c_148]) dX12_plain_160
        · skip
          refine lv_iload hx hb dX12_plain_151 (lv_at hl 2 rfl) ?_
          refine lv_iload_n hx hb dX12_plain_153 rfl (lv_at hl 3 rfl) ?_
          refine lv_iadd hx hb dX12_plain_154 ?_
          refine lv_goto (tgt := 159) hx hb dX12_plain_155 (by decide) ?_
          refine lv_iadd hx hb dX12_plain_159 ?_
          subst hQ_
          exact z_iret C0 hP hS (v := (((G q (4 + 3 * i)) * ((22 : Int32) - (G q (34 + 4 * a)))) + ((G q (4 + 3 * i)) + (G q (3 + 3 * i))))) (by refine ⟨?_, rfl⟩; simp [m_plain, hsw_54, c_138, c_148]) dX12_plain_160
theorem mlRX12_77 : Cond.methodLink RX12 77 yX12_plain ∈ zU := zU_m 988 (by decide +kernel) rfl
theorem coX12_plain : Cond.code yX12_plain cX12_plain 7 (some .int) ∈ zU := zU_m 990 (by rfl) rfl
theorem stX12_plain : Cond.static yX12_plain ∈ zU := zU_m 989 (by decide +kernel) rfl
set_option maxHeartbeats 4000000 in
set_option maxRecDepth 100000 in
theorem c_X12_secondsBy (l : Launch) (E : zE) (G : zG) (q a i : Nat) (g t : Int32) (hq : zIs q tArr102) (ha : a < 5) (hi : i < 10) : zMi l yX12_secondsBy wsX12_secondsBy ({ frames := 3, cells := 0, slots := 0, locals := 69 } : Room) E G [.ref (E.1 q), .int (nI a), .int (nI i), .int g, .int t] (fun r G1 => s_sec (m_plain (G q) a i) t g = r ∧ G = G1) := by
  refine zOf (cc := cX12_secondsBy) (nL := 6) (ret := (some .int)) RX12 (by decide) rfl rfl (Nat.le_of_ble_eq_true rfl) ?_
  intro p_ e_ s_ m_ a_ b_ me_ c_ ls C0 hP hS hl
  have hx := C0.1
  have hb := C0.2.1
  have hts := C0.2.2.2.2.1
  have hD : zD E (zA E s_.heap.size) := C0.2.2.2.2.2.2.2.2
  have hA : ∀ q : Nat, s_.heap.size ≤ q → zA E s_.heap.size q := fun q h => Or.inr h
  refine z_gen (fun Q_ hQ_ => ?_)
  have hl : lv_has ls 6 [(0, .ref (E.1 q)), (1, .int (nI a)), (2, .int (nI i)), (3, .int g), (4, .int t)] := hl
  refine lv_aload_n hx hb dX12_secondsBy_0 rfl (lv_at hl 0 rfl) ?_
  refine lv_iload_n hx hb dX12_secondsBy_1 rfl (lv_at hl 1 rfl) ?_
  refine lv_iload_n hx hb dX12_secondsBy_2 rfl (lv_at hl 2 rfl) ?_
  refine z_Si C0 hP hD hA hS (As := [.ref (E.1 q), .int (nI a), .int (nI i)]) (rest := []) (c_X12_plain l E _ q a i hq (by omega) (by omega)) (va_cwS 3 hts (zgS zbw mlRX12_77 stX12_plain iniRX12 coX12_plain) rfl rfl rfl (by decide +kernel) ⟨Nat.le_of_ble_eq_true rfl, Nat.le_of_ble_eq_true rfl⟩) rfl hl.1 rfl (Nat.le_of_ble_eq_true rfl) dX12_secondsBy_3 ⟨Nat.zero_le _, Nat.zero_le _⟩ (fun r1 G1 H locs hw1 hP hS => ?_)
  obtain ⟨hr1, rfl⟩ := hw1
  subst hr1
  refine lv_istore (lv' := [(5, .int (m_plain (G q) a i)), (0, .ref (E.1 q)), (1, .int (nI a)), (2, .int (nI i)), (3, .int g), (4, .int t)]) hx hb dX12_secondsBy_6 hl (by decide) rfl (fun ls hl => ?_)
  refine lv_iload_n hx hb dX12_secondsBy_8 rfl (lv_at hl 4 rfl) ?_
  refine lv_if_le (tgt := 26) hx hb dX12_secondsBy_9 (by decide) (fun c_9 => ?_) (fun c_9 => ?_)
  · skip
    have d_9 := Int32.not_lt.mpr c_9
    refine lv_iload hx hb dX12_secondsBy_26 (lv_at hl 0 rfl) ?_
    refine lv_iload hx hb dX12_secondsBy_28 (lv_at hl 0 rfl) ?_
    refine lv_iconst (v := (4 : Int32)) hx hb dX12_secondsBy_30 (by decide) ?_
    refine lv_idiv hx hb dX12_secondsBy_31 (by decide) ?_
    refine lv_iadd hx hb dX12_secondsBy_32 ?_
    subst hQ_
    exact z_iret C0 hP hS (v := ((m_plain (G q) a i) + ((m_plain (G q) a i) / (4 : Int32)))) (by refine ⟨?_, rfl⟩; simp [s_sec, d_9]) dX12_secondsBy_33
  · skip
    have d_9 := Int32.not_le.mp c_9
    refine lv_iload hx hb dX12_secondsBy_12 (lv_at hl 0 rfl) ?_
    refine lv_iload hx hb dX12_secondsBy_14 (lv_at hl 0 rfl) ?_
    refine lv_iload hx hb dX12_secondsBy_16 (lv_at hl 5 rfl) ?_
    refine lv_imul hx hb dX12_secondsBy_18 ?_
    refine lv_bipush (v := (10 : Int32)) hx hb dX12_secondsBy_19 (by decide) ?_
    refine lv_idiv hx hb dX12_secondsBy_21 (by decide) ?_
    refine lv_isub hx hb dX12_secondsBy_22 ?_
    refine lv_goto (tgt := 33) hx hb dX12_secondsBy_23 (by decide) ?_
    subst hQ_
    exact z_iret C0 hP hS (v := ((m_plain (G q) a i) - (((m_plain (G q) a i) * t) / (10 : Int32)))) (by refine ⟨?_, rfl⟩; simp [s_sec, d_9]) dX12_secondsBy_33
theorem mlRX12_88 : Cond.methodLink RX12 88 yX12_least ∈ zU := zU_m 1000 (by decide +kernel) rfl
theorem coX12_least : Cond.code yX12_least cX12_least 2 (some .int) ∈ zU := zU_m 1002 (by rfl) rfl
theorem stX12_least : Cond.static yX12_least ∈ zU := zU_m 1001 (by decide +kernel) rfl
theorem mlRX12_81 : Cond.methodLink RX12 81 yX12_takes ∈ zU := zU_m 946 (by decide +kernel) rfl
theorem coX12_takes : Cond.code yX12_takes cX12_takes 3 (some .int) ∈ zU := zU_m 948 (by rfl) rfl
theorem stX12_takes : Cond.static yX12_takes ∈ zU := zU_m 947 (by decide +kernel) rfl
theorem mlRX12_85 : Cond.methodLink RX12 85 yX12_most ∈ zU := zU_m 997 (by decide +kernel) rfl
theorem coX12_most : Cond.code yX12_most cX12_most 2 (some .int) ∈ zU := zU_m 999 (by rfl) rfl
theorem stX12_most : Cond.static yX12_most ∈ zU := zU_m 998 (by decide +kernel) rfl
set_option maxHeartbeats 4000000 in
set_option maxRecDepth 100000 in
theorem c_X12_legsBehind (l : Launch) (E : zE) (G : zG) (q i : Nat) (g t : Int32) (hq : zIs q tArr102) (hi : i < 10) : zMi l yX12_legsBehind wsX12_legsBehind ({ frames := 2, cells := 0, slots := 0, locals := 43 } : Room) E G [.ref (E.1 q), .int (nI i), .int g, .int t] (fun r G1 => m_leg (G q (2 + 3 * i)) (G q (4 + 3 * i)) t g = r ∧ G = G1) := by
  refine zOf (cc := cX12_legsBehind) (nL := 5) (ret := (some .int)) RX12 (by decide) rfl rfl (Nat.le_of_ble_eq_true rfl) ?_
  intro p_ e_ s_ m_ a_ b_ me_ c_ ls C0 hP hS hl
  have hx := C0.1
  have hb := C0.2.1
  have hts := C0.2.2.2.2.1
  have hD : zD E (zA E s_.heap.size) := C0.2.2.2.2.2.2.2.2
  have hA : ∀ q : Nat, s_.heap.size ≤ q → zA E s_.heap.size q := fun q h => Or.inr h
  refine z_gen (fun Q_ hQ_ => ?_)
  have hl : lv_has ls 5 [(0, .ref (E.1 q)), (1, .int (nI i)), (2, .int g), (3, .int t)] := hl
  refine lv_iload_n hx hb dX12_legsBehind_0 rfl (lv_at hl 2 rfl) ?_
  refine lv_if_le (tgt := 28) hx hb dX12_legsBehind_1 (by decide) (fun c_1 => ?_) (fun c_1 => ?_)
  · skip
    have d_1 := Int32.not_lt.mpr c_1
    refine lv_iconst (v := (0 : Int32)) hx hb dX12_legsBehind_28 (by decide) ?_
    refine lv_istore (lv' := [(4, .int (0 : Int32)), (0, .ref (E.1 q)), (1, .int (nI i)), (2, .int g), (3, .int t)]) hx hb dX12_legsBehind_29 hl (by decide) rfl (fun ls hl => ?_)
    refine lv_aload_n hx hb dX12_legsBehind_31 rfl (lv_at hl 1 rfl) ?_
    refine lv_iload_n hx hb dX12_legsBehind_32 rfl (lv_at hl 2 rfl) ?_
    refine lv_iconst (v := (0 : Int32)) hx hb dX12_legsBehind_33 (by decide) ?_
    refine z_Si C0 hP hD hA hS (As := [.int (nI i), .int (0 : Int32)]) (rest := [.ref (E.1 q)]) (c_X12_of l E _ i 0) (va_cwS 2 hts (zgS zbw mlRX12_66 stX12_of iniRX12 coX12_of) rfl rfl rfl (by decide +kernel) ⟨Nat.le_of_ble_eq_true rfl, Nat.le_of_ble_eq_true rfl⟩) rfl hl.1 rfl (Nat.le_of_ble_eq_true rfl) dX12_legsBehind_34 ⟨Nat.zero_le _, Nat.zero_le _⟩ (fun r1 G1 H locs hw1 hP hS => ?_)
    obtain ⟨hr1, rfl⟩ := hw1
    subst hr1
    refine z_eqi (y := (nI (2 + 3 * i))) (congrArg nI (by omega)) ?_
    refine z_iald C0 hP (k := q) (i := 2 + 3 * i) (v := (G q (2 + 3 * i))) (hq (0, 11, 102) (by decide)).1 (Nat.lt_of_lt_of_eq (show 2 + 3 * i < 102 by omega) (hq (0, 11, 102) (by decide)).2.symm) rfl dX12_legsBehind_37 (rfl) ?_
    refine lv_bipush (v := (6 : Int32)) hx hb dX12_legsBehind_38 (by decide) ?_
    refine lv_icmp_ne (tgt := 55) hx hb dX12_legsBehind_40 (by decide) (fun c_40 => ?_) (fun c_40 => ?_)
    · skip
      refine lv_iload hx hb dX12_legsBehind_55 (lv_at hl 0 rfl) ?_
      subst hQ_
      exact z_iret C0 hP hS (v := (0 : Int32)) (by refine ⟨?_, rfl⟩; simp [m_leg, m_left, d_1, c_40]) dX12_legsBehind_57
    · skip
      refine lv_bipush (v := (99 : Int32)) hx hb dX12_legsBehind_43 (by decide) ?_
      refine lv_iload hx hb dX12_legsBehind_45 (lv_at hl 0 rfl) ?_
      refine lv_iconst (v := (5 : Int32)) hx hb dX12_legsBehind_47 (by decide) ?_
      refine z_iadd hx hb (a := 0) (b := 5) (n := 5) dX12_legsBehind_48 rfl rfl rfl ?_
      refine z_Si C0 hP hD hA hS (As := [.int (99 : Int32), .int (5 : Int32)]) (rest := []) (c_X12_least l E _ (99 : Int32) (5 : Int32)) (va_cwS 2 hts (zgS zbw mlRX12_88 stX12_least iniRX12 coX12_least) rfl rfl rfl (by decide +kernel) ⟨Nat.le_of_ble_eq_true rfl, Nat.le_of_ble_eq_true rfl⟩) rfl hl.1 rfl (Nat.le_of_ble_eq_true rfl) dX12_legsBehind_49 ⟨Nat.zero_le _, Nat.zero_le _⟩ (fun r2 G2 H locs hw2 hP hS => ?_)
      obtain ⟨rfl, rfl⟩ := hw2
      refine lv_goto (tgt := 57) hx hb dX12_legsBehind_52 (by decide) ?_
      subst hQ_
      exact z_iret C0 hP hS (v := (s_min (99 : Int32) (5 : Int32))) (by refine ⟨?_, rfl⟩; simp [m_leg, m_left, d_1, c_40]) dX12_legsBehind_57
  · skip
    have d_1 := Int32.not_le.mp c_1
    refine lv_iconst (v := (0 : Int32)) hx hb dX12_legsBehind_4 (by decide) ?_
    refine lv_iload_n hx hb dX12_legsBehind_5 rfl (lv_at hl 2 rfl) ?_
    refine lv_iload_n hx hb dX12_legsBehind_6 rfl (lv_at hl 3 rfl) ?_
    refine lv_aload_n hx hb dX12_legsBehind_7 rfl (lv_at hl 0 rfl) ?_
    refine lv_iload_n hx hb dX12_legsBehind_8 rfl (lv_at hl 1 rfl) ?_
    refine z_Si C0 hP hD hA hS (As := [.ref (E.1 q), .int (nI i)]) (rest := [.int t, .int g, .int (0 : Int32)]) (c_X12_takes l E _ q i hq (by omega)) (va_cwS 2 hts (zgS zbw mlRX12_81 stX12_takes iniRX12 coX12_takes) rfl rfl rfl (by decide +kernel) ⟨Nat.le_of_ble_eq_true rfl, Nat.le_of_ble_eq_true rfl⟩) rfl hl.1 rfl (Nat.le_of_ble_eq_true rfl) dX12_legsBehind_9 ⟨Nat.zero_le _, Nat.zero_le _⟩ (fun r3 G3 H locs hw3 hP hS => ?_)
    obtain ⟨hr3, rfl⟩ := hw3
    subst hr3
    refine lv_imul hx hb dX12_legsBehind_12 ?_
    refine lv_aload_n hx hb dX12_legsBehind_13 rfl (lv_at hl 0 rfl) ?_
    refine lv_iload_n hx hb dX12_legsBehind_14 rfl (lv_at hl 1 rfl) ?_
    refine lv_iconst (v := (2 : Int32)) hx hb dX12_legsBehind_15 (by decide) ?_
    refine z_Si C0 hP hD hA hS (As := [.int (nI i), .int (2 : Int32)]) (rest := [.ref (E.1 q), .int (t * (m_takes (G q (2 + 3 * i)))), .int g, .int (0 : Int32)]) (c_X12_of l E _ i 2) (va_cwS 2 hts (zgS zbw mlRX12_66 stX12_of iniRX12 coX12_of) rfl rfl rfl (by decide +kernel) ⟨Nat.le_of_ble_eq_true rfl, Nat.le_of_ble_eq_true rfl⟩) rfl hl.1 rfl (Nat.le_of_ble_eq_true rfl) dX12_legsBehind_16 ⟨Nat.zero_le _, Nat.zero_le _⟩ (fun r4 G4 H locs hw4 hP hS => ?_)
    obtain ⟨hr4, rfl⟩ := hw4
    subst hr4
    refine z_eqi (y := (nI (4 + 3 * i))) (congrArg nI (by omega)) ?_
    refine z_iald C0 hP (k := q) (i := 4 + 3 * i) (v := (G q (4 + 3 * i))) (hq (0, 11, 102) (by decide)).1 (Nat.lt_of_lt_of_eq (show 4 + 3 * i < 102 by omega) (hq (0, 11, 102) (by decide)).2.symm) rfl dX12_legsBehind_19 (rfl) ?_
    refine lv_imul hx hb dX12_legsBehind_20 ?_
    refine lv_isub hx hb dX12_legsBehind_21 ?_
    refine z_Si C0 hP hD hA hS (As := [.int (0 : Int32), .int (g - ((t * (m_takes (G q (2 + 3 * i)))) * (G q (4 + 3 * i))))]) (rest := []) (c_X12_most l E _ (0 : Int32) (g - ((t * (m_takes (G q (2 + 3 * i)))) * (G q (4 + 3 * i))))) (va_cwS 2 hts (zgS zbw mlRX12_85 stX12_most iniRX12 coX12_most) rfl rfl rfl (by decide +kernel) ⟨Nat.le_of_ble_eq_true rfl, Nat.le_of_ble_eq_true rfl⟩) rfl hl.1 rfl (Nat.le_of_ble_eq_true rfl) dX12_legsBehind_22 ⟨Nat.zero_le _, Nat.zero_le _⟩ (fun r5 G5 H locs hw5 hP hS => ?_)
    obtain ⟨rfl, rfl⟩ := hw5
    refine lv_goto (tgt := 29) hx hb dX12_legsBehind_25 (by decide) ?_
    refine lv_istore (lv' := [(4, .int (s_max (0 : Int32) (g - ((t * (m_takes (G q (2 + 3 * i)))) * (G q (4 + 3 * i)))))), (0, .ref (E.1 q)), (1, .int (nI i)), (2, .int g), (3, .int t)]) hx hb dX12_legsBehind_29 hl (by decide) rfl (fun ls hl => ?_)
    refine lv_aload_n hx hb dX12_legsBehind_31 rfl (lv_at hl 1 rfl) ?_
    refine lv_iload_n hx hb dX12_legsBehind_32 rfl (lv_at hl 2 rfl) ?_
    refine lv_iconst (v := (0 : Int32)) hx hb dX12_legsBehind_33 (by decide) ?_
    refine z_Si C0 hP hD hA hS (As := [.int (nI i), .int (0 : Int32)]) (rest := [.ref (E.1 q)]) (c_X12_of l E _ i 0) (va_cwS 2 hts (zgS zbw mlRX12_66 stX12_of iniRX12 coX12_of) rfl rfl rfl (by decide +kernel) ⟨Nat.le_of_ble_eq_true rfl, Nat.le_of_ble_eq_true rfl⟩) rfl hl.1 rfl (Nat.le_of_ble_eq_true rfl) dX12_legsBehind_34 ⟨Nat.zero_le _, Nat.zero_le _⟩ (fun r6 G6 H locs hw6 hP hS => ?_)
    obtain ⟨hr6, rfl⟩ := hw6
    subst hr6
    refine z_eqi (y := (nI (2 + 3 * i))) (congrArg nI (by omega)) ?_
    refine z_iald C0 hP (k := q) (i := 2 + 3 * i) (v := (G q (2 + 3 * i))) (hq (0, 11, 102) (by decide)).1 (Nat.lt_of_lt_of_eq (show 2 + 3 * i < 102 by omega) (hq (0, 11, 102) (by decide)).2.symm) rfl dX12_legsBehind_37 (rfl) ?_
    refine lv_bipush (v := (6 : Int32)) hx hb dX12_legsBehind_38 (by decide) ?_
    refine lv_icmp_ne (tgt := 55) hx hb dX12_legsBehind_40 (by decide) (fun c_40 => ?_) (fun c_40 => ?_)
    · skip
      refine lv_iload hx hb dX12_legsBehind_55 (lv_at hl 0 rfl) ?_
      subst hQ_
      exact z_iret C0 hP hS (v := (s_max (0 : Int32) (g - ((t * (m_takes (G q (2 + 3 * i)))) * (G q (4 + 3 * i)))))) (by refine ⟨?_, rfl⟩; simp [m_leg, m_left, d_1, c_40]) dX12_legsBehind_57
    · skip
      refine lv_bipush (v := (99 : Int32)) hx hb dX12_legsBehind_43 (by decide) ?_
      refine lv_iload hx hb dX12_legsBehind_45 (lv_at hl 0 rfl) ?_
      refine lv_iconst (v := (5 : Int32)) hx hb dX12_legsBehind_47 (by decide) ?_
      refine lv_iadd hx hb dX12_legsBehind_48 ?_
      refine z_Si C0 hP hD hA hS (As := [.int (99 : Int32), .int ((s_max (0 : Int32) (g - ((t * (m_takes (G q (2 + 3 * i)))) * (G q (4 + 3 * i))))) + (5 : Int32))]) (rest := []) (c_X12_least l E _ (99 : Int32) ((s_max (0 : Int32) (g - ((t * (m_takes (G q (2 + 3 * i)))) * (G q (4 + 3 * i))))) + (5 : Int32))) (va_cwS 2 hts (zgS zbw mlRX12_88 stX12_least iniRX12 coX12_least) rfl rfl rfl (by decide +kernel) ⟨Nat.le_of_ble_eq_true rfl, Nat.le_of_ble_eq_true rfl⟩) rfl hl.1 rfl (Nat.le_of_ble_eq_true rfl) dX12_legsBehind_49 ⟨Nat.zero_le _, Nat.zero_le _⟩ (fun r7 G7 H locs hw7 hP hS => ?_)
      obtain ⟨rfl, rfl⟩ := hw7
      refine lv_goto (tgt := 57) hx hb dX12_legsBehind_52 (by decide) ?_
      subst hQ_
      exact z_iret C0 hP hS (v := (s_min (99 : Int32) ((s_max (0 : Int32) (g - ((t * (m_takes (G q (2 + 3 * i)))) * (G q (4 + 3 * i))))) + (5 : Int32)))) (by refine ⟨?_, rfl⟩; simp [m_leg, m_left, d_1, c_40]) dX12_legsBehind_57
end
section
/-! laid by wip/whole/vcg.py -/
theorem flRX12_31 : Cond.fieldLink RX12 31 "WetSuitPedalsShoesModel" "seconds" "[I" ∈ zU := zU_m 818 (by decide +kernel) rfl
theorem mlRX12_91 : Cond.methodLink RX12 91 yX12_tried ∈ zU := zU_m 927 (by decide +kernel) rfl
theorem coX12_tried : Cond.code yX12_tried cX12_tried 2 (some .int) ∈ zU := zU_m 929 (by rfl) rfl
theorem stX12_tried : Cond.static yX12_tried ∈ zU := zU_m 928 (by decide +kernel) rfl
theorem mlRX12_94 : Cond.methodLink RX12 94 yX12_secondsBy ∈ zU := zU_m 985 (by decide +kernel) rfl
theorem coX12_secondsBy : Cond.code yX12_secondsBy cX12_secondsBy 6 (some .int) ∈ zU := zU_m 987 (by rfl) rfl
theorem stX12_secondsBy : Cond.static yX12_secondsBy ∈ zU := zU_m 986 (by decide +kernel) rfl
theorem mlRX12_98 : Cond.methodLink RX12 98 yX12_legsBehind ∈ zU := zU_m 994 (by decide +kernel) rfl
theorem coX12_legsBehind : Cond.code yX12_legsBehind cX12_legsBehind 5 (some .int) ∈ zU := zU_m 996 (by rfl) rfl
theorem stX12_legsBehind : Cond.static yX12_legsBehind ∈ zU := zU_m 995 (by decide +kernel) rfl
theorem flRX12_34 : Cond.fieldLink RX12 34 "WetSuitPedalsShoesModel" "legs" "[I" ∈ zU := zU_m 819 (by decide +kernel) rfl
theorem flRX12_37 : Cond.fieldLink RX12 37 "WetSuitPedalsShoesModel" "sums" "[I" ∈ zU := zU_m 820 (by decide +kernel) rfl
set_option maxHeartbeats 4000000 in
set_option maxRecDepth 100000 in
theorem c_X12_goes (l : Launch) (E : zE) (G : zG) (q a n : Nat) (d : Int32) (hq : zIs q tArr102) (ha : a < 5) (hn : G q 0 = nI n) (hn10 : n ≤ 10) (hq1 : q < 100) : zMi l yX12_goes wsX12_goes ({ frames := 4, cells := 0, slots := 0, locals := 94 } : Room) E G [.ref (E.1 92), .ref (E.1 q), .int (nI a), .int d] (fun r G1 => (m_run (G q) a d n).2 = r ∧ (∀ k, (k < 100 ∨ 102 < k) → G1 k = G k) ∧ ∀ j, j < n → G1 100 j = m_sc (G q) a d j ∧ G1 101 j = (m_run (G q) a d (j + 1)).1 ∧ G1 102 j = (m_run (G q) a d (j + 1)).2) := by
  refine zOf (cc := cX12_goes) (nL := 7) (ret := (some .int)) RX12 (by decide) rfl rfl (Nat.le_of_ble_eq_true rfl) ?_
  intro p_ e_ s_ m_ a_ b_ me_ c_ ls C0 hP hS hl
  have hx := C0.1
  have hb := C0.2.1
  have hts := C0.2.2.2.2.1
  have hD : zD E (zA E s_.heap.size) := C0.2.2.2.2.2.2.2.2
  have hA : ∀ q : Nat, s_.heap.size ≤ q → zA E s_.heap.size q := fun q h => Or.inr h
  refine z_gen (fun Q_ hQ_ => ?_)
  have hl : lv_has ls 7 [(0, .ref (E.1 92)), (1, .ref (E.1 q)), (2, .int (nI a)), (3, .int d)] := hl
  refine lv_aload_n hx hb dX12_goes_0 rfl (lv_at hl 1 rfl) ?_
  refine lv_iload_n hx hb dX12_goes_1 rfl (lv_at hl 2 rfl) ?_
  refine lv_iconst (v := (3 : Int32)) hx hb dX12_goes_2 (by decide) ?_
  refine z_Si C0 hP hD hA hS (As := [.int (nI a), .int (3 : Int32)]) (rest := [.ref (E.1 q)]) (c_X12_athleteAt l E _ a 3) (va_cwS 2 hts (zgS zbw mlRX12_70 stX12_athleteAt iniRX12 coX12_athleteAt) rfl rfl rfl (by decide +kernel) ⟨Nat.le_of_ble_eq_true rfl, Nat.le_of_ble_eq_true rfl⟩) rfl hl.1 rfl (Nat.le_of_ble_eq_true rfl) dX12_goes_3 ⟨Nat.zero_le _, Nat.zero_le _⟩ (fun r1 G1 H locs hw1 hP hS => ?_)
  obtain ⟨hr1, rfl⟩ := hw1
  subst hr1
  refine z_eqi (y := (nI (35 + 4 * a))) (congrArg nI (by omega)) ?_
  refine z_iald C0 hP (k := q) (i := 35 + 4 * a) (v := (G q (35 + 4 * a))) (hq (0, 11, 102) (by decide)).1 (Nat.lt_of_lt_of_eq (show 35 + 4 * a < 102 by omega) (hq (0, 11, 102) (by decide)).2.symm) rfl dX12_goes_6 (rfl) ?_
  refine lv_istore (lv' := [(4, .int (G q (35 + 4 * a))), (0, .ref (E.1 92)), (1, .ref (E.1 q)), (2, .int (nI a)), (3, .int d)]) hx hb dX12_goes_7 hl (by decide) rfl (fun ls hl => ?_)
  refine lv_iconst (v := (0 : Int32)) hx hb dX12_goes_9 (by decide) ?_
  refine lv_istore (lv' := [(5, .int (0 : Int32)), (4, .int (G q (35 + 4 * a))), (0, .ref (E.1 92)), (1, .ref (E.1 q)), (2, .int (nI a)), (3, .int d)]) hx hb dX12_goes_10 hl (by decide) rfl (fun ls hl => ?_)
  refine lv_iconst (v := (0 : Int32)) hx hb dX12_goes_12 (by decide) ?_
  refine lv_istore (lv' := [(6, .int (0 : Int32)), (5, .int (0 : Int32)), (4, .int (G q (35 + 4 * a))), (0, .ref (E.1 92)), (1, .ref (E.1 q)), (2, .int (nI a)), (3, .int d)]) hx hb dX12_goes_13 hl (by decide) rfl (fun ls hl => ?_)
  have cut_15 : ∀ (fuel : Nat), ∀ (i : Nat) (g sm : Int32) (G1 : zG) (H : Heap) (locs : List Loc) (ls : Array Slot), (i ≤ n) → (g = (m_run (G q) a d i).1) → (sm = (m_run (G q) a d i).2) → (∀ k, (k < 100 ∨ 102 < k) → G1 k = G k) → (∀ j, j < i → G1 100 j = m_sc (G q) a d j ∧ G1 101 j = (m_run (G q) a d (j + 1)).1 ∧ G1 102 j = (m_run (G q) a d (j + 1)).2) → zP E G1 H → va_S (zA E s_.heap.size) s_.heap H locs → lv_has ls 7 [(0, .ref (E.1 92)), (1, .ref (E.1 q)), (2, .int (nI a)), (3, .int d), (4, .int g), (5, .int sm), (6, .int (nI i))] → n - i < fuel → W p_ l e_ ({ frames := 4, cells := 0, slots := 0, locals := 94 } : Room) s_ m_ a_ b_ me_ c_ H locs 0 0 Q_ (F0 m_ 15 ls []) := by
    intro fuel
    induction fuel with
    | zero =>
      intro i  g sm  G1  H locs ls hin hg hsm hF1 hrow hP hS hl hfu
      exact absurd hfu (Nat.not_lt_zero _)
    | succ fuel ih_15 =>
      intro i  g sm  G1  H locs ls hin hg hsm hF1 hrow hP hS hl hfu_15
      refine lv_iload hx hb dX12_goes_15 (lv_at hl 6 rfl) ?_
      refine lv_aload_n hx hb dX12_goes_17 rfl (lv_at hl 1 rfl) ?_
      refine lv_iconst (v := (0 : Int32)) hx hb dX12_goes_18 (by decide) ?_
      refine z_iald C0 hP (k := q) (i := 0) (v := (nI n)) (hq (0, 11, 102) (by decide)).1 (Nat.lt_of_lt_of_eq (show 0 < 102 by decide) (hq (0, 11, 102) (by decide)).2.symm) rfl dX12_goes_19 ((congrFun (hF1 _ (by omega)) _).trans (hn)) ?_
      refine z_N_ge hx hb (a := i) (b := n) (tgt := 119) dX12_goes_20 rfl rfl (by omega) (by omega) (by decide) (fun c_20 => ?_) (fun c_20 => ?_)
      · skip
        refine lv_iload hx hb dX12_goes_119 (lv_at hl 5 rfl) ?_
        subst hQ_
        exact z_iret C0 hP hS (v := sm) (by exact ⟨(hsm.trans (by rw [show i = n by omega])).symm, hF1, fun j hj => hrow j (by omega)⟩) dX12_goes_121
      · skip
        refine lv_aload_n hx hb dX12_goes_23 rfl (lv_at hl 0 rfl) ?_
        refine z_get C0 hP (C := RX12) (T := TX12) (N := 21) (ci := 10) (index := 31) (k := 92) (ref := "WetSuitPedalsShoesModel") (zk_lt (rfl : zk 92 = 10) (by decide)) (zd_10 E (rfl : zk 92 = 10) _) rfl (zmi inU_12) 10 (by decide) (zm flRX12_31) rfl (v := .ref (E.1 100)) (rfl) dX12_goes_24 ?_
        refine lv_iload hx hb dX12_goes_27 (lv_at hl 6 rfl) ?_
        refine lv_aload_n hx hb dX12_goes_29 rfl (lv_at hl 1 rfl) ?_
        refine lv_iload_n hx hb dX12_goes_30 rfl (lv_at hl 2 rfl) ?_
        refine lv_iload hx hb dX12_goes_31 (lv_at hl 6 rfl) ?_
        refine lv_iload hx hb dX12_goes_33 (lv_at hl 4 rfl) ?_
        refine lv_aload_n hx hb dX12_goes_35 rfl (lv_at hl 1 rfl) ?_
        refine lv_iload_n hx hb dX12_goes_36 rfl (lv_at hl 2 rfl) ?_
        refine lv_iload hx hb dX12_goes_37 (lv_at hl 6 rfl) ?_
        refine z_Si C0 hP hD hA hS (As := [.int (nI a), .int (nI i)]) (rest := [.ref (E.1 q), .int g, .int (nI i), .int (nI a), .ref (E.1 q), .int (nI i), .ref (E.1 100)]) (c_X12_tried l E _ a i) (va_cwS 2 hts (zgS zbw mlRX12_91 stX12_tried iniRX12 coX12_tried) rfl rfl rfl (by decide +kernel) ⟨Nat.le_of_ble_eq_true rfl, Nat.le_of_ble_eq_true rfl⟩) rfl hl.1 rfl (Nat.le_of_ble_eq_true rfl) dX12_goes_39 ⟨Nat.zero_le _, Nat.zero_le _⟩ (fun r2 G2 H locs hw2 hP hS => ?_)
        obtain ⟨hr2, rfl⟩ := hw2
        subst hr2
        refine z_eqi (y := (nI (52 + 10 * a + i))) (congrArg nI (by omega)) ?_
        refine z_iald C0 hP (k := q) (i := 52 + 10 * a + i) (v := (G q (52 + 10 * a + i))) (hq (0, 11, 102) (by decide)).1 (Nat.lt_of_lt_of_eq (show 52 + 10 * a + i < 102 by omega) (hq (0, 11, 102) (by decide)).2.symm) rfl dX12_goes_42 (congrFun (hF1 _ (by omega)) _) ?_
        refine z_Si C0 hP hD hA hS (As := [.ref (E.1 q), .int (nI a), .int (nI i), .int g, .int (G q (52 + 10 * a + i))]) (rest := [.int (nI i), .ref (E.1 100)]) (c_X12_secondsBy l E _ q a i g (G q (52 + 10 * a + i)) hq (by omega) (by omega)) (va_cwS 5 hts (zgS zbw mlRX12_94 stX12_secondsBy iniRX12 coX12_secondsBy) rfl rfl rfl (by decide +kernel) ⟨Nat.le_of_ble_eq_true rfl, Nat.le_of_ble_eq_true rfl⟩) rfl hl.1 rfl (Nat.le_of_ble_eq_true rfl) dX12_goes_43 ⟨Nat.zero_le _, Nat.zero_le _⟩ (fun r3 G3 H locs hw3 hP hS => ?_)
        obtain ⟨hr3, rfl⟩ := hw3
        have hr3 : s_sec (m_plain (G q) a i) (G q (52 + 10 * a + i)) g = _ := (congrArg (fun z => s_sec (m_plain z _ _) _ _) (hF1 _ (by omega))).symm.trans hr3
        subst hr3
        refine z_iast C0 hP hD hS (k := 100) (i := i) (v := (s_sec (m_plain (G q) a i) (G q (52 + 10 * a + i)) g)) (F := G1 100) (rfl) (rfl : zk 100 = 11) (Nat.lt_of_lt_of_eq (show i < 10 by omega) (rfl : zl 100 = 10).symm) rfl dX12_goes_46 (fun H locs hP hS => ?_)
        refine lv_aload_n hx hb dX12_goes_47 rfl (lv_at hl 1 rfl) ?_
        refine lv_iload hx hb dX12_goes_48 (lv_at hl 6 rfl) ?_
        refine lv_iload hx hb dX12_goes_50 (lv_at hl 4 rfl) ?_
        refine lv_aload_n hx hb dX12_goes_52 rfl (lv_at hl 1 rfl) ?_
        refine lv_iload_n hx hb dX12_goes_53 rfl (lv_at hl 2 rfl) ?_
        refine lv_iload hx hb dX12_goes_54 (lv_at hl 6 rfl) ?_
        refine z_Si C0 hP hD hA hS (As := [.int (nI a), .int (nI i)]) (rest := [.ref (E.1 q), .int g, .int (nI i), .ref (E.1 q)]) (c_X12_tried l E _ a i) (va_cwS 2 hts (zgS zbw mlRX12_91 stX12_tried iniRX12 coX12_tried) rfl rfl rfl (by decide +kernel) ⟨Nat.le_of_ble_eq_true rfl, Nat.le_of_ble_eq_true rfl⟩) rfl hl.1 rfl (Nat.le_of_ble_eq_true rfl) dX12_goes_56 ⟨Nat.zero_le _, Nat.zero_le _⟩ (fun r4 G4 H locs hw4 hP hS => ?_)
        obtain ⟨hr4, rfl⟩ := hw4
        subst hr4
        refine z_eqi (y := (nI (52 + 10 * a + i))) (congrArg nI (by omega)) ?_
        refine z_iald C0 hP (k := q) (i := 52 + 10 * a + i) (v := (G q (52 + 10 * a + i))) (hq (0, 11, 102) (by decide)).1 (Nat.lt_of_lt_of_eq (show 52 + 10 * a + i < 102 by omega) (hq (0, 11, 102) (by decide)).2.symm) rfl dX12_goes_59 (congrFun ((g1_n (by omega)).trans (hF1 _ (by omega))) _) ?_
        refine z_Si C0 hP hD hA hS (As := [.ref (E.1 q), .int (nI i), .int g, .int (G q (52 + 10 * a + i))]) (rest := []) (c_X12_legsBehind l E _ q i g (G q (52 + 10 * a + i)) hq (by omega)) (va_cwS 4 hts (zgS zbw mlRX12_98 stX12_legsBehind iniRX12 coX12_legsBehind) rfl rfl rfl (by decide +kernel) ⟨Nat.le_of_ble_eq_true rfl, Nat.le_of_ble_eq_true rfl⟩) rfl hl.1 rfl (Nat.le_of_ble_eq_true rfl) dX12_goes_60 ⟨Nat.zero_le _, Nat.zero_le _⟩ (fun r5 G5 H locs hw5 hP hS => ?_)
        obtain ⟨hr5, rfl⟩ := hw5
        have hr5 : m_leg (G q (2 + 3 * i)) (G q (4 + 3 * i)) (G q (52 + 10 * a + i)) g = _ := (congrArg (fun z => m_leg (z _) (z _) _ _) ((g1_n (by omega)).trans (hF1 _ (by omega)))).symm.trans hr5
        subst hr5
        refine lv_istore (lv' := [(4, .int (m_leg (G q (2 + 3 * i)) (G q (4 + 3 * i)) (G q (52 + 10 * a + i)) g)), (0, .ref (E.1 92)), (1, .ref (E.1 q)), (2, .int (nI a)), (3, .int d), (5, .int sm), (6, .int (nI i))]) hx hb dX12_goes_63 hl (by decide) rfl (fun ls hl => ?_)
        refine lv_iload hx hb dX12_goes_65 (lv_at hl 6 rfl) ?_
        refine lv_iload_n hx hb dX12_goes_67 rfl (lv_at hl 4 rfl) ?_
        refine lv_icmp_ne (tgt := 83) hx hb dX12_goes_68 (by decide) (fun c_68 => ?_) (fun c_68 => ?_)
        · skip
          refine lv_aload_n hx hb dX12_goes_83 rfl (lv_at hl 1 rfl) ?_
          refine z_get C0 hP (C := RX12) (T := TX12) (N := 21) (ci := 10) (index := 34) (k := 92) (ref := "WetSuitPedalsShoesModel") (zk_lt (rfl : zk 92 = 10) (by decide)) (zd_10 E (rfl : zk 92 = 10) _) rfl (zmi inU_12) 11 (by decide) (zm flRX12_34) rfl (v := .ref (E.1 101)) (rfl) dX12_goes_84 ?_
          refine lv_iload hx hb dX12_goes_87 (lv_at hl 6 rfl) ?_
          refine lv_iload hx hb dX12_goes_89 (lv_at hl 0 rfl) ?_
          refine z_iast C0 hP hD hS (k := 101) (i := i) (v := (m_leg (G q (2 + 3 * i)) (G q (4 + 3 * i)) (G q (52 + 10 * a + i)) g)) (F := G1 101) (g1_n (by decide)) (rfl : zk 101 = 11) (Nat.lt_of_lt_of_eq (show i < 10 by omega) (rfl : zl 101 = 10).symm) rfl dX12_goes_91 (fun H locs hP hS => ?_)
          refine lv_iload hx hb dX12_goes_92 (lv_at hl 5 rfl) ?_
          refine lv_aload_n hx hb dX12_goes_94 rfl (lv_at hl 1 rfl) ?_
          refine z_get C0 hP (C := RX12) (T := TX12) (N := 21) (ci := 10) (index := 31) (k := 92) (ref := "WetSuitPedalsShoesModel") (zk_lt (rfl : zk 92 = 10) (by decide)) (zd_10 E (rfl : zk 92 = 10) _) rfl (zmi inU_12) 10 (by decide) (zm flRX12_31) rfl (v := .ref (E.1 100)) (rfl) dX12_goes_95 ?_
          refine lv_iload hx hb dX12_goes_98 (lv_at hl 6 rfl) ?_
          refine z_iald C0 hP (k := 100) (i := i) (v := (s_sec (m_plain (G q) a i) (G q (52 + 10 * a + i)) g)) (rfl : zk 100 = 11) (Nat.lt_of_lt_of_eq (show i < 10 by omega) (rfl : zl 100 = 10).symm) rfl dX12_goes_100 ((congrFun ((g1_n (by decide)).trans (g1_s _ _ _)) _).trans (pk_us)) ?_
          refine lv_iadd hx hb dX12_goes_101 ?_
          refine lv_istore (lv' := [(5, .int (sm + (s_sec (m_plain (G q) a i) (G q (52 + 10 * a + i)) g))), (4, .int (m_leg (G q (2 + 3 * i)) (G q (4 + 3 * i)) (G q (52 + 10 * a + i)) g)), (0, .ref (E.1 92)), (1, .ref (E.1 q)), (2, .int (nI a)), (3, .int d), (6, .int (nI i))]) hx hb dX12_goes_102 hl (by decide) rfl (fun ls hl => ?_)
          refine lv_aload_n hx hb dX12_goes_104 rfl (lv_at hl 2 rfl) ?_
          refine z_get C0 hP (C := RX12) (T := TX12) (N := 21) (ci := 10) (index := 37) (k := 92) (ref := "WetSuitPedalsShoesModel") (zk_lt (rfl : zk 92 = 10) (by decide)) (zd_10 E (rfl : zk 92 = 10) _) rfl (zmi inU_12) 12 (by decide) (zm flRX12_37) rfl (v := .ref (E.1 102)) (rfl) dX12_goes_105 ?_
          refine lv_iload hx hb dX12_goes_108 (lv_at hl 6 rfl) ?_
          refine lv_iload hx hb dX12_goes_110 (lv_at hl 0 rfl) ?_
          refine z_iast C0 hP hD hS (k := 102) (i := i) (v := (sm + (s_sec (m_plain (G q) a i) (G q (52 + 10 * a + i)) g))) (F := G1 102) ((g1_n (by decide)).trans (g1_n (by decide))) (rfl : zk 102 = 11) (Nat.lt_of_lt_of_eq (show i < 10 by omega) (rfl : zl 102 = 10).symm) rfl dX12_goes_112 (fun H locs hP hS => ?_)
          refine lv_iinc (v := (nI (i + 1))) (lv' := [(6, .int (nI (i + 1))), (5, .int (sm + (s_sec (m_plain (G q) a i) (G q (52 + 10 * a + i)) g))), (4, .int (m_leg (G q (2 + 3 * i)) (G q (4 + 3 * i)) (G q (52 + 10 * a + i)) g)), (0, .ref (E.1 92)), (1, .ref (E.1 q)), (2, .int (nI a)), (3, .int d)]) hx hb dX12_goes_113 hl (k := 6) rfl (z_inc (by decide)) (by decide) rfl (fun ls hl => ?_)
          refine lv_goto (tgt := 15) hx hb dX12_goes_116 (by decide) ?_
          exact ih_15 (i + 1) (m_leg (G q (2 + 3 * i)) (G q (4 + 3 * i)) (G q (52 + 10 * a + i)) g) (sm + (s_sec (m_plain (G q) a i) (G q (52 + 10 * a + i)) g)) (g1 (g1 (g1 G1 100 (upd (G1 100) i (s_sec (m_plain (G q) a i) (G q (52 + 10 * a + i)) g))) 101 (upd (G1 101) i (m_leg (G q (2 + 3 * i)) (G q (4 + 3 * i)) (G q (52 + 10 * a + i)) g))) 102 (upd (G1 102) i (sm + (s_sec (m_plain (G q) a i) (G q (52 + 10 * a + i)) g)))) _ _ _ (by first | assumption | omega) (by subst hg; simp [m_run, c_20, c_68]) (by subst hg; subst hsm; simp [m_run]) (by intro k hk; rw [g1_n (by omega)]; rw [g1_n (by omega)]; rw [g1_n (by omega)]; exact hF1 k hk) (by subst hg; subst hsm; intro j hj; rcases Nat.lt_or_ge j i with q | q; (exact ⟨(congrFun ((g1_n (by decide)).trans ((g1_n (by decide)).trans (g1_s _ _ _))) j).trans ((pk_un (by omega)).trans (hrow j q).1), (congrFun ((g1_n (by decide)).trans (g1_s _ _ _)) j).trans ((pk_un (by omega)).trans (hrow j q).2.1), (congrFun (g1_s _ _ _) j).trans ((pk_un (by omega)).trans (hrow j q).2.2)⟩); (have e9 : j = i := by omega); (subst e9; exact ⟨(congrFun ((g1_n (by decide)).trans ((g1_n (by decide)).trans (g1_s _ _ _))) _).trans (pk_us.trans (by simp [m_run, m_sc, c_20, c_68])), (congrFun ((g1_n (by decide)).trans (g1_s _ _ _)) _).trans (pk_us.trans (by simp [m_run, m_sc, c_20, c_68])), (congrFun (g1_s _ _ _) _).trans (pk_us.trans (by simp [m_run, m_sc, c_20, c_68]))⟩)) hP hS (lv_sub hl [3, 4, 5, 6, 2, 1, 0] rfl) (by omega)
        · skip
          refine lv_bipush (v := (99 : Int32)) hx hb dX12_goes_71 (by decide) ?_
          refine lv_iload hx hb dX12_goes_73 (lv_at hl 0 rfl) ?_
          refine lv_bipush (v := (20 : Int32)) hx hb dX12_goes_75 (by decide) ?_
          refine lv_iadd hx hb dX12_goes_77 ?_
          refine z_Si C0 hP hD hA hS (As := [.int (99 : Int32), .int ((m_leg (G q (2 + 3 * i)) (G q (4 + 3 * i)) (G q (52 + 10 * a + i)) g) + (20 : Int32))]) (rest := []) (c_X12_least l E _ (99 : Int32) ((m_leg (G q (2 + 3 * i)) (G q (4 + 3 * i)) (G q (52 + 10 * a + i)) g) + (20 : Int32))) (va_cwS 2 hts (zgS zbw mlRX12_88 stX12_least iniRX12 coX12_least) rfl rfl rfl (by decide +kernel) ⟨Nat.le_of_ble_eq_true rfl, Nat.le_of_ble_eq_true rfl⟩) rfl hl.1 rfl (Nat.le_of_ble_eq_true rfl) dX12_goes_78 ⟨Nat.zero_le _, Nat.zero_le _⟩ (fun r6 G6 H locs hw6 hP hS => ?_)
          obtain ⟨rfl, rfl⟩ := hw6
          refine lv_istore (lv' := [(4, .int (s_min (99 : Int32) ((m_leg (G q (2 + 3 * i)) (G q (4 + 3 * i)) (G q (52 + 10 * a + i)) g) + (20 : Int32)))), (0, .ref (E.1 92)), (1, .ref (E.1 q)), (2, .int (nI a)), (3, .int d), (5, .int sm), (6, .int (nI i))]) hx hb dX12_goes_81 hl (by decide) rfl (fun ls hl => ?_)
          refine lv_aload_n hx hb dX12_goes_83 rfl (lv_at hl 1 rfl) ?_
          refine z_get C0 hP (C := RX12) (T := TX12) (N := 21) (ci := 10) (index := 34) (k := 92) (ref := "WetSuitPedalsShoesModel") (zk_lt (rfl : zk 92 = 10) (by decide)) (zd_10 E (rfl : zk 92 = 10) _) rfl (zmi inU_12) 11 (by decide) (zm flRX12_34) rfl (v := .ref (E.1 101)) (rfl) dX12_goes_84 ?_
          refine lv_iload hx hb dX12_goes_87 (lv_at hl 6 rfl) ?_
          refine lv_iload hx hb dX12_goes_89 (lv_at hl 0 rfl) ?_
          refine z_iast C0 hP hD hS (k := 101) (i := i) (v := (s_min (99 : Int32) ((m_leg (G q (2 + 3 * i)) (G q (4 + 3 * i)) (G q (52 + 10 * a + i)) g) + (20 : Int32)))) (F := G1 101) (g1_n (by decide)) (rfl : zk 101 = 11) (Nat.lt_of_lt_of_eq (show i < 10 by omega) (rfl : zl 101 = 10).symm) rfl dX12_goes_91 (fun H locs hP hS => ?_)
          refine lv_iload hx hb dX12_goes_92 (lv_at hl 5 rfl) ?_
          refine lv_aload_n hx hb dX12_goes_94 rfl (lv_at hl 1 rfl) ?_
          refine z_get C0 hP (C := RX12) (T := TX12) (N := 21) (ci := 10) (index := 31) (k := 92) (ref := "WetSuitPedalsShoesModel") (zk_lt (rfl : zk 92 = 10) (by decide)) (zd_10 E (rfl : zk 92 = 10) _) rfl (zmi inU_12) 10 (by decide) (zm flRX12_31) rfl (v := .ref (E.1 100)) (rfl) dX12_goes_95 ?_
          refine lv_iload hx hb dX12_goes_98 (lv_at hl 6 rfl) ?_
          refine z_iald C0 hP (k := 100) (i := i) (v := (s_sec (m_plain (G q) a i) (G q (52 + 10 * a + i)) g)) (rfl : zk 100 = 11) (Nat.lt_of_lt_of_eq (show i < 10 by omega) (rfl : zl 100 = 10).symm) rfl dX12_goes_100 ((congrFun ((g1_n (by decide)).trans (g1_s _ _ _)) _).trans (pk_us)) ?_
          refine lv_iadd hx hb dX12_goes_101 ?_
          refine lv_istore (lv' := [(5, .int (sm + (s_sec (m_plain (G q) a i) (G q (52 + 10 * a + i)) g))), (4, .int (s_min (99 : Int32) ((m_leg (G q (2 + 3 * i)) (G q (4 + 3 * i)) (G q (52 + 10 * a + i)) g) + (20 : Int32)))), (0, .ref (E.1 92)), (1, .ref (E.1 q)), (2, .int (nI a)), (3, .int d), (6, .int (nI i))]) hx hb dX12_goes_102 hl (by decide) rfl (fun ls hl => ?_)
          refine lv_aload_n hx hb dX12_goes_104 rfl (lv_at hl 2 rfl) ?_
          refine z_get C0 hP (C := RX12) (T := TX12) (N := 21) (ci := 10) (index := 37) (k := 92) (ref := "WetSuitPedalsShoesModel") (zk_lt (rfl : zk 92 = 10) (by decide)) (zd_10 E (rfl : zk 92 = 10) _) rfl (zmi inU_12) 12 (by decide) (zm flRX12_37) rfl (v := .ref (E.1 102)) (rfl) dX12_goes_105 ?_
          refine lv_iload hx hb dX12_goes_108 (lv_at hl 6 rfl) ?_
          refine lv_iload hx hb dX12_goes_110 (lv_at hl 0 rfl) ?_
          refine z_iast C0 hP hD hS (k := 102) (i := i) (v := (sm + (s_sec (m_plain (G q) a i) (G q (52 + 10 * a + i)) g))) (F := G1 102) ((g1_n (by decide)).trans (g1_n (by decide))) (rfl : zk 102 = 11) (Nat.lt_of_lt_of_eq (show i < 10 by omega) (rfl : zl 102 = 10).symm) rfl dX12_goes_112 (fun H locs hP hS => ?_)
          refine lv_iinc (v := (nI (i + 1))) (lv' := [(6, .int (nI (i + 1))), (5, .int (sm + (s_sec (m_plain (G q) a i) (G q (52 + 10 * a + i)) g))), (4, .int (s_min (99 : Int32) ((m_leg (G q (2 + 3 * i)) (G q (4 + 3 * i)) (G q (52 + 10 * a + i)) g) + (20 : Int32)))), (0, .ref (E.1 92)), (1, .ref (E.1 q)), (2, .int (nI a)), (3, .int d)]) hx hb dX12_goes_113 hl (k := 6) rfl (z_inc (by decide)) (by decide) rfl (fun ls hl => ?_)
          refine lv_goto (tgt := 15) hx hb dX12_goes_116 (by decide) ?_
          exact ih_15 (i + 1) (s_min (99 : Int32) ((m_leg (G q (2 + 3 * i)) (G q (4 + 3 * i)) (G q (52 + 10 * a + i)) g) + (20 : Int32))) (sm + (s_sec (m_plain (G q) a i) (G q (52 + 10 * a + i)) g)) (g1 (g1 (g1 G1 100 (upd (G1 100) i (s_sec (m_plain (G q) a i) (G q (52 + 10 * a + i)) g))) 101 (upd (G1 101) i (s_min (99 : Int32) ((m_leg (G q (2 + 3 * i)) (G q (4 + 3 * i)) (G q (52 + 10 * a + i)) g) + (20 : Int32))))) 102 (upd (G1 102) i (sm + (s_sec (m_plain (G q) a i) (G q (52 + 10 * a + i)) g)))) _ _ _ (by first | assumption | omega) (by subst hg; simp [m_run, c_20, c_68]) (by subst hg; subst hsm; simp [m_run]) (by intro k hk; rw [g1_n (by omega)]; rw [g1_n (by omega)]; rw [g1_n (by omega)]; exact hF1 k hk) (by subst hg; subst hsm; intro j hj; rcases Nat.lt_or_ge j i with q | q; (exact ⟨(congrFun ((g1_n (by decide)).trans ((g1_n (by decide)).trans (g1_s _ _ _))) j).trans ((pk_un (by omega)).trans (hrow j q).1), (congrFun ((g1_n (by decide)).trans (g1_s _ _ _)) j).trans ((pk_un (by omega)).trans (hrow j q).2.1), (congrFun (g1_s _ _ _) j).trans ((pk_un (by omega)).trans (hrow j q).2.2)⟩); (have e9 : j = i := by omega); (subst e9; exact ⟨(congrFun ((g1_n (by decide)).trans ((g1_n (by decide)).trans (g1_s _ _ _))) _).trans (pk_us.trans (by simp [m_run, m_sc, c_20, c_68])), (congrFun ((g1_n (by decide)).trans (g1_s _ _ _)) _).trans (pk_us.trans (by simp [m_run, m_sc, c_20, c_68])), (congrFun (g1_s _ _ _) _).trans (pk_us.trans (by simp [m_run, m_sc, c_20, c_68]))⟩)) hP hS (lv_sub hl [3, 4, 5, 6, 2, 1, 0] rfl) (by omega)
  exact cut_15 (_ + 1) 0 (G q (35 + 4 * a)) (0 : Int32) G _ _ _ (by first | assumption | omega) (by rfl) (by rfl) (by exact fun _ _ => rfl) (by exact fun j hj => absurd hj (Nat.not_lt_zero j)) hP hS (lv_sub hl [3, 4, 5, 6, 2, 1, 0] rfl) (Nat.lt_succ_self _)
theorem mlRX12_102 : Cond.methodLink RX12 102 yX12_goes ∈ zU := zU_m 981 (by decide +kernel) rfl
theorem coX12_goes : Cond.code yX12_goes cX12_goes 7 (some .int) ∈ zU := zU_m 984 (by rfl) rfl
theorem imX12_goes : Cond.instanceMethod yX12_goes ∈ zU := zU_m 983 (by decide +kernel) rfl
theorem seX12_goes : Cond.selects RX12 yX12_goes yX12_goes ∈ zU := zU_m 38 (by decide +kernel) rfl
set_option maxHeartbeats 4000000 in
set_option maxRecDepth 100000 in
theorem c_X12_finishOf (l : Launch) (E : zE) (G : zG) (q a n : Nat) (hq : zIs q tArr102) (ha : a < 5) (hn : G q 0 = nI n) (hn10 : n ≤ 10) (hq1 : q < 100) : zMi l yX12_finishOf wsX12_finishOf ({ frames := 5, cells := 0, slots := 0, locals := 120 } : Room) E G [.ref (E.1 92), .ref (E.1 q), .int (nI a)] (fun r G1 => (m_run (G q) a (-1) n).2 = r ∧ (∀ k, (k < 100 ∨ 102 < k) → G1 k = G k) ∧ ∀ j, j < n → G1 100 j = m_sc (G q) a (-1) j ∧ G1 101 j = (m_run (G q) a (-1) (j + 1)).1 ∧ G1 102 j = (m_run (G q) a (-1) (j + 1)).2) := by
  refine zOf (cc := cX12_finishOf) (nL := 3) (ret := (some .int)) RX12 (by decide) rfl rfl (Nat.le_of_ble_eq_true rfl) ?_
  intro p_ e_ s_ m_ a_ b_ me_ c_ ls C0 hP hS hl
  have hx := C0.1
  have hb := C0.2.1
  have hts := C0.2.2.2.2.1
  have hD : zD E (zA E s_.heap.size) := C0.2.2.2.2.2.2.2.2
  have hA : ∀ q : Nat, s_.heap.size ≤ q → zA E s_.heap.size q := fun q h => Or.inr h
  refine z_gen (fun Q_ hQ_ => ?_)
  have hl : lv_has ls 3 [(0, .ref (E.1 92)), (1, .ref (E.1 q)), (2, .int (nI a))] := hl
  refine lv_aload_n hx hb dX12_finishOf_0 rfl (lv_at hl 0 rfl) ?_
  refine lv_aload_n hx hb dX12_finishOf_1 rfl (lv_at hl 1 rfl) ?_
  refine lv_iload_n hx hb dX12_finishOf_2 rfl (lv_at hl 2 rfl) ?_
  refine lv_iconst (v := (-1 : Int32)) hx hb dX12_finishOf_3 (by decide) ?_
  refine z_Vi C0 hP hD hA hS (As := [.ref (E.1 q), .int (nI a), .int (-1 : Int32)]) (rest := []) (k := 92) (c_X12_goes l E _ q a n (-1 : Int32) hq (by omega) (hn) (by omega) (by omega)) (cwV 3 hts (zgV zbw mlRX12_102 imX12_goes seX12_goes iniRX12 coX12_goes) rfl rfl rfl (by decide +kernel) ⟨Nat.le_of_ble_eq_true rfl, Nat.le_of_ble_eq_true rfl⟩) (zk_lt (rfl : zk 92 = 10) (by decide)) (zd_10 E (rfl : zk 92 = 10) _) rfl rfl rfl hl.1 rfl (Nat.le_of_ble_eq_true rfl) dX12_finishOf_4 ⟨Nat.zero_le _, Nat.zero_le _⟩ (fun r1 G1 H locs hw1 hP hS => ?_)
  obtain ⟨hr1, hF1, hrow1⟩ := hw1
  subst hQ_
  exact z_iret C0 hP hS (v := r1) (by exact ⟨hr1, hF1, hrow1⟩) dX12_finishOf_7
set_option maxHeartbeats 4000000 in
set_option maxRecDepth 100000 in
theorem c_X12_lays (l : Launch) (E : zE) (G : zG) (q o : Nat) (hq : zIs q tArr102) (ho : zIs o tArr102) (hd : q ≠ o) : zMv l yX12_lays wsX12_lays ({ frames := 0, cells := 0, slots := 0, locals := 0 } : Room) E G [.ref (E.1 q), .ref (E.1 o)] (fun G1 => (∀ k, k ≠ o → G1 k = G k) ∧ ∀ j, j < 102 → G1 o j = G q j) := by
  refine zOf (cc := cX12_lays) (nL := 3) (ret := none) RX12 (by decide) rfl rfl (Nat.le_of_ble_eq_true rfl) ?_
  intro p_ e_ s_ m_ a_ b_ me_ c_ ls C0 hP hS hl
  have hx := C0.1
  have hb := C0.2.1
  have hts := C0.2.2.2.2.1
  have hD : zD E (zA E s_.heap.size) := C0.2.2.2.2.2.2.2.2
  have hA : ∀ q : Nat, s_.heap.size ≤ q → zA E s_.heap.size q := fun q h => Or.inr h
  refine z_gen (fun Q_ hQ_ => ?_)
  have hl : lv_has ls 3 [(0, .ref (E.1 q)), (1, .ref (E.1 o))] := hl
  refine lv_iconst (v := (0 : Int32)) hx hb dX12_lays_0 (by decide) ?_
  refine lv_istore_n (lv' := [(2, .int (0 : Int32)), (0, .ref (E.1 q)), (1, .ref (E.1 o))]) hx hb dX12_lays_1 rfl hl (by decide) rfl (fun ls hl => ?_)
  have cut_2 : ∀ (fuel : Nat), ∀ (i : Nat) (G1 : zG) (H : Heap) (locs : List Loc) (ls : Array Slot), (i ≤ 102) → (∀ k, k ≠ o → G1 k = G k) → (∀ j, j < i → G1 o j = G q j) → zP E G1 H → va_S (zA E s_.heap.size) s_.heap H locs → lv_has ls 3 [(0, .ref (E.1 q)), (1, .ref (E.1 o)), (2, .int (nI i))] → 102 - i < fuel → W p_ l e_ ({ frames := 0, cells := 0, slots := 0, locals := 0 } : Room) s_ m_ a_ b_ me_ c_ H locs 0 0 Q_ (F0 m_ 2 ls []) := by
    intro fuel
    induction fuel with
    | zero =>
      intro i  G1  H locs ls hin hF1 hrow hP hS hl hfu
      exact absurd hfu (Nat.not_lt_zero _)
    | succ fuel ih_2 =>
      intro i  G1  H locs ls hin hF1 hrow hP hS hl hfu_2
      refine lv_iload_n hx hb dX12_lays_2 rfl (lv_at hl 2 rfl) ?_
      refine lv_bipush (v := (102 : Int32)) hx hb dX12_lays_3 (by decide) ?_
      refine z_N_ge hx hb (a := i) (b := 102) (tgt := 20) dX12_lays_5 rfl rfl (by omega) (by omega) (by decide) (fun c_5 => ?_) (fun c_5 => ?_)
      · skip
        subst hQ_
        exact z_vret C0 hP hS (by exact ⟨hF1, fun j hj => hrow j (by omega)⟩) dX12_lays_20
      · skip
        refine lv_aload_n hx hb dX12_lays_8 rfl (lv_at hl 1 rfl) ?_
        refine lv_iload_n hx hb dX12_lays_9 rfl (lv_at hl 2 rfl) ?_
        refine lv_aload_n hx hb dX12_lays_10 rfl (lv_at hl 0 rfl) ?_
        refine lv_iload_n hx hb dX12_lays_11 rfl (lv_at hl 2 rfl) ?_
        refine z_iald C0 hP (k := q) (i := i) (v := (G q i)) (hq (0, 11, 102) (by decide)).1 (Nat.lt_of_lt_of_eq (show i < 102 by omega) (hq (0, 11, 102) (by decide)).2.symm) rfl dX12_lays_12 (congrFun (hF1 _ (by omega)) _) ?_
        refine z_iast C0 hP hD hS (k := o) (i := i) (v := (G q i)) (F := G1 o) (rfl) (ho (0, 11, 102) (by decide)).1 (Nat.lt_of_lt_of_eq (show i < 102 by omega) (ho (0, 11, 102) (by decide)).2.symm) rfl dX12_lays_13 (fun H locs hP hS => ?_)
        refine lv_iinc (v := (nI (i + 1))) (lv' := [(2, .int (nI (i + 1))), (0, .ref (E.1 q)), (1, .ref (E.1 o))]) hx hb dX12_lays_14 hl (k := 2) rfl (z_inc (by decide)) (by decide) rfl (fun ls hl => ?_)
        refine lv_goto (tgt := 2) hx hb dX12_lays_17 (by decide) ?_
        exact ih_2 (i + 1) (g1 G1 o (upd (G1 o) i (G q i))) _ _ _ (by first | assumption | omega) (by intro k hk; rw [g1_n hk]; exact hF1 k hk) (by intro j hj; rw [g1_s]; rcases Nat.lt_or_ge j i with q9 | q9; (rw [pk_un (by omega)]; exact hrow j q9); (have e9 : j = i := by omega); subst e9; rw [pk_us]) hP hS (lv_sub hl [1, 2, 0] rfl) (by omega)
  exact cut_2 (_ + 1) 0 G _ _ _ (by first | assumption | omega) (by exact fun _ _ => rfl) (by exact fun j hj => absurd hj (Nat.not_lt_zero j)) hP hS (lv_sub hl [1, 2, 0] rfl) (Nat.lt_succ_self _)
end
