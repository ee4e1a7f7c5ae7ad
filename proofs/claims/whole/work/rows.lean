section
-- ===== PART A: goes FIRST, ahead of the names: the tables' words, and 'selects' of the private methods out of them =====
/-- a private method of a class that the tables say can be made, by its rows of tables_1 -/
def lw_okq (q : MethodName × Nat) : Prop := (q.1.cls ≠ "java/lang/invoke/MethodHandle" ∧ q.1.cls ≠ "java/lang/invoke/VarHandle") ∧ Cond.instantiable q.1.cls q.2 ∈ tables_1 ∧ Cond.privateMethod q.1 ∈ tables_1 ∧ Cond.instanceMethod q.1 ∈ tables_1
theorem lw_p0 : lw_okq (⟨"PlaySeason$Page", "fits", "(I)Z"⟩, 2) := ⟨⟨by decide +kernel, by decide +kernel⟩, List.mem_of_getElem? (i := 28) (by decide +kernel), List.mem_of_getElem? (i := 271) (by decide +kernel), List.mem_of_getElem? (i := 272) (by decide +kernel)⟩
theorem lw_p1 : lw_okq (⟨"PlaySeason$Page", "isWithin", "(III)Z"⟩, 2) := ⟨⟨by decide +kernel, by decide +kernel⟩, List.mem_of_getElem? (i := 28) (by decide +kernel), List.mem_of_getElem? (i := 362) (by decide +kernel), List.mem_of_getElem? (i := 363) (by decide +kernel)⟩
theorem lw_p2 : lw_okq (⟨"PlaySeason$Plan", "startAnew", "()V"⟩, 10) := ⟨⟨by decide +kernel, by decide +kernel⟩, List.mem_of_getElem? (i := 113) (by decide +kernel), List.mem_of_getElem? (i := 395) (by decide +kernel), List.mem_of_getElem? (i := 396) (by decide +kernel)⟩
theorem lw_p3 : lw_okq (⟨"PlaySeason$Plan", "titleOn", "(I)I"⟩, 10) := ⟨⟨by decide +kernel, by decide +kernel⟩, List.mem_of_getElem? (i := 113) (by decide +kernel), List.mem_of_getElem? (i := 399) (by decide +kernel), List.mem_of_getElem? (i := 400) (by decide +kernel)⟩
theorem lw_p4 : lw_okq (⟨"PlaySeason$Plan", "breakAt", "(II)I"⟩, 10) := ⟨⟨by decide +kernel, by decide +kernel⟩, List.mem_of_getElem? (i := 113) (by decide +kernel), List.mem_of_getElem? (i := 407) (by decide +kernel), List.mem_of_getElem? (i := 408) (by decide +kernel)⟩
theorem lw_p5 : lw_okq (⟨"PlaySeason$Plan", "isCastOn", "(II)Z"⟩, 10) := ⟨⟨by decide +kernel, by decide +kernel⟩, List.mem_of_getElem? (i := 113) (by decide +kernel), List.mem_of_getElem? (i := 411) (by decide +kernel), List.mem_of_getElem? (i := 412) (by decide +kernel)⟩
theorem lw_p6 : lw_okq (⟨"PlaySeason$Plan", "seatsAt", "(II)I"⟩, 10) := ⟨⟨by decide +kernel, by decide +kernel⟩, List.mem_of_getElem? (i := 113) (by decide +kernel), List.mem_of_getElem? (i := 419) (by decide +kernel), List.mem_of_getElem? (i := 420) (by decide +kernel)⟩
theorem lw_p7 : lw_okq (⟨"PlaySeason$Plan", "isDrawnBy", "(II)Z"⟩, 10) := ⟨⟨by decide +kernel, by decide +kernel⟩, List.mem_of_getElem? (i := 113) (by decide +kernel), List.mem_of_getElem? (i := 424) (by decide +kernel), List.mem_of_getElem? (i := 425) (by decide +kernel)⟩
theorem lw_p8 : lw_okq (⟨"PlaySeason$Plan", "tally", "(II)V"⟩, 10) := ⟨⟨by decide +kernel, by decide +kernel⟩, List.mem_of_getElem? (i := 113) (by decide +kernel), List.mem_of_getElem? (i := 428) (by decide +kernel), List.mem_of_getElem? (i := 429) (by decide +kernel)⟩
theorem lw_p9 : lw_okq (⟨"PlaySeason", "hasHouse", "()Z"⟩, 8) := ⟨⟨by decide +kernel, by decide +kernel⟩, List.mem_of_getElem? (i := 20) (by decide +kernel), List.mem_of_getElem? (i := 436) (by decide +kernel), List.mem_of_getElem? (i := 437) (by decide +kernel)⟩
theorem lw_p10 : lw_okq (⟨"PlaySeason", "ofTitle", "(II)I"⟩, 8) := ⟨⟨by decide +kernel, by decide +kernel⟩, List.mem_of_getElem? (i := 20) (by decide +kernel), List.mem_of_getElem? (i := 468) (by decide +kernel), List.mem_of_getElem? (i := 469) (by decide +kernel)⟩
theorem lw_p11 : lw_okq (⟨"PlaySeason", "ofNight", "(II)I"⟩, 8) := ⟨⟨by decide +kernel, by decide +kernel⟩, List.mem_of_getElem? (i := 20) (by decide +kernel), List.mem_of_getElem? (i := 511) (by decide +kernel), List.mem_of_getElem? (i := 512) (by decide +kernel)⟩
theorem lw_p12 : lw_okq (⟨"PlaySeason$Search", "gatherOpen", "(LPlaySeason$Plan;II)V"⟩, 7) := ⟨⟨by decide +kernel, by decide +kernel⟩, List.mem_of_getElem? (i := 195) (by decide +kernel), List.mem_of_getElem? (i := 557) (by decide +kernel), List.mem_of_getElem? (i := 558) (by decide +kernel)⟩
theorem lw_p13 : lw_okq (⟨"PlaySeason$Search", "fill", "(I)V"⟩, 7) := ⟨⟨by decide +kernel, by decide +kernel⟩, List.mem_of_getElem? (i := 195) (by decide +kernel), List.mem_of_getElem? (i := 565) (by decide +kernel), List.mem_of_getElem? (i := 566) (by decide +kernel)⟩
theorem lw_p14 : lw_okq (⟨"PlaySeason$Search", "isBetter", "()Z"⟩, 7) := ⟨⟨by decide +kernel, by decide +kernel⟩, List.mem_of_getElem? (i := 195) (by decide +kernel), List.mem_of_getElem? (i := 570) (by decide +kernel), List.mem_of_getElem? (i := 571) (by decide +kernel)⟩
theorem lw_p15 : lw_okq (⟨"PlaySeason$Search", "keep", "()V"⟩, 7) := ⟨⟨by decide +kernel, by decide +kernel⟩, List.mem_of_getElem? (i := 195) (by decide +kernel), List.mem_of_getElem? (i := 574) (by decide +kernel), List.mem_of_getElem? (i := 575) (by decide +kernel)⟩
def lw_privs_1 : List (MethodName × Nat) := [(⟨"PlaySeason$Page", "fits", "(I)Z"⟩, 2), (⟨"PlaySeason$Page", "isWithin", "(III)Z"⟩, 2), (⟨"PlaySeason$Plan", "startAnew", "()V"⟩, 10), (⟨"PlaySeason$Plan", "titleOn", "(I)I"⟩, 10), (⟨"PlaySeason$Plan", "breakAt", "(II)I"⟩, 10), (⟨"PlaySeason$Plan", "isCastOn", "(II)Z"⟩, 10), (⟨"PlaySeason$Plan", "seatsAt", "(II)I"⟩, 10), (⟨"PlaySeason$Plan", "isDrawnBy", "(II)Z"⟩, 10), (⟨"PlaySeason$Plan", "tally", "(II)V"⟩, 10), (⟨"PlaySeason", "hasHouse", "()Z"⟩, 8), (⟨"PlaySeason", "ofTitle", "(II)I"⟩, 8), (⟨"PlaySeason", "ofNight", "(II)I"⟩, 8), (⟨"PlaySeason$Search", "gatherOpen", "(LPlaySeason$Plan;II)V"⟩, 7), (⟨"PlaySeason$Search", "fill", "(I)V"⟩, 7), (⟨"PlaySeason$Search", "isBetter", "()Z"⟩, 7), (⟨"PlaySeason$Search", "keep", "()V"⟩, 7)]
theorem lw_r1 : ∀ q ∈ lw_privs_1, lw_okq q := List.forall_mem_cons.mpr ⟨lw_p0, List.forall_mem_cons.mpr ⟨lw_p1, List.forall_mem_cons.mpr ⟨lw_p2, List.forall_mem_cons.mpr ⟨lw_p3, List.forall_mem_cons.mpr ⟨lw_p4, List.forall_mem_cons.mpr ⟨lw_p5, List.forall_mem_cons.mpr ⟨lw_p6, List.forall_mem_cons.mpr ⟨lw_p7, List.forall_mem_cons.mpr ⟨lw_p8, List.forall_mem_cons.mpr ⟨lw_p9, List.forall_mem_cons.mpr ⟨lw_p10, List.forall_mem_cons.mpr ⟨lw_p11, List.forall_mem_cons.mpr ⟨lw_p12, List.forall_mem_cons.mpr ⟨lw_p13, List.forall_mem_cons.mpr ⟨lw_p14, List.forall_mem_cons.mpr ⟨lw_p15, fun _ h => absurd h List.not_mem_nil⟩⟩⟩⟩⟩⟩⟩⟩⟩⟩⟩⟩⟩⟩⟩⟩
theorem lw_p16 : lw_okq (⟨"PlaySeason$Plan", "comesAhead", "(II)Z"⟩, 10) := ⟨⟨by decide +kernel, by decide +kernel⟩, List.mem_of_getElem? (i := 113) (by decide +kernel), List.mem_of_getElem? (i := 591) (by decide +kernel), List.mem_of_getElem? (i := 592) (by decide +kernel)⟩
theorem lw_p17 : lw_okq (⟨"PlaySeasonModel", "darken", "()V"⟩, 42) := ⟨⟨by decide +kernel, by decide +kernel⟩, List.mem_of_getElem? (i := 661) (by decide +kernel), List.mem_of_getElem? (i := 667) (by decide +kernel), List.mem_of_getElem? (i := 668) (by decide +kernel)⟩
theorem lw_p18 : lw_okq (⟨"PlaySeasonModel", "read", "()I"⟩, 42) := ⟨⟨by decide +kernel, by decide +kernel⟩, List.mem_of_getElem? (i := 661) (by decide +kernel), List.mem_of_getElem? (i := 813) (by decide +kernel), List.mem_of_getElem? (i := 814) (by decide +kernel)⟩
theorem lw_p19 : lw_okq (⟨"PlaySeasonModel", "readTitle", "(I)I"⟩, 42) := ⟨⟨by decide +kernel, by decide +kernel⟩, List.mem_of_getElem? (i := 661) (by decide +kernel), List.mem_of_getElem? (i := 817) (by decide +kernel), List.mem_of_getElem? (i := 818) (by decide +kernel)⟩
theorem lw_p20 : lw_okq (⟨"PlaySeasonModel", "at", "(I)I"⟩, 42) := ⟨⟨by decide +kernel, by decide +kernel⟩, List.mem_of_getElem? (i := 661) (by decide +kernel), List.mem_of_getElem? (i := 821) (by decide +kernel), List.mem_of_getElem? (i := 822) (by decide +kernel)⟩
theorem lw_p21 : lw_okq (⟨"PlaySeasonModel", "least", "(I)I"⟩, 42) := ⟨⟨by decide +kernel, by decide +kernel⟩, List.mem_of_getElem? (i := 661) (by decide +kernel), List.mem_of_getElem? (i := 828) (by decide +kernel), List.mem_of_getElem? (i := 829) (by decide +kernel)⟩
theorem lw_p22 : lw_okq (⟨"PlaySeasonModel", "isTitle", "(I)Z"⟩, 42) := ⟨⟨by decide +kernel, by decide +kernel⟩, List.mem_of_getElem? (i := 661) (by decide +kernel), List.mem_of_getElem? (i := 843) (by decide +kernel), List.mem_of_getElem? (i := 844) (by decide +kernel)⟩
theorem lw_p23 : lw_okq (⟨"PlaySeasonModel", "nightsOn", "()I"⟩, 42) := ⟨⟨by decide +kernel, by decide +kernel⟩, List.mem_of_getElem? (i := 661) (by decide +kernel), List.mem_of_getElem? (i := 847) (by decide +kernel), List.mem_of_getElem? (i := 848) (by decide +kernel)⟩
theorem lw_p24 : lw_okq (⟨"PlaySeasonModel", "titleNow", "(II)I"⟩, 42) := ⟨⟨by decide +kernel, by decide +kernel⟩, List.mem_of_getElem? (i := 661) (by decide +kernel), List.mem_of_getElem? (i := 855) (by decide +kernel), List.mem_of_getElem? (i := 856) (by decide +kernel)⟩
theorem lw_p25 : lw_okq (⟨"PlaySeasonModel", "nightsOf", "(II)I"⟩, 42) := ⟨⟨by decide +kernel, by decide +kernel⟩, List.mem_of_getElem? (i := 661) (by decide +kernel), List.mem_of_getElem? (i := 859) (by decide +kernel), List.mem_of_getElem? (i := 860) (by decide +kernel)⟩
theorem lw_p26 : lw_okq (⟨"PlaySeasonModel", "sortsOf", "(I)I"⟩, 42) := ⟨⟨by decide +kernel, by decide +kernel⟩, List.mem_of_getElem? (i := 661) (by decide +kernel), List.mem_of_getElem? (i := 863) (by decide +kernel), List.mem_of_getElem? (i := 864) (by decide +kernel)⟩
theorem lw_p27 : lw_okq (⟨"PlaySeasonModel", "askOf", "(I)I"⟩, 42) := ⟨⟨by decide +kernel, by decide +kernel⟩, List.mem_of_getElem? (i := 661) (by decide +kernel), List.mem_of_getElem? (i := 870) (by decide +kernel), List.mem_of_getElem? (i := 871) (by decide +kernel)⟩
theorem lw_p28 : lw_okq (⟨"PlaySeasonModel", "nightNow", "(II)I"⟩, 42) := ⟨⟨by decide +kernel, by decide +kernel⟩, List.mem_of_getElem? (i := 661) (by decide +kernel), List.mem_of_getElem? (i := 892) (by decide +kernel), List.mem_of_getElem? (i := 893) (by decide +kernel)⟩
theorem lw_p29 : lw_okq (⟨"PlaySeasonModel", "breaksAt", "(I)I"⟩, 42) := ⟨⟨by decide +kernel, by decide +kernel⟩, List.mem_of_getElem? (i := 661) (by decide +kernel), List.mem_of_getElem? (i := 896) (by decide +kernel), List.mem_of_getElem? (i := 897) (by decide +kernel)⟩
theorem lw_p30 : lw_okq (⟨"PlaySeasonModel", "on", "(I)I"⟩, 42) := ⟨⟨by decide +kernel, by decide +kernel⟩, List.mem_of_getElem? (i := 661) (by decide +kernel), List.mem_of_getElem? (i := 900) (by decide +kernel), List.mem_of_getElem? (i := 901) (by decide +kernel)⟩
theorem lw_p31 : lw_okq (⟨"PlaySeasonModel", "hasCast", "(II)Z"⟩, 42) := ⟨⟨by decide +kernel, by decide +kernel⟩, List.mem_of_getElem? (i := 661) (by decide +kernel), List.mem_of_getElem? (i := 904) (by decide +kernel), List.mem_of_getElem? (i := 905) (by decide +kernel)⟩
def lw_privs_2 : List (MethodName × Nat) := [(⟨"PlaySeason$Plan", "comesAhead", "(II)Z"⟩, 10), (⟨"PlaySeasonModel", "darken", "()V"⟩, 42), (⟨"PlaySeasonModel", "read", "()I"⟩, 42), (⟨"PlaySeasonModel", "readTitle", "(I)I"⟩, 42), (⟨"PlaySeasonModel", "at", "(I)I"⟩, 42), (⟨"PlaySeasonModel", "least", "(I)I"⟩, 42), (⟨"PlaySeasonModel", "isTitle", "(I)Z"⟩, 42), (⟨"PlaySeasonModel", "nightsOn", "()I"⟩, 42), (⟨"PlaySeasonModel", "titleNow", "(II)I"⟩, 42), (⟨"PlaySeasonModel", "nightsOf", "(II)I"⟩, 42), (⟨"PlaySeasonModel", "sortsOf", "(I)I"⟩, 42), (⟨"PlaySeasonModel", "askOf", "(I)I"⟩, 42), (⟨"PlaySeasonModel", "nightNow", "(II)I"⟩, 42), (⟨"PlaySeasonModel", "breaksAt", "(I)I"⟩, 42), (⟨"PlaySeasonModel", "on", "(I)I"⟩, 42), (⟨"PlaySeasonModel", "hasCast", "(II)Z"⟩, 42)]
theorem lw_r2 : ∀ q ∈ lw_privs_2, lw_okq q := List.forall_mem_cons.mpr ⟨lw_p16, List.forall_mem_cons.mpr ⟨lw_p17, List.forall_mem_cons.mpr ⟨lw_p18, List.forall_mem_cons.mpr ⟨lw_p19, List.forall_mem_cons.mpr ⟨lw_p20, List.forall_mem_cons.mpr ⟨lw_p21, List.forall_mem_cons.mpr ⟨lw_p22, List.forall_mem_cons.mpr ⟨lw_p23, List.forall_mem_cons.mpr ⟨lw_p24, List.forall_mem_cons.mpr ⟨lw_p25, List.forall_mem_cons.mpr ⟨lw_p26, List.forall_mem_cons.mpr ⟨lw_p27, List.forall_mem_cons.mpr ⟨lw_p28, List.forall_mem_cons.mpr ⟨lw_p29, List.forall_mem_cons.mpr ⟨lw_p30, List.forall_mem_cons.mpr ⟨lw_p31, fun _ h => absurd h List.not_mem_nil⟩⟩⟩⟩⟩⟩⟩⟩⟩⟩⟩⟩⟩⟩⟩⟩
theorem lw_p32 : lw_okq (⟨"PlaySeasonModel", "isGala", "(I)Z"⟩, 42) := ⟨⟨by decide +kernel, by decide +kernel⟩, List.mem_of_getElem? (i := 661) (by decide +kernel), List.mem_of_getElem? (i := 908) (by decide +kernel), List.mem_of_getElem? (i := 909) (by decide +kernel)⟩
theorem lw_p33 : lw_okq (⟨"PlaySeasonModel", "isCastBehind", "(II)Z"⟩, 42) := ⟨⟨by decide +kernel, by decide +kernel⟩, List.mem_of_getElem? (i := 661) (by decide +kernel), List.mem_of_getElem? (i := 912) (by decide +kernel), List.mem_of_getElem? (i := 913) (by decide +kernel)⟩
theorem lw_p34 : lw_okq (⟨"PlaySeasonModel", "seatsAt", "(I)I"⟩, 42) := ⟨⟨by decide +kernel, by decide +kernel⟩, List.mem_of_getElem? (i := 661) (by decide +kernel), List.mem_of_getElem? (i := 916) (by decide +kernel), List.mem_of_getElem? (i := 917) (by decide +kernel)⟩
theorem lw_p35 : lw_okq (⟨"PlaySeasonModel", "draws", "(II)Z"⟩, 42) := ⟨⟨by decide +kernel, by decide +kernel⟩, List.mem_of_getElem? (i := 661) (by decide +kernel), List.mem_of_getElem? (i := 920) (by decide +kernel), List.mem_of_getElem? (i := 921) (by decide +kernel)⟩
theorem lw_p36 : lw_okq (⟨"PlaySeasonModel", "breaks", "()I"⟩, 42) := ⟨⟨by decide +kernel, by decide +kernel⟩, List.mem_of_getElem? (i := 661) (by decide +kernel), List.mem_of_getElem? (i := 928) (by decide +kernel), List.mem_of_getElem? (i := 929) (by decide +kernel)⟩
theorem lw_p37 : lw_okq (⟨"PlaySeasonModel", "darkOnes", "(II)I"⟩, 42) := ⟨⟨by decide +kernel, by decide +kernel⟩, List.mem_of_getElem? (i := 661) (by decide +kernel), List.mem_of_getElem? (i := 952) (by decide +kernel), List.mem_of_getElem? (i := 953) (by decide +kernel)⟩
theorem lw_p38 : lw_okq (⟨"PlaySeasonModel", "bestNow", "(III)I"⟩, 42) := ⟨⟨by decide +kernel, by decide +kernel⟩, List.mem_of_getElem? (i := 661) (by decide +kernel), List.mem_of_getElem? (i := 956) (by decide +kernel), List.mem_of_getElem? (i := 957) (by decide +kernel)⟩
theorem lw_p39 : lw_okq (⟨"PlaySeasonModel", "layDarks", "(II)V"⟩, 42) := ⟨⟨by decide +kernel, by decide +kernel⟩, List.mem_of_getElem? (i := 661) (by decide +kernel), List.mem_of_getElem? (i := 960) (by decide +kernel), List.mem_of_getElem? (i := 961) (by decide +kernel)⟩
theorem lw_p40 : lw_okq (⟨"PlaySeasonModel", "findBest", "()V"⟩, 42) := ⟨⟨by decide +kernel, by decide +kernel⟩, List.mem_of_getElem? (i := 661) (by decide +kernel), List.mem_of_getElem? (i := 964) (by decide +kernel), List.mem_of_getElem? (i := 965) (by decide +kernel)⟩
theorem lw_p41 : lw_okq (⟨"PlaySeasonModel", "fillBy", "(I)V"⟩, 42) := ⟨⟨by decide +kernel, by decide +kernel⟩, List.mem_of_getElem? (i := 661) (by decide +kernel), List.mem_of_getElem? (i := 968) (by decide +kernel), List.mem_of_getElem? (i := 969) (by decide +kernel)⟩
theorem lw_p42 : lw_okq (⟨"PlaySeasonModel", "lost", "()I"⟩, 42) := ⟨⟨by decide +kernel, by decide +kernel⟩, List.mem_of_getElem? (i := 661) (by decide +kernel), List.mem_of_getElem? (i := 972) (by decide +kernel), List.mem_of_getElem? (i := 973) (by decide +kernel)⟩
theorem lw_p43 : lw_okq (⟨"PlaySeasonModel", "earned", "()I"⟩, 42) := ⟨⟨by decide +kernel, by decide +kernel⟩, List.mem_of_getElem? (i := 661) (by decide +kernel), List.mem_of_getElem? (i := 976) (by decide +kernel), List.mem_of_getElem? (i := 977) (by decide +kernel)⟩
theorem lw_p44 : lw_okq (⟨"PlaySeasonModel", "rankNow", "(I)I"⟩, 42) := ⟨⟨by decide +kernel, by decide +kernel⟩, List.mem_of_getElem? (i := 661) (by decide +kernel), List.mem_of_getElem? (i := 984) (by decide +kernel), List.mem_of_getElem? (i := 985) (by decide +kernel)⟩
theorem lw_p45 : lw_okq (⟨"PlaySeasonModel", "isAhead", "(II)Z"⟩, 42) := ⟨⟨by decide +kernel, by decide +kernel⟩, List.mem_of_getElem? (i := 661) (by decide +kernel), List.mem_of_getElem? (i := 988) (by decide +kernel), List.mem_of_getElem? (i := 989) (by decide +kernel)⟩
theorem lw_p46 : lw_okq (⟨"PlaySeasonModel", "seatsOf", "(I)I"⟩, 42) := ⟨⟨by decide +kernel, by decide +kernel⟩, List.mem_of_getElem? (i := 661) (by decide +kernel), List.mem_of_getElem? (i := 992) (by decide +kernel), List.mem_of_getElem? (i := 993) (by decide +kernel)⟩
theorem lw_p47 : lw_okq (⟨"PlaySeasonModel", "drawnNow", "(III)I"⟩, 42) := ⟨⟨by decide +kernel, by decide +kernel⟩, List.mem_of_getElem? (i := 661) (by decide +kernel), List.mem_of_getElem? (i := 1008) (by decide +kernel), List.mem_of_getElem? (i := 1009) (by decide +kernel)⟩
def lw_privs_3 : List (MethodName × Nat) := [(⟨"PlaySeasonModel", "isGala", "(I)Z"⟩, 42), (⟨"PlaySeasonModel", "isCastBehind", "(II)Z"⟩, 42), (⟨"PlaySeasonModel", "seatsAt", "(I)I"⟩, 42), (⟨"PlaySeasonModel", "draws", "(II)Z"⟩, 42), (⟨"PlaySeasonModel", "breaks", "()I"⟩, 42), (⟨"PlaySeasonModel", "darkOnes", "(II)I"⟩, 42), (⟨"PlaySeasonModel", "bestNow", "(III)I"⟩, 42), (⟨"PlaySeasonModel", "layDarks", "(II)V"⟩, 42), (⟨"PlaySeasonModel", "findBest", "()V"⟩, 42), (⟨"PlaySeasonModel", "fillBy", "(I)V"⟩, 42), (⟨"PlaySeasonModel", "lost", "()I"⟩, 42), (⟨"PlaySeasonModel", "earned", "()I"⟩, 42), (⟨"PlaySeasonModel", "rankNow", "(I)I"⟩, 42), (⟨"PlaySeasonModel", "isAhead", "(II)Z"⟩, 42), (⟨"PlaySeasonModel", "seatsOf", "(I)I"⟩, 42), (⟨"PlaySeasonModel", "drawnNow", "(III)I"⟩, 42)]
theorem lw_r3 : ∀ q ∈ lw_privs_3, lw_okq q := List.forall_mem_cons.mpr ⟨lw_p32, List.forall_mem_cons.mpr ⟨lw_p33, List.forall_mem_cons.mpr ⟨lw_p34, List.forall_mem_cons.mpr ⟨lw_p35, List.forall_mem_cons.mpr ⟨lw_p36, List.forall_mem_cons.mpr ⟨lw_p37, List.forall_mem_cons.mpr ⟨lw_p38, List.forall_mem_cons.mpr ⟨lw_p39, List.forall_mem_cons.mpr ⟨lw_p40, List.forall_mem_cons.mpr ⟨lw_p41, List.forall_mem_cons.mpr ⟨lw_p42, List.forall_mem_cons.mpr ⟨lw_p43, List.forall_mem_cons.mpr ⟨lw_p44, List.forall_mem_cons.mpr ⟨lw_p45, List.forall_mem_cons.mpr ⟨lw_p46, List.forall_mem_cons.mpr ⟨lw_p47, fun _ h => absurd h List.not_mem_nil⟩⟩⟩⟩⟩⟩⟩⟩⟩⟩⟩⟩⟩⟩⟩⟩
theorem lw_p48 : lw_okq (⟨"PlaySeasonModel", "draw", "(I)I"⟩, 42) := ⟨⟨by decide +kernel, by decide +kernel⟩, List.mem_of_getElem? (i := 661) (by decide +kernel), List.mem_of_getElem? (i := 1012) (by decide +kernel), List.mem_of_getElem? (i := 1013) (by decide +kernel)⟩
theorem lw_p49 : lw_okq (⟨"PlaySeasonModel", "howMany", "(I)I"⟩, 42) := ⟨⟨by decide +kernel, by decide +kernel⟩, List.mem_of_getElem? (i := 661) (by decide +kernel), List.mem_of_getElem? (i := 1032) (by decide +kernel), List.mem_of_getElem? (i := 1033) (by decide +kernel)⟩
theorem lw_p50 : lw_okq (⟨"PlaySeasonModel", "unlike", "()I"⟩, 42) := ⟨⟨by decide +kernel, by decide +kernel⟩, List.mem_of_getElem? (i := 661) (by decide +kernel), List.mem_of_getElem? (i := 1036) (by decide +kernel), List.mem_of_getElem? (i := 1037) (by decide +kernel)⟩
theorem lw_p51 : lw_okq (⟨"PlaySeasonModel", "mix", "(J)V"⟩, 42) := ⟨⟨by decide +kernel, by decide +kernel⟩, List.mem_of_getElem? (i := 661) (by decide +kernel), List.mem_of_getElem? (i := 1045) (by decide +kernel), List.mem_of_getElem? (i := 1046) (by decide +kernel)⟩
def lw_privs_4 : List (MethodName × Nat) := [(⟨"PlaySeasonModel", "draw", "(I)I"⟩, 42), (⟨"PlaySeasonModel", "howMany", "(I)I"⟩, 42), (⟨"PlaySeasonModel", "unlike", "()I"⟩, 42), (⟨"PlaySeasonModel", "mix", "(J)V"⟩, 42)]
theorem lw_r4 : ∀ q ∈ lw_privs_4, lw_okq q := List.forall_mem_cons.mpr ⟨lw_p48, List.forall_mem_cons.mpr ⟨lw_p49, List.forall_mem_cons.mpr ⟨lw_p50, List.forall_mem_cons.mpr ⟨lw_p51, fun _ h => absurd h List.not_mem_nil⟩⟩⟩⟩
def lw_privs : List (MethodName × Nat) := lw_privs_1 ++ (lw_privs_2 ++ (lw_privs_3 ++ (lw_privs_4)))
def lw_tbl : List Cond := k2_sels lw_privs ++ tables_1
theorem lw_privs_ok : ∀ q ∈ lw_privs, lw_okq q := by
  show ∀ q ∈ lw_privs_1 ++ (lw_privs_2 ++ (lw_privs_3 ++ (lw_privs_4))), lw_okq q
  exact List.forall_mem_append.mpr ⟨lw_r1, List.forall_mem_append.mpr ⟨lw_r2, List.forall_mem_append.mpr ⟨lw_r3, lw_r4⟩⟩⟩
end
section
def RX0 : String := "PlaySeason$Page"
def TX0 : u_T := fun k => match k with
  | 0 => ("PlaySeason$Page", "codes", "[I", true)
  | _ => ("PlaySeason$Page", "length", "I", false)
def tyX0 : Nat → FieldType := fun k => match k with
  | 0 => .array .int
  | _ => .int
theorem nmX0 : ∀ a, a < 2 → ∀ b, b < 2 → a ≠ b → (TX0 a).2.1 ≠ (TX0 b).2.1 := by decide +kernel
theorem tyX0_ok : ∀ k, k < 2 → parseFieldDescriptor (TX0 k).2.2.1 = some (tyX0 k) := by decide +kernel
abbrev cX0_init : ByteArray := prog_2_method_1_code
def yX0_init : MethodName := ⟨RX0, "<init>", "()V"⟩
abbrev cX0_put : ByteArray := prog_2_method_2_code
def yX0_put : MethodName := ⟨RX0, "put", "(I)V"⟩
abbrev cX0_firstFault : ByteArray := prog_2_method_3_code
def yX0_firstFault : MethodName := ⟨RX0, "firstFault", "()I"⟩
abbrev cX0_isHouse : ByteArray := prog_2_method_4_code
def yX0_isHouse : MethodName := ⟨RX0, "isHouse", "()Z"⟩
abbrev cX0_isPlan : ByteArray := prog_2_method_5_code
def yX0_isPlan : MethodName := ⟨RX0, "isPlan", "(I)Z"⟩
abbrev cX0_fits : ByteArray := prog_2_method_6_code
def yX0_fits : MethodName := ⟨RX0, "fits", "(I)Z"⟩
abbrev cX0_isWithin : ByteArray := prog_2_method_7_code
def yX0_isWithin : MethodName := ⟨RX0, "isWithin", "(III)Z"⟩
def RX1 : String := "PlaySeason$Plan"
def TX1 : u_T := fun k => match k with
  | 0 => ("PlaySeason$Plan", "titles", "LPlaySeason$Titles;", true)
  | 1 => ("PlaySeason$Plan", "nights", "[I", true)
  | 2 => ("PlaySeason$Plan", "breaks", "[I", true)
  | 3 => ("PlaySeason$Plan", "seats", "[I", true)
  | 4 => ("PlaySeason$Plan", "timesOn", "[I", true)
  | 5 => ("PlaySeason$Plan", "earnedBy", "[I", true)
  | 6 => ("PlaySeason$Plan", "lastOfCast", "[I", true)
  | 7 => ("PlaySeason$Plan", "broken", "I", false)
  | 8 => ("PlaySeason$Plan", "lost", "I", false)
  | _ => ("PlaySeason$Plan", "earned", "I", false)
def tyX1 : Nat → FieldType := fun k => match k with
  | 0 => .object "PlaySeason$Titles"
  | 1 => .array .int
  | 2 => .array .int
  | 3 => .array .int
  | 4 => .array .int
  | 5 => .array .int
  | 6 => .array .int
  | 7 => .int
  | 8 => .int
  | _ => .int
theorem nmX1 : ∀ a, a < 10 → ∀ b, b < 10 → a ≠ b → (TX1 a).2.1 ≠ (TX1 b).2.1 := by decide +kernel
theorem tyX1_ok : ∀ k, k < 10 → parseFieldDescriptor (TX1 k).2.2.1 = some (tyX1 k) := by decide +kernel
abbrev cX1_init : ByteArray := prog_3_method_1_code
def yX1_init : MethodName := ⟨RX1, "<init>", "(LPlaySeason$Titles;)V"⟩
abbrev cX1_darken : ByteArray := prog_3_method_2_code
def yX1_darken : MethodName := ⟨RX1, "darken", "()V"⟩
abbrev cX1_read : ByteArray := prog_3_method_3_code
def yX1_read : MethodName := ⟨RX1, "read", "(LPlaySeason$Page;)V"⟩
abbrev cX1_take : ByteArray := prog_3_method_4_code
def yX1_take : MethodName := ⟨RX1, "take", "([I)V"⟩
abbrev cX1_shift : ByteArray := prog_3_method_5_code
def yX1_shift : MethodName := ⟨RX1, "shift", "(I)V"⟩
abbrev cX1_drawAll : ByteArray := prog_3_method_6_code
def yX1_drawAll : MethodName := ⟨RX1, "drawAll", "(I)I"⟩
abbrev cX1_darkWithin : ByteArray := prog_3_method_7_code
def yX1_darkWithin : MethodName := ⟨RX1, "darkWithin", "(II)I"⟩
abbrev cX1_isDark : ByteArray := prog_3_method_8_code
def yX1_isDark : MethodName := ⟨RX1, "isDark", "(I)Z"⟩
abbrev cX1_lit : ByteArray := prog_3_method_9_code
def yX1_lit : MethodName := ⟨RX1, "lit", "()I"⟩
abbrev cX1_timesOf : ByteArray := prog_3_method_10_code
def yX1_timesOf : MethodName := ⟨RX1, "timesOf", "(I)I"⟩
abbrev cX1_unlike : ByteArray := prog_3_method_11_code
def yX1_unlike : MethodName := ⟨RX1, "unlike", "()I"⟩
abbrev cX1_placeOf : ByteArray := prog_3_method_12_code
def yX1_placeOf : MethodName := ⟨RX1, "placeOf", "(I)I"⟩
abbrev cX1_comesAhead : ByteArray := prog_3_method_13_code
def yX1_comesAhead : MethodName := ⟨RX1, "comesAhead", "(II)Z"⟩
abbrev cX1_weigh : ByteArray := prog_3_method_14_code
def yX1_weigh : MethodName := ⟨RX1, "weigh", "()V"⟩
abbrev cX1_startAnew : ByteArray := prog_3_method_15_code
def yX1_startAnew : MethodName := ⟨RX1, "startAnew", "()V"⟩
abbrev cX1_tally : ByteArray := prog_3_method_16_code
def yX1_tally : MethodName := ⟨RX1, "tally", "(II)V"⟩
abbrev cX1_breakAt : ByteArray := prog_3_method_17_code
def yX1_breakAt : MethodName := ⟨RX1, "breakAt", "(II)I"⟩
abbrev cX1_seatsAt : ByteArray := prog_3_method_18_code
def yX1_seatsAt : MethodName := ⟨RX1, "seatsAt", "(II)I"⟩
abbrev cX1_isDrawnBy : ByteArray := prog_3_method_19_code
def yX1_isDrawnBy : MethodName := ⟨RX1, "isDrawnBy", "(II)Z"⟩
abbrev cX1_isCastOn : ByteArray := prog_3_method_20_code
def yX1_isCastOn : MethodName := ⟨RX1, "isCastOn", "(II)Z"⟩
abbrev cX1_titleOn : ByteArray := prog_3_method_21_code
def yX1_titleOn : MethodName := ⟨RX1, "titleOn", "(I)I"⟩
def RX2 : String := "PlaySeason$Search"
def TX2 : u_T := fun k => match k with
  | 0 => ("PlaySeason$Search", "titles", "LPlaySeason$Titles;", true)
  | 1 => ("PlaySeason$Search", "trial", "LPlaySeason$Plan;", true)
  | 2 => ("PlaySeason$Search", "open", "[I", true)
  | 3 => ("PlaySeason$Search", "nights", "[I", true)
  | 4 => ("PlaySeason$Search", "openCount", "I", false)
  | 5 => ("PlaySeason$Search", "lost", "I", false)
  | _ => ("PlaySeason$Search", "earned", "I", false)
def tyX2 : Nat → FieldType := fun k => match k with
  | 0 => .object "PlaySeason$Titles"
  | 1 => .object "PlaySeason$Plan"
  | 2 => .array .int
  | 3 => .array .int
  | 4 => .int
  | 5 => .int
  | _ => .int
theorem nmX2 : ∀ a, a < 7 → ∀ b, b < 7 → a ≠ b → (TX2 a).2.1 ≠ (TX2 b).2.1 := by decide +kernel
theorem tyX2_ok : ∀ k, k < 7 → parseFieldDescriptor (TX2 k).2.2.1 = some (tyX2 k) := by decide +kernel
abbrev cX2_init : ByteArray := prog_4_method_1_code
def yX2_init : MethodName := ⟨RX2, "<init>", "(LPlaySeason$Titles;LPlaySeason$Plan;)V"⟩
abbrev cX2_seek : ByteArray := prog_4_method_2_code
def yX2_seek : MethodName := ⟨RX2, "seek", "(LPlaySeason$Plan;II)V"⟩
abbrev cX2_gatherOpen : ByteArray := prog_4_method_3_code
def yX2_gatherOpen : MethodName := ⟨RX2, "gatherOpen", "(LPlaySeason$Plan;II)V"⟩
abbrev cX2_fill : ByteArray := prog_4_method_4_code
def yX2_fill : MethodName := ⟨RX2, "fill", "(I)V"⟩
abbrev cX2_isBetter : ByteArray := prog_4_method_5_code
def yX2_isBetter : MethodName := ⟨RX2, "isBetter", "()Z"⟩
abbrev cX2_keep : ByteArray := prog_4_method_6_code
def yX2_keep : MethodName := ⟨RX2, "keep", "()V"⟩
def RX3 : String := "PlaySeason$Season"
def TX3 : u_T := fun k => match k with
  | 0 => ("PlaySeason$Season", "titles", "LPlaySeason$Titles;", true)
  | 1 => ("PlaySeason$Season", "plan", "LPlaySeason$Plan;", true)
  | _ => ("PlaySeason$Season", "seen", "LPlaySeason$Seen;", true)
def tyX3 : Nat → FieldType := fun k => match k with
  | 0 => .object "PlaySeason$Titles"
  | 1 => .object "PlaySeason$Plan"
  | _ => .object "PlaySeason$Seen"
theorem nmX3 : ∀ a, a < 3 → ∀ b, b < 3 → a ≠ b → (TX3 a).2.1 ≠ (TX3 b).2.1 := by decide +kernel
theorem tyX3_ok : ∀ k, k < 3 → parseFieldDescriptor (TX3 k).2.2.1 = some (tyX3 k) := by decide +kernel
abbrev cX3_init : ByteArray := prog_5_method_1_code
def yX3_init : MethodName := ⟨RX3, "<init>", "()V"⟩
abbrev cX3_copy : ByteArray := prog_5_method_2_code
def yX3_copy : MethodName := ⟨RX3, "copy", "(LPlaySeason$Season;)V"⟩
def RX4 : String := "PlaySeason$Seen"
def TX4 : u_T := fun k => match k with
  | 0 => ("PlaySeason$Seen", "ofTitle", "[I", true)
  | 1 => ("PlaySeason$Seen", "leaves", "[I", true)
  | _ => ("PlaySeason$Seen", "size", "I", false)
def tyX4 : Nat → FieldType := fun k => match k with
  | 0 => .array .int
  | 1 => .array .int
  | _ => .int
theorem nmX4 : ∀ a, a < 3 → ∀ b, b < 3 → a ≠ b → (TX4 a).2.1 ≠ (TX4 b).2.1 := by decide +kernel
theorem tyX4_ok : ∀ k, k < 3 → parseFieldDescriptor (TX4 k).2.2.1 = some (tyX4 k) := by decide +kernel
abbrev cX4_init : ByteArray := prog_6_method_1_code
def yX4_init : MethodName := ⟨RX4, "<init>", "()V"⟩
abbrev cX4_note : ByteArray := prog_6_method_2_code
def yX4_note : MethodName := ⟨RX4, "note", "(II)V"⟩
abbrev cX4_sortsOf : ByteArray := prog_6_method_3_code
def yX4_sortsOf : MethodName := ⟨RX4, "sortsOf", "(I)I"⟩
abbrev cX4_copy : ByteArray := prog_6_method_4_code
def yX4_copy : MethodName := ⟨RX4, "copy", "(LPlaySeason$Seen;)V"⟩
def RX5 : String := "PlaySeason$Title"
def TX5 : u_T := fun k => match k with
  | 0 => ("PlaySeason$Title", "kind", "I", false)
  | 1 => ("PlaySeason$Title", "set", "I", false)
  | 2 => ("PlaySeason$Title", "cast", "I", false)
  | 3 => ("PlaySeason$Title", "first", "I", false)
  | 4 => ("PlaySeason$Title", "last", "I", false)
  | _ => ("PlaySeason$Title", "fill", "I", false)
def tyX5 : Nat → FieldType := fun k => match k with
  | 0 => .int
  | 1 => .int
  | 2 => .int
  | 3 => .int
  | 4 => .int
  | _ => .int
theorem nmX5 : ∀ a, a < 6 → ∀ b, b < 6 → a ≠ b → (TX5 a).2.1 ≠ (TX5 b).2.1 := by decide +kernel
theorem tyX5_ok : ∀ k, k < 6 → parseFieldDescriptor (TX5 k).2.2.1 = some (tyX5 k) := by decide +kernel
abbrev cX5_init : ByteArray := prog_7_method_1_code
def yX5_init : MethodName := ⟨RX5, "<init>", "()V"⟩
abbrev cX5_isOf : ByteArray := prog_7_method_2_code
def yX5_isOf : MethodName := ⟨RX5, "isOf", "(I)Z"⟩
abbrev cX5_copy : ByteArray := prog_7_method_3_code
def yX5_copy : MethodName := ⟨RX5, "copy", "(LPlaySeason$Title;)V"⟩
abbrev cX5_read : ByteArray := prog_7_method_4_code
def yX5_read : MethodName := ⟨RX5, "read", "(LPlaySeason$Page;I)V"⟩
def RX6 : String := "PlaySeason$Titles"
def TX6 : u_T := fun k => match k with
  | 0 => ("PlaySeason$Titles", "all", "[LPlaySeason$Title;", true)
  | _ => ("PlaySeason$Titles", "size", "I", false)
def tyX6 : Nat → FieldType := fun k => match k with
  | 0 => .array (.object "PlaySeason$Title")
  | _ => .int
theorem nmX6 : ∀ a, a < 2 → ∀ b, b < 2 → a ≠ b → (TX6 a).2.1 ≠ (TX6 b).2.1 := by decide +kernel
theorem tyX6_ok : ∀ k, k < 2 → parseFieldDescriptor (TX6 k).2.2.1 = some (tyX6 k) := by decide +kernel
abbrev cX6_init : ByteArray := prog_8_method_1_code
def yX6_init : MethodName := ⟨RX6, "<init>", "()V"⟩
abbrev cX6_has : ByteArray := prog_8_method_2_code
def yX6_has : MethodName := ⟨RX6, "has", "(I)Z"⟩
abbrev cX6_at : ByteArray := prog_8_method_3_code
def yX6_at : MethodName := ⟨RX6, "at", "(I)LPlaySeason$Title;"⟩
abbrev cX6_append : ByteArray := prog_8_method_4_code
def yX6_append : MethodName := ⟨RX6, "append", "(III)V"⟩
abbrev cX6_read : ByteArray := prog_8_method_5_code
def yX6_read : MethodName := ⟨RX6, "read", "(LPlaySeason$Page;)V"⟩
abbrev cX6_copy : ByteArray := prog_8_method_6_code
def yX6_copy : MethodName := ⟨RX6, "copy", "(LPlaySeason$Titles;)V"⟩
def RX7 : String := "PlaySeason"
def TX7 : u_T := fun k => match k with
  | 0 => ("PlaySeason", "page", "LPlaySeason$Page;", true)
  | 1 => ("PlaySeason", "now", "LPlaySeason$Season;", true)
  | 2 => ("PlaySeason", "kept", "LPlaySeason$Season;", true)
  | 3 => ("PlaySeason", "scratch", "LPlaySeason$Plan;", true)
  | 4 => ("PlaySeason", "search", "LPlaySeason$Search;", true)
  | 5 => ("PlaySeason", "imageStands", "Z", false)
  | 6 => ("PlaySeason", "housesRead", "I", false)
  | _ => ("PlaySeason", "bestsTold", "I", false)
def tyX7 : Nat → FieldType := fun k => match k with
  | 0 => .object "PlaySeason$Page"
  | 1 => .object "PlaySeason$Season"
  | 2 => .object "PlaySeason$Season"
  | 3 => .object "PlaySeason$Plan"
  | 4 => .object "PlaySeason$Search"
  | 5 => .boolean
  | 6 => .int
  | _ => .int
theorem nmX7 : ∀ a, a < 8 → ∀ b, b < 8 → a ≠ b → (TX7 a).2.1 ≠ (TX7 b).2.1 := by decide +kernel
theorem tyX7_ok : ∀ k, k < 8 → parseFieldDescriptor (TX7 k).2.2.1 = some (tyX7 k) := by decide +kernel
abbrev cX7_init : ByteArray := prog_1_method_1_code
def yX7_init : MethodName := ⟨RX7, "<init>", "()V"⟩
abbrev cX7_letter : ByteArray := prog_1_method_2_code
def yX7_letter : MethodName := ⟨RX7, "letter", "(I)I"⟩
abbrev cX7_blank : ByteArray := prog_1_method_3_code
def yX7_blank : MethodName := ⟨RX7, "blank", "()I"⟩
abbrev cX7_fault : ByteArray := prog_1_method_4_code
def yX7_fault : MethodName := ⟨RX7, "fault", "()I"⟩
abbrev cX7_house : ByteArray := prog_1_method_5_code
def yX7_house : MethodName := ⟨RX7, "house", "()I"⟩
abbrev cX7_plan : ByteArray := prog_1_method_6_code
def yX7_plan : MethodName := ⟨RX7, "plan", "()I"⟩
abbrev cX7_title : ByteArray := prog_1_method_7_code
def yX7_title : MethodName := ⟨RX7, "title", "(II)I"⟩
abbrev cX7_as : ByteArray := prog_1_method_8_code
def yX7_as : MethodName := ⟨RX7, "as", "(II)I"⟩
abbrev cX7_night : ByteArray := prog_1_method_9_code
def yX7_night : MethodName := ⟨RX7, "night", "(II)I"⟩
abbrev cX7_play : ByteArray := prog_1_method_10_code
def yX7_play : MethodName := ⟨RX7, "play", "(II)I"⟩
abbrev cX7_delay : ByteArray := prog_1_method_11_code
def yX7_delay : MethodName := ⟨RX7, "delay", "(I)I"⟩
abbrev cX7_add : ByteArray := prog_1_method_12_code
def yX7_add : MethodName := ⟨RX7, "add", "(III)I"⟩
abbrev cX7_rights : ByteArray := prog_1_method_13_code
def yX7_rights : MethodName := ⟨RX7, "rights", "(III)I"⟩
abbrev cX7_be : ByteArray := prog_1_method_14_code
def yX7_be : MethodName := ⟨RX7, "be", "(II)I"⟩
abbrev cX7_best : ByteArray := prog_1_method_15_code
def yX7_best : MethodName := ⟨RX7, "best", "(III)I"⟩
abbrev cX7_rank : ByteArray := prog_1_method_16_code
def yX7_rank : MethodName := ⟨RX7, "rank", "(I)I"⟩
abbrev cX7_see : ByteArray := prog_1_method_17_code
def yX7_see : MethodName := ⟨RX7, "see", "(IIZ)I"⟩
abbrev cX7_forget : ByteArray := prog_1_method_18_code
def yX7_forget : MethodName := ⟨RX7, "forget", "()I"⟩
abbrev cX7_drawn : ByteArray := prog_1_method_19_code
def yX7_drawn : MethodName := ⟨RX7, "drawn", "(III)I"⟩
abbrev cX7_image : ByteArray := prog_1_method_20_code
def yX7_image : MethodName := ⟨RX7, "image", "()I"⟩
abbrev cX7_restore : ByteArray := prog_1_method_21_code
def yX7_restore : MethodName := ⟨RX7, "restore", "()I"⟩
abbrev cX7_count : ByteArray := prog_1_method_22_code
def yX7_count : MethodName := ⟨RX7, "count", "(I)I"⟩
abbrev cX7_digest : ByteArray := prog_1_method_23_code
def yX7_digest : MethodName := ⟨RX7, "digest", "()J"⟩
abbrev cX7_hasHouse : ByteArray := prog_1_method_24_code
def yX7_hasHouse : MethodName := ⟨RX7, "hasHouse", "()Z"⟩
abbrev cX7_isNight : ByteArray := prog_1_method_25_code
def yX7_isNight : MethodName := ⟨RX7, "isNight", "(I)Z"⟩
abbrev cX7_isSpan : ByteArray := prog_1_method_26_code
def yX7_isSpan : MethodName := ⟨RX7, "isSpan", "(II)Z"⟩
abbrev cX7_isKind : ByteArray := prog_1_method_27_code
def yX7_isKind : MethodName := ⟨RX7, "isKind", "(I)Z"⟩
abbrev cX7_ofTitle : ByteArray := prog_1_method_28_code
def yX7_ofTitle : MethodName := ⟨RX7, "ofTitle", "(II)I"⟩
abbrev cX7_ofNight : ByteArray := prog_1_method_29_code
def yX7_ofNight : MethodName := ⟨RX7, "ofNight", "(II)I"⟩
abbrev cX7_kindsLeft : ByteArray := prog_1_method_30_code
def yX7_kindsLeft : MethodName := ⟨RX7, "kindsLeft", "(IZ)I"⟩
abbrev cX7_ask : ByteArray := prog_1_method_31_code
def yX7_ask : MethodName := ⟨RX7, "ask", "(I)I"⟩
def RX8 : String := "PlaySeasonModel"
def TX8 : u_T := fun k => match k with
  | 0 => ("PlaySeasonModel", "houses", "I", false)
  | 1 => ("PlaySeasonModel", "titles", "I", false)
  | 2 => ("PlaySeasonModel", "kindOf", "[I", true)
  | 3 => ("PlaySeasonModel", "setOf", "[I", true)
  | 4 => ("PlaySeasonModel", "castOf", "[I", true)
  | 5 => ("PlaySeasonModel", "first", "[I", true)
  | 6 => ("PlaySeasonModel", "last", "[I", true)
  | 7 => ("PlaySeasonModel", "fill", "[I", true)
  | 8 => ("PlaySeasonModel", "plan", "[I", true)
  | 9 => ("PlaySeasonModel", "asks", "I", false)
  | 10 => ("PlaySeasonModel", "seen", "I", false)
  | 11 => ("PlaySeasonModel", "seenTitle", "[I", true)
  | 12 => ("PlaySeasonModel", "seenWhat", "[I", true)
  | 13 => ("PlaySeasonModel", "seenCould", "[I", true)
  | 14 => ("PlaySeasonModel", "pageLength", "I", false)
  | 15 => ("PlaySeasonModel", "page", "[B", true)
  | 16 => ("PlaySeasonModel", "isWhole", "Z", false)
  | 17 => ("PlaySeasonModel", "isBroken", "Z", false)
  | 18 => ("PlaySeasonModel", "newTitles", "I", false)
  | 19 => ("PlaySeasonModel", "told", "[I", true)
  | 20 => ("PlaySeasonModel", "darks", "I", false)
  | 21 => ("PlaySeasonModel", "dark", "[I", true)
  | 22 => ("PlaySeasonModel", "bestWay", "I", false)
  | 23 => ("PlaySeasonModel", "bestLost", "I", false)
  | 24 => ("PlaySeasonModel", "bestEarned", "I", false)
  | 25 => ("PlaySeasonModel", "seedNow", "J", false)
  | 26 => ("PlaySeasonModel", "laidPlan", "[I", true)
  | 27 => ("PlaySeasonModel", "isKept", "Z", false)
  | 28 => ("PlaySeasonModel", "keptHouse", "I", false)
  | 29 => ("PlaySeasonModel", "keptTitles", "I", false)
  | 30 => ("PlaySeasonModel", "keptSeen", "I", false)
  | 31 => ("PlaySeasonModel", "keptKind", "[I", true)
  | 32 => ("PlaySeasonModel", "keptSet", "[I", true)
  | 33 => ("PlaySeasonModel", "keptCast", "[I", true)
  | 34 => ("PlaySeasonModel", "keptFirst", "[I", true)
  | 35 => ("PlaySeasonModel", "keptLast", "[I", true)
  | 36 => ("PlaySeasonModel", "keptFill", "[I", true)
  | 37 => ("PlaySeasonModel", "keptPlan", "[I", true)
  | 38 => ("PlaySeasonModel", "keptTitle", "[I", true)
  | 39 => ("PlaySeasonModel", "keptWhat", "[I", true)
  | 40 => ("PlaySeasonModel", "keptCould", "[I", true)
  | _ => ("PlaySeasonModel", "h", "J", false)
def tyX8 : Nat → FieldType := fun k => match k with
  | 0 => .int
  | 1 => .int
  | 2 => .array .int
  | 3 => .array .int
  | 4 => .array .int
  | 5 => .array .int
  | 6 => .array .int
  | 7 => .array .int
  | 8 => .array .int
  | 9 => .int
  | 10 => .int
  | 11 => .array .int
  | 12 => .array .int
  | 13 => .array .int
  | 14 => .int
  | 15 => .array .byte
  | 16 => .boolean
  | 17 => .boolean
  | 18 => .int
  | 19 => .array .int
  | 20 => .int
  | 21 => .array .int
  | 22 => .int
  | 23 => .int
  | 24 => .int
  | 25 => .long
  | 26 => .array .int
  | 27 => .boolean
  | 28 => .int
  | 29 => .int
  | 30 => .int
  | 31 => .array .int
  | 32 => .array .int
  | 33 => .array .int
  | 34 => .array .int
  | 35 => .array .int
  | 36 => .array .int
  | 37 => .array .int
  | 38 => .array .int
  | 39 => .array .int
  | 40 => .array .int
  | _ => .long
theorem nmX8 : ∀ a, a < 42 → ∀ b, b < 42 → a ≠ b → (TX8 a).2.1 ≠ (TX8 b).2.1 := by decide +kernel
theorem tyX8_ok : ∀ k, k < 42 → parseFieldDescriptor (TX8 k).2.2.1 = some (tyX8 k) := by decide +kernel
abbrev cX8_init : ByteArray := prog_10_method_1_code
def yX8_init : MethodName := ⟨RX8, "<init>", "()V"⟩
abbrev cX8_within : ByteArray := prog_10_method_3_code
def yX8_within : MethodName := ⟨RX8, "within", "(III)Z"⟩
abbrev cX8_isIn : ByteArray := prog_10_method_4_code
def yX8_isIn : MethodName := ⟨RX8, "isIn", "(II)Z"⟩
abbrev cX8_size : ByteArray := prog_10_method_5_code
def yX8_size : MethodName := ⟨RX8, "size", "(I)I"⟩
abbrev cX8_darken : ByteArray := prog_10_method_6_code
def yX8_darken : MethodName := ⟨RX8, "darken", "()V"⟩
abbrev cX8_letter : ByteArray := prog_10_method_7_code
def yX8_letter : MethodName := ⟨RX8, "letter", "(I)I"⟩
abbrev cX8_blank : ByteArray := prog_10_method_8_code
def yX8_blank : MethodName := ⟨RX8, "blank", "()I"⟩
abbrev cX8_kindBy : ByteArray := prog_10_method_9_code
def yX8_kindBy : MethodName := ⟨RX8, "kindBy", "(I)I"⟩
abbrev cX8_at : ByteArray := prog_10_method_10_code
def yX8_at : MethodName := ⟨RX8, "at", "(I)I"⟩
abbrev cX8_least : ByteArray := prog_10_method_11_code
def yX8_least : MethodName := ⟨RX8, "least", "(I)I"⟩
abbrev cX8_most : ByteArray := prog_10_method_12_code
def yX8_most : MethodName := ⟨RX8, "most", "(I)I"⟩
abbrev cX8_readTitle : ByteArray := prog_10_method_13_code
def yX8_readTitle : MethodName := ⟨RX8, "readTitle", "(I)I"⟩
abbrev cX8_read : ByteArray := prog_10_method_14_code
def yX8_read : MethodName := ⟨RX8, "read", "()I"⟩
abbrev cX8_fault : ByteArray := prog_10_method_15_code
def yX8_fault : MethodName := ⟨RX8, "fault", "()I"⟩
abbrev cX8_house : ByteArray := prog_10_method_16_code
def yX8_house : MethodName := ⟨RX8, "house", "()I"⟩
abbrev cX8_isTitle : ByteArray := prog_10_method_17_code
def yX8_isTitle : MethodName := ⟨RX8, "isTitle", "(I)Z"⟩
abbrev cX8_isNight : ByteArray := prog_10_method_18_code
def yX8_isNight : MethodName := ⟨RX8, "isNight", "(I)Z"⟩
abbrev cX8_plan : ByteArray := prog_10_method_19_code
def yX8_plan : MethodName := ⟨RX8, "plan", "()I"⟩
abbrev cX8_on : ByteArray := prog_10_method_20_code
def yX8_on : MethodName := ⟨RX8, "on", "(I)I"⟩
abbrev cX8_nightsOn : ByteArray := prog_10_method_21_code
def yX8_nightsOn : MethodName := ⟨RX8, "nightsOn", "()I"⟩
abbrev cX8_nightsOf : ByteArray := prog_10_method_22_code
def yX8_nightsOf : MethodName := ⟨RX8, "nightsOf", "(II)I"⟩
abbrev cX8_hasCast : ByteArray := prog_10_method_23_code
def yX8_hasCast : MethodName := ⟨RX8, "hasCast", "(II)Z"⟩
abbrev cX8_isCastBehind : ByteArray := prog_10_method_24_code
def yX8_isCastBehind : MethodName := ⟨RX8, "isCastBehind", "(II)Z"⟩
abbrev cX8_isGala : ByteArray := prog_10_method_25_code
def yX8_isGala : MethodName := ⟨RX8, "isGala", "(I)Z"⟩
abbrev cX8_breaksAt : ByteArray := prog_10_method_26_code
def yX8_breaksAt : MethodName := ⟨RX8, "breaksAt", "(I)I"⟩
abbrev cX8_draws : ByteArray := prog_10_method_27_code
def yX8_draws : MethodName := ⟨RX8, "draws", "(II)Z"⟩
abbrev cX8_seatsAt : ByteArray := prog_10_method_28_code
def yX8_seatsAt : MethodName := ⟨RX8, "seatsAt", "(I)I"⟩
abbrev cX8_breaks : ByteArray := prog_10_method_29_code
def yX8_breaks : MethodName := ⟨RX8, "breaks", "()I"⟩
abbrev cX8_lost : ByteArray := prog_10_method_30_code
def yX8_lost : MethodName := ⟨RX8, "lost", "()I"⟩
abbrev cX8_earned : ByteArray := prog_10_method_31_code
def yX8_earned : MethodName := ⟨RX8, "earned", "()I"⟩
abbrev cX8_titleNow : ByteArray := prog_10_method_32_code
def yX8_titleNow : MethodName := ⟨RX8, "titleNow", "(II)I"⟩
abbrev cX8_title : ByteArray := prog_10_method_33_code
def yX8_title : MethodName := ⟨RX8, "title", "(II)I"⟩
abbrev cX8_as : ByteArray := prog_10_method_34_code
def yX8_as : MethodName := ⟨RX8, "as", "(II)I"⟩
abbrev cX8_nightNow : ByteArray := prog_10_method_35_code
def yX8_nightNow : MethodName := ⟨RX8, "nightNow", "(II)I"⟩
abbrev cX8_night : ByteArray := prog_10_method_36_code
def yX8_night : MethodName := ⟨RX8, "night", "(II)I"⟩
abbrev cX8_play : ByteArray := prog_10_method_37_code
def yX8_play : MethodName := ⟨RX8, "play", "(II)I"⟩
abbrev cX8_delay : ByteArray := prog_10_method_38_code
def yX8_delay : MethodName := ⟨RX8, "delay", "(I)I"⟩
abbrev cX8_add : ByteArray := prog_10_method_39_code
def yX8_add : MethodName := ⟨RX8, "add", "(III)I"⟩
abbrev cX8_rights : ByteArray := prog_10_method_40_code
def yX8_rights : MethodName := ⟨RX8, "rights", "(III)I"⟩
abbrev cX8_be : ByteArray := prog_10_method_41_code
def yX8_be : MethodName := ⟨RX8, "be", "(II)I"⟩
abbrev cX8_darkOnes : ByteArray := prog_10_method_42_code
def yX8_darkOnes : MethodName := ⟨RX8, "darkOnes", "(II)I"⟩
abbrev cX8_layDarks : ByteArray := prog_10_method_43_code
def yX8_layDarks : MethodName := ⟨RX8, "layDarks", "(II)V"⟩
abbrev cX8_fillBy : ByteArray := prog_10_method_44_code
def yX8_fillBy : MethodName := ⟨RX8, "fillBy", "(I)V"⟩
abbrev cX8_findBest : ByteArray := prog_10_method_45_code
def yX8_findBest : MethodName := ⟨RX8, "findBest", "()V"⟩
abbrev cX8_bestNow : ByteArray := prog_10_method_46_code
def yX8_bestNow : MethodName := ⟨RX8, "bestNow", "(III)I"⟩
abbrev cX8_best : ByteArray := prog_10_method_47_code
def yX8_best : MethodName := ⟨RX8, "best", "(III)I"⟩
abbrev cX8_seatsOf : ByteArray := prog_10_method_48_code
def yX8_seatsOf : MethodName := ⟨RX8, "seatsOf", "(I)I"⟩
abbrev cX8_isAhead : ByteArray := prog_10_method_49_code
def yX8_isAhead : MethodName := ⟨RX8, "isAhead", "(II)Z"⟩
abbrev cX8_rankNow : ByteArray := prog_10_method_50_code
def yX8_rankNow : MethodName := ⟨RX8, "rankNow", "(I)I"⟩
abbrev cX8_rank : ByteArray := prog_10_method_51_code
def yX8_rank : MethodName := ⟨RX8, "rank", "(I)I"⟩
abbrev cX8_could : ByteArray := prog_10_method_52_code
def yX8_could : MethodName := ⟨RX8, "could", "(II)Z"⟩
abbrev cX8_see : ByteArray := prog_10_method_53_code
def yX8_see : MethodName := ⟨RX8, "see", "(IIZ)I"⟩
abbrev cX8_forget : ByteArray := prog_10_method_54_code
def yX8_forget : MethodName := ⟨RX8, "forget", "()I"⟩
abbrev cX8_sortsOf : ByteArray := prog_10_method_55_code
def yX8_sortsOf : MethodName := ⟨RX8, "sortsOf", "(I)I"⟩
abbrev cX8_askOf : ByteArray := prog_10_method_56_code
def yX8_askOf : MethodName := ⟨RX8, "askOf", "(I)I"⟩
abbrev cX8_draw : ByteArray := prog_10_method_57_code
def yX8_draw : MethodName := ⟨RX8, "draw", "(I)I"⟩
abbrev cX8_drawnNow : ByteArray := prog_10_method_58_code
def yX8_drawnNow : MethodName := ⟨RX8, "drawnNow", "(III)I"⟩
abbrev cX8_drawn : ByteArray := prog_10_method_59_code
def yX8_drawn : MethodName := ⟨RX8, "drawn", "(III)I"⟩
abbrev cX8_image : ByteArray := prog_10_method_60_code
def yX8_image : MethodName := ⟨RX8, "image", "()I"⟩
abbrev cX8_restore : ByteArray := prog_10_method_61_code
def yX8_restore : MethodName := ⟨RX8, "restore", "()I"⟩
abbrev cX8_unlike : ByteArray := prog_10_method_62_code
def yX8_unlike : MethodName := ⟨RX8, "unlike", "()I"⟩
abbrev cX8_howMany : ByteArray := prog_10_method_63_code
def yX8_howMany : MethodName := ⟨RX8, "howMany", "(I)I"⟩
abbrev cX8_count : ByteArray := prog_10_method_64_code
def yX8_count : MethodName := ⟨RX8, "count", "(I)I"⟩
abbrev cX8_mix : ByteArray := prog_10_method_65_code
def yX8_mix : MethodName := ⟨RX8, "mix", "(J)V"⟩
abbrev cX8_digest : ByteArray := prog_10_method_66_code
def yX8_digest : MethodName := ⟨RX8, "digest", "()J"⟩
def RJ11 : String := "java/lang/Character"
def TJ11 : u_T := fun k => match k with
  | _ => ("", "", "", false)
def tyJ11 : Nat → FieldType := fun k => match k with
  | _ => .int
theorem nmJ11 : ∀ a, a < 0 → ∀ b, b < 0 → a ≠ b → (TJ11 a).2.1 ≠ (TJ11 b).2.1 := by decide +kernel
theorem tyJ11_ok : ∀ k, k < 0 → parseFieldDescriptor (TJ11 k).2.2.1 = some (tyJ11 k) := by decide +kernel
abbrev cJ11_isValidCodePoint_9a6ad : ByteArray := prog_11_method_11_code
def yJ11_isValidCodePoint_9a6ad : MethodName := ⟨RJ11, "isValidCodePoint", "(I)Z"⟩
abbrev cJ11_highSurrogate_5068e : ByteArray := prog_11_method_28_code
def yJ11_highSurrogate_5068e : MethodName := ⟨RJ11, "highSurrogate", "(I)C"⟩
abbrev cJ11_lowSurrogate_5068e : ByteArray := prog_11_method_29_code
def yJ11_lowSurrogate_5068e : MethodName := ⟨RJ11, "lowSurrogate", "(I)C"⟩
def RJ6 : String := "java/lang/Integer"
def TJ6 : u_T := fun k => match k with
  | _ => ("", "", "", false)
def tyJ6 : Nat → FieldType := fun k => match k with
  | _ => .int
theorem nmJ6 : ∀ a, a < 0 → ∀ b, b < 0 → a ≠ b → (TJ6 a).2.1 ≠ (TJ6 b).2.1 := by decide +kernel
theorem tyJ6_ok : ∀ k, k < 0 → parseFieldDescriptor (TJ6 k).2.2.1 = some (tyJ6 k) := by decide +kernel
abbrev cJ6_bitCount_0f7a4 : ByteArray := prog_12_method_49_code
def yJ6_bitCount_0f7a4 : MethodName := ⟨RJ6, "bitCount", "(I)I"⟩
def RJ9 : String := "java/lang/Math"
def TJ9 : u_T := fun k => match k with
  | _ => ("", "", "", false)
def tyJ9 : Nat → FieldType := fun k => match k with
  | _ => .int
theorem nmJ9 : ∀ a, a < 0 → ∀ b, b < 0 → a ≠ b → (TJ9 a).2.1 ≠ (TJ9 b).2.1 := by decide +kernel
theorem tyJ9_ok : ∀ k, k < 0 → parseFieldDescriptor (TJ9 k).2.2.1 = some (tyJ9 k) := by decide +kernel
abbrev cJ9_max_7cf53 : ByteArray := prog_13_method_65_code
def yJ9_max_7cf53 : MethodName := ⟨RJ9, "max", "(II)I"⟩
abbrev cJ9_min_7cf53 : ByteArray := prog_13_method_69_code
def yJ9_min_7cf53 : MethodName := ⟨RJ9, "min", "(II)I"⟩
def RJ0 : String := "java/lang/String"
def TJ0 : u_T := fun k => match k with
  | _ => ("", "", "", false)
def tyJ0 : Nat → FieldType := fun k => match k with
  | _ => .int
theorem nmJ0 : ∀ a, a < 0 → ∀ b, b < 0 → a ≠ b → (TJ0 a).2.1 ≠ (TJ0 b).2.1 := by decide +kernel
theorem tyJ0_ok : ∀ k, k < 0 → parseFieldDescriptor (TJ0 k).2.2.1 = some (tyJ0 k) := by decide +kernel
abbrev cJ0_length_8abf5 : ByteArray := prog_14_method_54_code
def yJ0_length_8abf5 : MethodName := ⟨RJ0, "length", "()I"⟩
abbrev cJ0_indexOf_0f7a4 : ByteArray := prog_14_method_79_code
def yJ0_indexOf_0f7a4 : MethodName := ⟨RJ0, "indexOf", "(I)I"⟩
abbrev cJ0_indexOf_7cf53 : ByteArray := prog_14_method_80_code
def yJ0_indexOf_7cf53 : MethodName := ⟨RJ0, "indexOf", "(II)I"⟩
abbrev cJ0_coder_7d493 : ByteArray := prog_14_method_152_code
def yJ0_coder_7d493 : MethodName := ⟨RJ0, "coder", "()B"⟩
abbrev cJ0_isLatin1_aae02 : ByteArray := prog_14_method_154_code
def yJ0_isLatin1_aae02 : MethodName := ⟨RJ0, "isLatin1", "()Z"⟩
abbrev cJ0_checkBoundsBeginEnd_23922 : ByteArray := prog_14_method_158_code
def yJ0_checkBoundsBeginEnd_23922 : MethodName := ⟨RJ0, "checkBoundsBeginEnd", "(III)V"⟩
def RJ1 : String := "java/lang/StringLatin1"
def TJ1 : u_T := fun k => match k with
  | _ => ("", "", "", false)
def tyJ1 : Nat → FieldType := fun k => match k with
  | _ => .int
theorem nmJ1 : ∀ a, a < 0 → ∀ b, b < 0 → a ≠ b → (TJ1 a).2.1 ≠ (TJ1 b).2.1 := by decide +kernel
theorem tyJ1_ok : ∀ k, k < 0 → parseFieldDescriptor (TJ1 k).2.2.1 = some (tyJ1 k) := by decide +kernel
abbrev cJ1_canEncode_9a6ad : ByteArray := prog_15_method_4_code
def yJ1_canEncode_9a6ad : MethodName := ⟨RJ1, "canEncode", "(I)Z"⟩
abbrev cJ1_indexOf_4cfef : ByteArray := prog_15_method_22_code
def yJ1_indexOf_4cfef : MethodName := ⟨RJ1, "indexOf", "([BIII)I"⟩
abbrev cJ1_indexOfChar_4cfef : ByteArray := prog_15_method_23_code
def yJ1_indexOfChar_4cfef : MethodName := ⟨RJ1, "indexOfChar", "([BIII)I"⟩
def RJ2 : String := "java/lang/StringUTF16"
def TJ2 : u_T := fun k => match k with
  | _ => ("", "", "", false)
def tyJ2 : Nat → FieldType := fun k => match k with
  | _ => .int
theorem nmJ2 : ∀ a, a < 0 → ∀ b, b < 0 → a ≠ b → (TJ2 a).2.1 ≠ (TJ2 b).2.1 := by decide +kernel
theorem tyJ2_ok : ∀ k, k < 0 → parseFieldDescriptor (TJ2 k).2.2.1 = some (tyJ2 k) := by decide +kernel
abbrev cJ2_getChar_3b067 : ByteArray := prog_16_method_5_code
def yJ2_getChar_3b067 : MethodName := ⟨RJ2, "getChar", "([BI)C"⟩
abbrev cJ2_length_9d52b : ByteArray := prog_16_method_6_code
def yJ2_length_9d52b : MethodName := ⟨RJ2, "length", "([B)I"⟩
abbrev cJ2_indexOf_4cfef : ByteArray := prog_16_method_40_code
def yJ2_indexOf_4cfef : MethodName := ⟨RJ2, "indexOf", "([BIII)I"⟩
abbrev cJ2_indexOfChar_4cfef : ByteArray := prog_16_method_47_code
def yJ2_indexOfChar_4cfef : MethodName := ⟨RJ2, "indexOfChar", "([BIII)I"⟩
abbrev cJ2_indexOfCharUnsafe_4cfef : ByteArray := prog_16_method_48_code
def yJ2_indexOfCharUnsafe_4cfef : MethodName := ⟨RJ2, "indexOfCharUnsafe", "([BIII)I"⟩
abbrev cJ2_indexOfSupplementary_4cfef : ByteArray := prog_16_method_49_code
def yJ2_indexOfSupplementary_4cfef : MethodName := ⟨RJ2, "indexOfSupplementary", "([BIII)I"⟩
abbrev cJ2_checkBoundsBeginEnd_d044e : ByteArray := prog_16_method_93_code
def yJ2_checkBoundsBeginEnd_d044e : MethodName := ⟨RJ2, "checkBoundsBeginEnd", "(II[B)V"⟩
def RJ10 : String := "java/lang/System"
def TJ10 : u_T := fun k => match k with
  | _ => ("", "", "", false)
def tyJ10 : Nat → FieldType := fun k => match k with
  | _ => .int
theorem nmJ10 : ∀ a, a < 0 → ∀ b, b < 0 → a ≠ b → (TJ10 a).2.1 ≠ (TJ10 b).2.1 := by decide +kernel
theorem tyJ10_ok : ∀ k, k < 0 → parseFieldDescriptor (TJ10 k).2.2.1 = some (tyJ10 k) := by decide +kernel
def RJ7 : String := "java/util/Arrays"
def TJ7 : u_T := fun k => match k with
  | _ => ("", "", "", false)
def tyJ7 : Nat → FieldType := fun k => match k with
  | _ => .int
theorem nmJ7 : ∀ a, a < 0 → ∀ b, b < 0 → a ≠ b → (TJ7 a).2.1 ≠ (TJ7 b).2.1 := by decide +kernel
theorem tyJ7_ok : ∀ k, k < 0 → parseFieldDescriptor (TJ7 k).2.2.1 = some (tyJ7 k) := by decide +kernel
abbrev cJ7_fill_53178 : ByteArray := prog_18_method_103_code
def yJ7_fill_53178 : MethodName := ⟨RJ7, "fill", "([II)V"⟩
def RJ3 : String := "jdk/internal/util/Preconditions"
def TJ3 : u_T := fun k => match k with
  | _ => ("", "", "", false)
def tyJ3 : Nat → FieldType := fun k => match k with
  | _ => .int
theorem nmJ3 : ∀ a, a < 0 → ∀ b, b < 0 → a ≠ b → (TJ3 a).2.1 ≠ (TJ3 b).2.1 := by decide +kernel
theorem tyJ3_ok : ∀ k, k < 0 → parseFieldDescriptor (TJ3 k).2.2.1 = some (tyJ3 k) := by decide +kernel
abbrev cJ3_checkFromToIndex_8c36e : ByteArray := prog_19_method_12_code
def yJ3_checkFromToIndex_8c36e : MethodName := ⟨RJ3, "checkFromToIndex", "(IIILjava/util/function/BiFunction;)I"⟩
def RL : String := "PlaySeasonLaw"
abbrev cL_law : ByteArray := code
def yL_law : MethodName := ⟨RL, "law", "([I)Z"⟩
abbrev vwCl : List vw_C := [(RX0, TX0, 2), (RX1, TX1, 10), (RX2, TX2, 7), (RX3, TX3, 3), (RX4, TX4, 3), (RX5, TX5, 6), (RX6, TX6, 2), (RX7, TX7, 8), (RX8, TX8, 42)]
end
section
theorem dX0_init_0 : decode cX0_init 0 = .ok (.aload_n 0, 1) := by decide +kernel
theorem dX0_init_1 : decode cX0_init 1 = .ok (.invokespecial 5, 3) := by decide +kernel
theorem dX0_init_4 : decode cX0_init 4 = .ok (.aload_n 0, 1) := by decide +kernel
theorem dX0_init_5 : decode cX0_init 5 = .ok (.bipush 40, 2) := by decide +kernel
theorem dX0_init_7 : decode cX0_init 7 = .ok (.newarray .int, 2) := by decide +kernel
theorem dX0_init_9 : decode cX0_init 9 = .ok (.putfield 11, 3) := by decide +kernel
theorem dX0_init_12 : decode cX0_init 12 = .ok (.return_, 1) := by decide +kernel
theorem dX0_put_0 : decode cX0_put 0 = .ok (.aload_n 0, 1) := by decide +kernel
theorem dX0_put_1 : decode cX0_put 1 = .ok (.getfield 15, 3) := by decide +kernel
theorem dX0_put_4 : decode cX0_put 4 = .ok (.ifCond .lt 32, 3) := by decide +kernel
theorem dX0_put_7 : decode cX0_put 7 = .ok (.aload_n 0, 1) := by decide +kernel
theorem dX0_put_8 : decode cX0_put 8 = .ok (.getfield 15, 3) := by decide +kernel
theorem dX0_put_11 : decode cX0_put 11 = .ok (.bipush 40, 2) := by decide +kernel
theorem dX0_put_13 : decode cX0_put 13 = .ok (.if_icmp .ge 23, 3) := by decide +kernel
theorem dX0_put_16 : decode cX0_put 16 = .ok (.aload_n 0, 1) := by decide +kernel
theorem dX0_put_17 : decode cX0_put 17 = .ok (.getfield 11, 3) := by decide +kernel
theorem dX0_put_20 : decode cX0_put 20 = .ok (.aload_n 0, 1) := by decide +kernel
theorem dX0_put_21 : decode cX0_put 21 = .ok (.getfield 15, 3) := by decide +kernel
theorem dX0_put_24 : decode cX0_put 24 = .ok (.iload_n 1, 1) := by decide +kernel
theorem dX0_put_25 : decode cX0_put 25 = .ok (.iastore, 1) := by decide +kernel
theorem dX0_put_26 : decode cX0_put 26 = .ok (.aload_n 0, 1) := by decide +kernel
theorem dX0_put_27 : decode cX0_put 27 = .ok (.dup, 1) := by decide +kernel
theorem dX0_put_28 : decode cX0_put 28 = .ok (.getfield 15, 3) := by decide +kernel
theorem dX0_put_31 : decode cX0_put 31 = .ok (.iconst 1, 1) := by decide +kernel
theorem dX0_put_32 : decode cX0_put 32 = .ok (.iadd, 1) := by decide +kernel
theorem dX0_put_33 : decode cX0_put 33 = .ok (.putfield 15, 3) := by decide +kernel
theorem dX0_put_36 : decode cX0_put 36 = .ok (.return_, 1) := by decide +kernel
theorem dX0_firstFault_0 : decode cX0_firstFault 0 = .ok (.iconst 0, 1) := by decide +kernel
theorem dX0_firstFault_1 : decode cX0_firstFault 1 = .ok (.istore_n 1, 1) := by decide +kernel
theorem dX0_firstFault_2 : decode cX0_firstFault 2 = .ok (.iload_n 1, 1) := by decide +kernel
theorem dX0_firstFault_3 : decode cX0_firstFault 3 = .ok (.aload_n 0, 1) := by decide +kernel
theorem dX0_firstFault_4 : decode cX0_firstFault 4 = .ok (.getfield 15, 3) := by decide +kernel
theorem dX0_firstFault_7 : decode cX0_firstFault 7 = .ok (.if_icmp .ge 19, 3) := by decide +kernel
theorem dX0_firstFault_10 : decode cX0_firstFault 10 = .ok (.aload_n 0, 1) := by decide +kernel
theorem dX0_firstFault_11 : decode cX0_firstFault 11 = .ok (.iload_n 1, 1) := by decide +kernel
theorem dX0_firstFault_12 : decode cX0_firstFault 12 = .ok (.invokevirtual 19, 3) := by decide +kernel
theorem dX0_firstFault_15 : decode cX0_firstFault 15 = .ok (.ifCond .ne 5, 3) := by decide +kernel
theorem dX0_firstFault_18 : decode cX0_firstFault 18 = .ok (.iload_n 1, 1) := by decide +kernel
theorem dX0_firstFault_19 : decode cX0_firstFault 19 = .ok (.ireturn, 1) := by decide +kernel
theorem dX0_firstFault_20 : decode cX0_firstFault 20 = .ok (.iinc 1 1, 3) := by decide +kernel
theorem dX0_firstFault_23 : decode cX0_firstFault 23 = .ok (.goto (-21), 3) := by decide +kernel
theorem dX0_firstFault_26 : decode cX0_firstFault 26 = .ok (.aload_n 0, 1) := by decide +kernel
theorem dX0_firstFault_27 : decode cX0_firstFault 27 = .ok (.getfield 15, 3) := by decide +kernel
theorem dX0_firstFault_30 : decode cX0_firstFault 30 = .ok (.ireturn, 1) := by decide +kernel
theorem dX0_isHouse_0 : decode cX0_isHouse 0 = .ok (.aload_n 0, 1) := by decide +kernel
theorem dX0_isHouse_1 : decode cX0_isHouse 1 = .ok (.invokevirtual 23, 3) := by decide +kernel
theorem dX0_isHouse_4 : decode cX0_isHouse 4 = .ok (.aload_n 0, 1) := by decide +kernel
theorem dX0_isHouse_5 : decode cX0_isHouse 5 = .ok (.getfield 15, 3) := by decide +kernel
theorem dX0_isHouse_8 : decode cX0_isHouse 8 = .ok (.if_icmp .ne 19, 3) := by decide +kernel
theorem dX0_isHouse_11 : decode cX0_isHouse 11 = .ok (.aload_n 0, 1) := by decide +kernel
theorem dX0_isHouse_12 : decode cX0_isHouse 12 = .ok (.getfield 15, 3) := by decide +kernel
theorem dX0_isHouse_15 : decode cX0_isHouse 15 = .ok (.bipush 7, 2) := by decide +kernel
theorem dX0_isHouse_17 : decode cX0_isHouse 17 = .ok (.irem, 1) := by decide +kernel
theorem dX0_isHouse_18 : decode cX0_isHouse 18 = .ok (.bipush 6, 2) := by decide +kernel
theorem dX0_isHouse_20 : decode cX0_isHouse 20 = .ok (.if_icmp .ne 7, 3) := by decide +kernel
theorem dX0_isHouse_23 : decode cX0_isHouse 23 = .ok (.iconst 1, 1) := by decide +kernel
theorem dX0_isHouse_24 : decode cX0_isHouse 24 = .ok (.goto 4, 3) := by decide +kernel
theorem dX0_isHouse_27 : decode cX0_isHouse 27 = .ok (.iconst 0, 1) := by decide +kernel
theorem dX0_isHouse_28 : decode cX0_isHouse 28 = .ok (.ireturn, 1) := by decide +kernel
theorem dX0_isPlan_0 : decode cX0_isPlan 0 = .ok (.aload_n 0, 1) := by decide +kernel
theorem dX0_isPlan_1 : decode cX0_isPlan 1 = .ok (.getfield 15, 3) := by decide +kernel
theorem dX0_isPlan_4 : decode cX0_isPlan 4 = .ok (.bipush 12, 2) := by decide +kernel
theorem dX0_isPlan_6 : decode cX0_isPlan 6 = .ok (.if_icmp .eq 5, 3) := by decide +kernel
theorem dX0_isPlan_9 : decode cX0_isPlan 9 = .ok (.iconst 0, 1) := by decide +kernel
theorem dX0_isPlan_10 : decode cX0_isPlan 10 = .ok (.ireturn, 1) := by decide +kernel
theorem dX0_isPlan_11 : decode cX0_isPlan 11 = .ok (.iconst 0, 1) := by decide +kernel
theorem dX0_isPlan_12 : decode cX0_isPlan 12 = .ok (.istore_n 2, 1) := by decide +kernel
theorem dX0_isPlan_13 : decode cX0_isPlan 13 = .ok (.iload_n 2, 1) := by decide +kernel
theorem dX0_isPlan_14 : decode cX0_isPlan 14 = .ok (.bipush 12, 2) := by decide +kernel
theorem dX0_isPlan_16 : decode cX0_isPlan 16 = .ok (.if_icmp .ge 38, 3) := by decide +kernel
theorem dX0_isPlan_19 : decode cX0_isPlan 19 = .ok (.aload_n 0, 1) := by decide +kernel
theorem dX0_isPlan_20 : decode cX0_isPlan 20 = .ok (.getfield 11, 3) := by decide +kernel
theorem dX0_isPlan_23 : decode cX0_isPlan 23 = .ok (.iload_n 2, 1) := by decide +kernel
theorem dX0_isPlan_24 : decode cX0_isPlan 24 = .ok (.iaload, 1) := by decide +kernel
theorem dX0_isPlan_25 : decode cX0_isPlan 25 = .ok (.bipush 46, 2) := by decide +kernel
theorem dX0_isPlan_27 : decode cX0_isPlan 27 = .ok (.if_icmp .eq 21, 3) := by decide +kernel
theorem dX0_isPlan_30 : decode cX0_isPlan 30 = .ok (.aload_n 0, 1) := by decide +kernel
theorem dX0_isPlan_31 : decode cX0_isPlan 31 = .ok (.iload_n 2, 1) := by decide +kernel
theorem dX0_isPlan_32 : decode cX0_isPlan 32 = .ok (.bipush 48, 2) := by decide +kernel
theorem dX0_isPlan_34 : decode cX0_isPlan 34 = .ok (.bipush 48, 2) := by decide +kernel
theorem dX0_isPlan_36 : decode cX0_isPlan 36 = .ok (.iload_n 1, 1) := by decide +kernel
theorem dX0_isPlan_37 : decode cX0_isPlan 37 = .ok (.iadd, 1) := by decide +kernel
theorem dX0_isPlan_38 : decode cX0_isPlan 38 = .ok (.iconst 1, 1) := by decide +kernel
theorem dX0_isPlan_39 : decode cX0_isPlan 39 = .ok (.isub, 1) := by decide +kernel
theorem dX0_isPlan_40 : decode cX0_isPlan 40 = .ok (.invokevirtual 27, 3) := by decide +kernel
theorem dX0_isPlan_43 : decode cX0_isPlan 43 = .ok (.ifCond .ne 5, 3) := by decide +kernel
theorem dX0_isPlan_46 : decode cX0_isPlan 46 = .ok (.iconst 0, 1) := by decide +kernel
theorem dX0_isPlan_47 : decode cX0_isPlan 47 = .ok (.ireturn, 1) := by decide +kernel
theorem dX0_isPlan_48 : decode cX0_isPlan 48 = .ok (.iinc 2 1, 3) := by decide +kernel
theorem dX0_isPlan_51 : decode cX0_isPlan 51 = .ok (.goto (-38), 3) := by decide +kernel
theorem dX0_isPlan_54 : decode cX0_isPlan 54 = .ok (.iconst 1, 1) := by decide +kernel
theorem dX0_isPlan_55 : decode cX0_isPlan 55 = .ok (.ireturn, 1) := by decide +kernel
theorem dX0_fits_0 : decode cX0_fits 0 = .ok (.iload_n 1, 1) := by decide +kernel
theorem dX0_fits_1 : decode cX0_fits 1 = .ok (.ifCond .lt 9, 3) := by decide +kernel
theorem dX0_fits_4 : decode cX0_fits 4 = .ok (.iload_n 1, 1) := by decide +kernel
theorem dX0_fits_5 : decode cX0_fits 5 = .ok (.bipush 34, 2) := by decide +kernel
theorem dX0_fits_7 : decode cX0_fits 7 = .ok (.if_icmp .lt 5, 3) := by decide +kernel
theorem dX0_fits_10 : decode cX0_fits 10 = .ok (.iconst 0, 1) := by decide +kernel
theorem dX0_fits_11 : decode cX0_fits 11 = .ok (.ireturn, 1) := by decide +kernel
theorem dX0_fits_12 : decode cX0_fits 12 = .ok (.iload_n 1, 1) := by decide +kernel
theorem dX0_fits_13 : decode cX0_fits 13 = .ok (.bipush 7, 2) := by decide +kernel
theorem dX0_fits_15 : decode cX0_fits 15 = .ok (.irem, 1) := by decide +kernel
theorem dX0_fits_16 : decode cX0_fits 16 = .ok (.tableswitch 117 0 5 #[40, 61, 71, 81, 91, 107], 40) := by decide +kernel
theorem dX0_fits_56 : decode cX0_fits 56 = .ok (.ldc 31, 2) := by decide +kernel
theorem dX0_fits_58 : decode cX0_fits 58 = .ok (.aload_n 0, 1) := by decide +kernel
theorem dX0_fits_59 : decode cX0_fits 59 = .ok (.getfield 11, 3) := by decide +kernel
theorem dX0_fits_62 : decode cX0_fits 62 = .ok (.iload_n 1, 1) := by decide +kernel
theorem dX0_fits_63 : decode cX0_fits 63 = .ok (.iaload, 1) := by decide +kernel
theorem dX0_fits_64 : decode cX0_fits 64 = .ok (.i2c, 1) := by decide +kernel
theorem dX0_fits_65 : decode cX0_fits 65 = .ok (.invokevirtual 33, 3) := by decide +kernel
theorem dX0_fits_68 : decode cX0_fits 68 = .ok (.ifCond .lt 7, 3) := by decide +kernel
theorem dX0_fits_71 : decode cX0_fits 71 = .ok (.iconst 1, 1) := by decide +kernel
theorem dX0_fits_72 : decode cX0_fits 72 = .ok (.goto 4, 3) := by decide +kernel
theorem dX0_fits_75 : decode cX0_fits 75 = .ok (.iconst 0, 1) := by decide +kernel
theorem dX0_fits_76 : decode cX0_fits 76 = .ok (.ireturn, 1) := by decide +kernel
theorem dX0_fits_77 : decode cX0_fits 77 = .ok (.aload_n 0, 1) := by decide +kernel
theorem dX0_fits_78 : decode cX0_fits 78 = .ok (.iload_n 1, 1) := by decide +kernel
theorem dX0_fits_79 : decode cX0_fits 79 = .ok (.bipush 48, 2) := by decide +kernel
theorem dX0_fits_81 : decode cX0_fits 81 = .ok (.bipush 52, 2) := by decide +kernel
theorem dX0_fits_83 : decode cX0_fits 83 = .ok (.invokevirtual 27, 3) := by decide +kernel
theorem dX0_fits_86 : decode cX0_fits 86 = .ok (.ireturn, 1) := by decide +kernel
theorem dX0_fits_87 : decode cX0_fits 87 = .ok (.aload_n 0, 1) := by decide +kernel
theorem dX0_fits_88 : decode cX0_fits 88 = .ok (.iload_n 1, 1) := by decide +kernel
theorem dX0_fits_89 : decode cX0_fits 89 = .ok (.bipush 48, 2) := by decide +kernel
theorem dX0_fits_91 : decode cX0_fits 91 = .ok (.bipush 52, 2) := by decide +kernel
theorem dX0_fits_93 : decode cX0_fits 93 = .ok (.invokevirtual 27, 3) := by decide +kernel
theorem dX0_fits_96 : decode cX0_fits 96 = .ok (.ireturn, 1) := by decide +kernel
theorem dX0_fits_97 : decode cX0_fits 97 = .ok (.aload_n 0, 1) := by decide +kernel
theorem dX0_fits_98 : decode cX0_fits 98 = .ok (.iload_n 1, 1) := by decide +kernel
theorem dX0_fits_99 : decode cX0_fits 99 = .ok (.bipush 97, 2) := by decide +kernel
theorem dX0_fits_101 : decode cX0_fits 101 = .ok (.bipush 108, 2) := by decide +kernel
theorem dX0_fits_103 : decode cX0_fits 103 = .ok (.invokevirtual 27, 3) := by decide +kernel
theorem dX0_fits_106 : decode cX0_fits 106 = .ok (.ireturn, 1) := by decide +kernel
theorem dX0_fits_107 : decode cX0_fits 107 = .ok (.aload_n 0, 1) := by decide +kernel
theorem dX0_fits_108 : decode cX0_fits 108 = .ok (.iload_n 1, 1) := by decide +kernel
theorem dX0_fits_109 : decode cX0_fits 109 = .ok (.aload_n 0, 1) := by decide +kernel
theorem dX0_fits_110 : decode cX0_fits 110 = .ok (.getfield 11, 3) := by decide +kernel
theorem dX0_fits_113 : decode cX0_fits 113 = .ok (.iload_n 1, 1) := by decide +kernel
theorem dX0_fits_114 : decode cX0_fits 114 = .ok (.iconst 1, 1) := by decide +kernel
theorem dX0_fits_115 : decode cX0_fits 115 = .ok (.isub, 1) := by decide +kernel
theorem dX0_fits_116 : decode cX0_fits 116 = .ok (.iaload, 1) := by decide +kernel
theorem dX0_fits_117 : decode cX0_fits 117 = .ok (.bipush 108, 2) := by decide +kernel
theorem dX0_fits_119 : decode cX0_fits 119 = .ok (.invokevirtual 27, 3) := by decide +kernel
theorem dX0_fits_122 : decode cX0_fits 122 = .ok (.ireturn, 1) := by decide +kernel
theorem dX0_fits_123 : decode cX0_fits 123 = .ok (.aload_n 0, 1) := by decide +kernel
theorem dX0_fits_124 : decode cX0_fits 124 = .ok (.iload_n 1, 1) := by decide +kernel
theorem dX0_fits_125 : decode cX0_fits 125 = .ok (.bipush 49, 2) := by decide +kernel
theorem dX0_fits_127 : decode cX0_fits 127 = .ok (.bipush 57, 2) := by decide +kernel
theorem dX0_fits_129 : decode cX0_fits 129 = .ok (.invokevirtual 27, 3) := by decide +kernel
theorem dX0_fits_132 : decode cX0_fits 132 = .ok (.ireturn, 1) := by decide +kernel
theorem dX0_fits_133 : decode cX0_fits 133 = .ok (.aload_n 0, 1) := by decide +kernel
theorem dX0_fits_134 : decode cX0_fits 134 = .ok (.getfield 11, 3) := by decide +kernel
theorem dX0_fits_137 : decode cX0_fits 137 = .ok (.iload_n 1, 1) := by decide +kernel
theorem dX0_fits_138 : decode cX0_fits 138 = .ok (.iaload, 1) := by decide +kernel
theorem dX0_fits_139 : decode cX0_fits 139 = .ok (.bipush 44, 2) := by decide +kernel
theorem dX0_fits_141 : decode cX0_fits 141 = .ok (.if_icmp .ne 7, 3) := by decide +kernel
theorem dX0_fits_144 : decode cX0_fits 144 = .ok (.iconst 1, 1) := by decide +kernel
theorem dX0_fits_145 : decode cX0_fits 145 = .ok (.goto 4, 3) := by decide +kernel
theorem dX0_fits_148 : decode cX0_fits 148 = .ok (.iconst 0, 1) := by decide +kernel
theorem dX0_fits_149 : decode cX0_fits 149 = .ok (.ireturn, 1) := by decide +kernel
theorem dX0_isWithin_0 : decode cX0_isWithin 0 = .ok (.aload_n 0, 1) := by decide +kernel
theorem dX0_isWithin_1 : decode cX0_isWithin 1 = .ok (.getfield 11, 3) := by decide +kernel
theorem dX0_isWithin_4 : decode cX0_isWithin 4 = .ok (.iload_n 1, 1) := by decide +kernel
theorem dX0_isWithin_5 : decode cX0_isWithin 5 = .ok (.iaload, 1) := by decide +kernel
theorem dX0_isWithin_6 : decode cX0_isWithin 6 = .ok (.iload_n 2, 1) := by decide +kernel
theorem dX0_isWithin_7 : decode cX0_isWithin 7 = .ok (.if_icmp .lt 17, 3) := by decide +kernel
theorem dX0_isWithin_10 : decode cX0_isWithin 10 = .ok (.aload_n 0, 1) := by decide +kernel
theorem dX0_isWithin_11 : decode cX0_isWithin 11 = .ok (.getfield 11, 3) := by decide +kernel
theorem dX0_isWithin_14 : decode cX0_isWithin 14 = .ok (.iload_n 1, 1) := by decide +kernel
theorem dX0_isWithin_15 : decode cX0_isWithin 15 = .ok (.iaload, 1) := by decide +kernel
theorem dX0_isWithin_16 : decode cX0_isWithin 16 = .ok (.iload_n 3, 1) := by decide +kernel
theorem dX0_isWithin_17 : decode cX0_isWithin 17 = .ok (.if_icmp .gt 7, 3) := by decide +kernel
theorem dX0_isWithin_20 : decode cX0_isWithin 20 = .ok (.iconst 1, 1) := by decide +kernel
theorem dX0_isWithin_21 : decode cX0_isWithin 21 = .ok (.goto 4, 3) := by decide +kernel
theorem dX0_isWithin_24 : decode cX0_isWithin 24 = .ok (.iconst 0, 1) := by decide +kernel
theorem dX0_isWithin_25 : decode cX0_isWithin 25 = .ok (.ireturn, 1) := by decide +kernel
theorem dX1_init_0 : decode cX1_init 0 = .ok (.aload_n 0, 1) := by decide +kernel
theorem dX1_init_1 : decode cX1_init 1 = .ok (.invokespecial 3, 3) := by decide +kernel
theorem dX1_init_4 : decode cX1_init 4 = .ok (.aload_n 0, 1) := by decide +kernel
theorem dX1_init_5 : decode cX1_init 5 = .ok (.bipush 12, 2) := by decide +kernel
theorem dX1_init_7 : decode cX1_init 7 = .ok (.newarray .int, 2) := by decide +kernel
theorem dX1_init_9 : decode cX1_init 9 = .ok (.putfield 9, 3) := by decide +kernel
theorem dX1_init_12 : decode cX1_init 12 = .ok (.aload_n 0, 1) := by decide +kernel
theorem dX1_init_13 : decode cX1_init 13 = .ok (.bipush 12, 2) := by decide +kernel
theorem dX1_init_15 : decode cX1_init 15 = .ok (.newarray .int, 2) := by decide +kernel
theorem dX1_init_17 : decode cX1_init 17 = .ok (.putfield 15, 3) := by decide +kernel
theorem dX1_init_20 : decode cX1_init 20 = .ok (.aload_n 0, 1) := by decide +kernel
theorem dX1_init_21 : decode cX1_init 21 = .ok (.bipush 12, 2) := by decide +kernel
theorem dX1_init_23 : decode cX1_init 23 = .ok (.newarray .int, 2) := by decide +kernel
theorem dX1_init_25 : decode cX1_init 25 = .ok (.putfield 18, 3) := by decide +kernel
theorem dX1_init_28 : decode cX1_init 28 = .ok (.aload_n 0, 1) := by decide +kernel
theorem dX1_init_29 : decode cX1_init 29 = .ok (.iconst 5, 1) := by decide +kernel
theorem dX1_init_30 : decode cX1_init 30 = .ok (.newarray .int, 2) := by decide +kernel
theorem dX1_init_32 : decode cX1_init 32 = .ok (.putfield 21, 3) := by decide +kernel
theorem dX1_init_35 : decode cX1_init 35 = .ok (.aload_n 0, 1) := by decide +kernel
theorem dX1_init_36 : decode cX1_init 36 = .ok (.iconst 5, 1) := by decide +kernel
theorem dX1_init_37 : decode cX1_init 37 = .ok (.newarray .int, 2) := by decide +kernel
theorem dX1_init_39 : decode cX1_init 39 = .ok (.putfield 24, 3) := by decide +kernel
theorem dX1_init_42 : decode cX1_init 42 = .ok (.aload_n 0, 1) := by decide +kernel
theorem dX1_init_43 : decode cX1_init 43 = .ok (.iconst 5, 1) := by decide +kernel
theorem dX1_init_44 : decode cX1_init 44 = .ok (.newarray .int, 2) := by decide +kernel
theorem dX1_init_46 : decode cX1_init 46 = .ok (.putfield 27, 3) := by decide +kernel
theorem dX1_init_49 : decode cX1_init 49 = .ok (.aload_n 0, 1) := by decide +kernel
theorem dX1_init_50 : decode cX1_init 50 = .ok (.aload_n 1, 1) := by decide +kernel
theorem dX1_init_51 : decode cX1_init 51 = .ok (.putfield 30, 3) := by decide +kernel
theorem dX1_init_54 : decode cX1_init 54 = .ok (.aload_n 0, 1) := by decide +kernel
theorem dX1_init_55 : decode cX1_init 55 = .ok (.getfield 9, 3) := by decide +kernel
theorem dX1_init_58 : decode cX1_init 58 = .ok (.iconst (-1), 1) := by decide +kernel
theorem dX1_init_59 : decode cX1_init 59 = .ok (.invokestatic 34, 3) := by decide +kernel
theorem dX1_init_62 : decode cX1_init 62 = .ok (.aload_n 0, 1) := by decide +kernel
theorem dX1_init_63 : decode cX1_init 63 = .ok (.bipush 12, 2) := by decide +kernel
theorem dX1_init_65 : decode cX1_init 65 = .ok (.putfield 40, 3) := by decide +kernel
theorem dX1_init_68 : decode cX1_init 68 = .ok (.return_, 1) := by decide +kernel
theorem dX1_darken_0 : decode cX1_darken 0 = .ok (.aload_n 0, 1) := by decide +kernel
theorem dX1_darken_1 : decode cX1_darken 1 = .ok (.getfield 9, 3) := by decide +kernel
theorem dX1_darken_4 : decode cX1_darken 4 = .ok (.iconst (-1), 1) := by decide +kernel
theorem dX1_darken_5 : decode cX1_darken 5 = .ok (.invokestatic 34, 3) := by decide +kernel
theorem dX1_darken_8 : decode cX1_darken 8 = .ok (.aload_n 0, 1) := by decide +kernel
theorem dX1_darken_9 : decode cX1_darken 9 = .ok (.invokevirtual 44, 3) := by decide +kernel
theorem dX1_darken_12 : decode cX1_darken 12 = .ok (.return_, 1) := by decide +kernel
theorem dX1_read_0 : decode cX1_read 0 = .ok (.iconst 0, 1) := by decide +kernel
theorem dX1_read_1 : decode cX1_read 1 = .ok (.istore_n 2, 1) := by decide +kernel
theorem dX1_read_2 : decode cX1_read 2 = .ok (.iload_n 2, 1) := by decide +kernel
theorem dX1_read_3 : decode cX1_read 3 = .ok (.bipush 12, 2) := by decide +kernel
theorem dX1_read_5 : decode cX1_read 5 = .ok (.if_icmp .ge 39, 3) := by decide +kernel
theorem dX1_read_8 : decode cX1_read 8 = .ok (.aload_n 0, 1) := by decide +kernel
theorem dX1_read_9 : decode cX1_read 9 = .ok (.getfield 9, 3) := by decide +kernel
theorem dX1_read_12 : decode cX1_read 12 = .ok (.iload_n 2, 1) := by decide +kernel
theorem dX1_read_13 : decode cX1_read 13 = .ok (.aload_n 1, 1) := by decide +kernel
theorem dX1_read_14 : decode cX1_read 14 = .ok (.getfield 47, 3) := by decide +kernel
theorem dX1_read_17 : decode cX1_read 17 = .ok (.iload_n 2, 1) := by decide +kernel
theorem dX1_read_18 : decode cX1_read 18 = .ok (.iaload, 1) := by decide +kernel
theorem dX1_read_19 : decode cX1_read 19 = .ok (.bipush 46, 2) := by decide +kernel
theorem dX1_read_21 : decode cX1_read 21 = .ok (.if_icmp .ne 7, 3) := by decide +kernel
theorem dX1_read_24 : decode cX1_read 24 = .ok (.iconst (-1), 1) := by decide +kernel
theorem dX1_read_25 : decode cX1_read 25 = .ok (.goto 12, 3) := by decide +kernel
theorem dX1_read_28 : decode cX1_read 28 = .ok (.aload_n 1, 1) := by decide +kernel
theorem dX1_read_29 : decode cX1_read 29 = .ok (.getfield 47, 3) := by decide +kernel
theorem dX1_read_32 : decode cX1_read 32 = .ok (.iload_n 2, 1) := by decide +kernel
theorem dX1_read_33 : decode cX1_read 33 = .ok (.iaload, 1) := by decide +kernel
theorem dX1_read_34 : decode cX1_read 34 = .ok (.bipush 48, 2) := by decide +kernel
theorem dX1_read_36 : decode cX1_read 36 = .ok (.isub, 1) := by decide +kernel
theorem dX1_read_37 : decode cX1_read 37 = .ok (.iastore, 1) := by decide +kernel
theorem dX1_read_38 : decode cX1_read 38 = .ok (.iinc 2 1, 3) := by decide +kernel
theorem dX1_read_41 : decode cX1_read 41 = .ok (.goto (-39), 3) := by decide +kernel
theorem dX1_read_44 : decode cX1_read 44 = .ok (.aload_n 0, 1) := by decide +kernel
theorem dX1_read_45 : decode cX1_read 45 = .ok (.invokevirtual 44, 3) := by decide +kernel
theorem dX1_read_48 : decode cX1_read 48 = .ok (.return_, 1) := by decide +kernel
theorem dX1_take_0 : decode cX1_take 0 = .ok (.aload_n 1, 1) := by decide +kernel
theorem dX1_take_1 : decode cX1_take 1 = .ok (.iconst 0, 1) := by decide +kernel
theorem dX1_take_2 : decode cX1_take 2 = .ok (.aload_n 0, 1) := by decide +kernel
theorem dX1_take_3 : decode cX1_take 3 = .ok (.getfield 9, 3) := by decide +kernel
theorem dX1_take_6 : decode cX1_take 6 = .ok (.iconst 0, 1) := by decide +kernel
theorem dX1_take_7 : decode cX1_take 7 = .ok (.bipush 12, 2) := by decide +kernel
theorem dX1_take_9 : decode cX1_take 9 = .ok (.invokestatic 52, 3) := by decide +kernel
theorem dX1_take_12 : decode cX1_take 12 = .ok (.aload_n 0, 1) := by decide +kernel
theorem dX1_take_13 : decode cX1_take 13 = .ok (.invokevirtual 44, 3) := by decide +kernel
theorem dX1_take_16 : decode cX1_take 16 = .ok (.return_, 1) := by decide +kernel
theorem dX1_shift_0 : decode cX1_shift 0 = .ok (.bipush 11, 2) := by decide +kernel
theorem dX1_shift_2 : decode cX1_shift 2 = .ok (.istore_n 2, 1) := by decide +kernel
theorem dX1_shift_3 : decode cX1_shift 3 = .ok (.iload_n 2, 1) := by decide +kernel
theorem dX1_shift_4 : decode cX1_shift 4 = .ok (.ifCond .lt 36, 3) := by decide +kernel
theorem dX1_shift_7 : decode cX1_shift 7 = .ok (.iload_n 2, 1) := by decide +kernel
theorem dX1_shift_8 : decode cX1_shift 8 = .ok (.iload_n 1, 1) := by decide +kernel
theorem dX1_shift_9 : decode cX1_shift 9 = .ok (.isub, 1) := by decide +kernel
theorem dX1_shift_10 : decode cX1_shift 10 = .ok (.istore_n 3, 1) := by decide +kernel
theorem dX1_shift_11 : decode cX1_shift 11 = .ok (.aload_n 0, 1) := by decide +kernel
theorem dX1_shift_12 : decode cX1_shift 12 = .ok (.getfield 9, 3) := by decide +kernel
theorem dX1_shift_15 : decode cX1_shift 15 = .ok (.iload_n 2, 1) := by decide +kernel
theorem dX1_shift_16 : decode cX1_shift 16 = .ok (.iload_n 3, 1) := by decide +kernel
theorem dX1_shift_17 : decode cX1_shift 17 = .ok (.invokestatic 58, 3) := by decide +kernel
theorem dX1_shift_20 : decode cX1_shift 20 = .ok (.ifCond .eq 12, 3) := by decide +kernel
theorem dX1_shift_23 : decode cX1_shift 23 = .ok (.aload_n 0, 1) := by decide +kernel
theorem dX1_shift_24 : decode cX1_shift 24 = .ok (.getfield 9, 3) := by decide +kernel
theorem dX1_shift_27 : decode cX1_shift 27 = .ok (.iload_n 3, 1) := by decide +kernel
theorem dX1_shift_28 : decode cX1_shift 28 = .ok (.iaload, 1) := by decide +kernel
theorem dX1_shift_29 : decode cX1_shift 29 = .ok (.goto 4, 3) := by decide +kernel
theorem dX1_shift_32 : decode cX1_shift 32 = .ok (.iconst (-1), 1) := by decide +kernel
theorem dX1_shift_33 : decode cX1_shift 33 = .ok (.iastore, 1) := by decide +kernel
theorem dX1_shift_34 : decode cX1_shift 34 = .ok (.iinc 2 (-1), 3) := by decide +kernel
theorem dX1_shift_37 : decode cX1_shift 37 = .ok (.goto (-34), 3) := by decide +kernel
theorem dX1_shift_40 : decode cX1_shift 40 = .ok (.aload_n 0, 1) := by decide +kernel
theorem dX1_shift_41 : decode cX1_shift 41 = .ok (.invokevirtual 44, 3) := by decide +kernel
theorem dX1_shift_44 : decode cX1_shift 44 = .ok (.return_, 1) := by decide +kernel
theorem dX1_drawAll_0 : decode cX1_drawAll 0 = .ok (.iload_n 1, 1) := by decide +kernel
theorem dX1_drawAll_1 : decode cX1_drawAll 1 = .ok (.i2l, 1) := by decide +kernel
theorem dX1_drawAll_2 : decode cX1_drawAll 2 = .ok (.lstore_n 2, 1) := by decide +kernel
theorem dX1_drawAll_3 : decode cX1_drawAll 3 = .ok (.iconst 0, 1) := by decide +kernel
theorem dX1_drawAll_4 : decode cX1_drawAll 4 = .ok (.istore 4, 2) := by decide +kernel
theorem dX1_drawAll_6 : decode cX1_drawAll 6 = .ok (.iload 4, 2) := by decide +kernel
theorem dX1_drawAll_8 : decode cX1_drawAll 8 = .ok (.bipush 12, 2) := by decide +kernel
theorem dX1_drawAll_10 : decode cX1_drawAll 10 = .ok (.if_icmp .ge 49, 3) := by decide +kernel
theorem dX1_drawAll_13 : decode cX1_drawAll 13 = .ok (.ldc2_w 62, 3) := by decide +kernel
theorem dX1_drawAll_16 : decode cX1_drawAll 16 = .ok (.lload_n 2, 1) := by decide +kernel
theorem dX1_drawAll_17 : decode cX1_drawAll 17 = .ok (.lmul, 1) := by decide +kernel
theorem dX1_drawAll_18 : decode cX1_drawAll 18 = .ok (.ldc2_w 64, 3) := by decide +kernel
theorem dX1_drawAll_21 : decode cX1_drawAll 21 = .ok (.ladd, 1) := by decide +kernel
theorem dX1_drawAll_22 : decode cX1_drawAll 22 = .ok (.ldc2_w 66, 3) := by decide +kernel
theorem dX1_drawAll_25 : decode cX1_drawAll 25 = .ok (.lrem, 1) := by decide +kernel
theorem dX1_drawAll_26 : decode cX1_drawAll 26 = .ok (.lstore_n 2, 1) := by decide +kernel
theorem dX1_drawAll_27 : decode cX1_drawAll 27 = .ok (.aload_n 0, 1) := by decide +kernel
theorem dX1_drawAll_28 : decode cX1_drawAll 28 = .ok (.getfield 9, 3) := by decide +kernel
theorem dX1_drawAll_31 : decode cX1_drawAll 31 = .ok (.iload 4, 2) := by decide +kernel
theorem dX1_drawAll_33 : decode cX1_drawAll 33 = .ok (.lload_n 2, 1) := by decide +kernel
theorem dX1_drawAll_34 : decode cX1_drawAll 34 = .ok (.ldc2_w 68, 3) := by decide +kernel
theorem dX1_drawAll_37 : decode cX1_drawAll 37 = .ok (.ldiv, 1) := by decide +kernel
theorem dX1_drawAll_38 : decode cX1_drawAll 38 = .ok (.aload_n 0, 1) := by decide +kernel
theorem dX1_drawAll_39 : decode cX1_drawAll 39 = .ok (.getfield 30, 3) := by decide +kernel
theorem dX1_drawAll_42 : decode cX1_drawAll 42 = .ok (.getfield 70, 3) := by decide +kernel
theorem dX1_drawAll_45 : decode cX1_drawAll 45 = .ok (.iconst 1, 1) := by decide +kernel
theorem dX1_drawAll_46 : decode cX1_drawAll 46 = .ok (.iadd, 1) := by decide +kernel
theorem dX1_drawAll_47 : decode cX1_drawAll 47 = .ok (.i2l, 1) := by decide +kernel
theorem dX1_drawAll_48 : decode cX1_drawAll 48 = .ok (.lrem, 1) := by decide +kernel
theorem dX1_drawAll_49 : decode cX1_drawAll 49 = .ok (.l2i, 1) := by decide +kernel
theorem dX1_drawAll_50 : decode cX1_drawAll 50 = .ok (.iconst 1, 1) := by decide +kernel
theorem dX1_drawAll_51 : decode cX1_drawAll 51 = .ok (.isub, 1) := by decide +kernel
theorem dX1_drawAll_52 : decode cX1_drawAll 52 = .ok (.iastore, 1) := by decide +kernel
theorem dX1_drawAll_53 : decode cX1_drawAll 53 = .ok (.iinc 4 1, 3) := by decide +kernel
theorem dX1_drawAll_56 : decode cX1_drawAll 56 = .ok (.goto (-50), 3) := by decide +kernel
theorem dX1_drawAll_59 : decode cX1_drawAll 59 = .ok (.aload_n 0, 1) := by decide +kernel
theorem dX1_drawAll_60 : decode cX1_drawAll 60 = .ok (.invokevirtual 44, 3) := by decide +kernel
theorem dX1_drawAll_63 : decode cX1_drawAll 63 = .ok (.lload_n 2, 1) := by decide +kernel
theorem dX1_drawAll_64 : decode cX1_drawAll 64 = .ok (.l2i, 1) := by decide +kernel
theorem dX1_drawAll_65 : decode cX1_drawAll 65 = .ok (.ireturn, 1) := by decide +kernel
theorem dX1_darkWithin_0 : decode cX1_darkWithin 0 = .ok (.iconst 0, 1) := by decide +kernel
theorem dX1_darkWithin_1 : decode cX1_darkWithin 1 = .ok (.istore_n 3, 1) := by decide +kernel
theorem dX1_darkWithin_2 : decode cX1_darkWithin 2 = .ok (.iload_n 1, 1) := by decide +kernel
theorem dX1_darkWithin_3 : decode cX1_darkWithin 3 = .ok (.istore 4, 2) := by decide +kernel
theorem dX1_darkWithin_5 : decode cX1_darkWithin 5 = .ok (.iload 4, 2) := by decide +kernel
theorem dX1_darkWithin_7 : decode cX1_darkWithin 7 = .ok (.iload_n 2, 1) := by decide +kernel
theorem dX1_darkWithin_8 : decode cX1_darkWithin 8 = .ok (.if_icmp .gt 33, 3) := by decide +kernel
theorem dX1_darkWithin_11 : decode cX1_darkWithin 11 = .ok (.iload 4, 2) := by decide +kernel
theorem dX1_darkWithin_13 : decode cX1_darkWithin 13 = .ok (.bipush 12, 2) := by decide +kernel
theorem dX1_darkWithin_15 : decode cX1_darkWithin 15 = .ok (.if_icmp .ge 26, 3) := by decide +kernel
theorem dX1_darkWithin_18 : decode cX1_darkWithin 18 = .ok (.iload_n 3, 1) := by decide +kernel
theorem dX1_darkWithin_19 : decode cX1_darkWithin 19 = .ok (.aload_n 0, 1) := by decide +kernel
theorem dX1_darkWithin_20 : decode cX1_darkWithin 20 = .ok (.iload 4, 2) := by decide +kernel
theorem dX1_darkWithin_22 : decode cX1_darkWithin 22 = .ok (.invokevirtual 75, 3) := by decide +kernel
theorem dX1_darkWithin_25 : decode cX1_darkWithin 25 = .ok (.ifCond .eq 7, 3) := by decide +kernel
theorem dX1_darkWithin_28 : decode cX1_darkWithin 28 = .ok (.iconst 1, 1) := by decide +kernel
theorem dX1_darkWithin_29 : decode cX1_darkWithin 29 = .ok (.goto 4, 3) := by decide +kernel
theorem dX1_darkWithin_32 : decode cX1_darkWithin 32 = .ok (.iconst 0, 1) := by decide +kernel
theorem dX1_darkWithin_33 : decode cX1_darkWithin 33 = .ok (.iadd, 1) := by decide +kernel
theorem dX1_darkWithin_34 : decode cX1_darkWithin 34 = .ok (.istore_n 3, 1) := by decide +kernel
theorem dX1_darkWithin_35 : decode cX1_darkWithin 35 = .ok (.iinc 4 1, 3) := by decide +kernel
theorem dX1_darkWithin_38 : decode cX1_darkWithin 38 = .ok (.goto (-33), 3) := by decide +kernel
theorem dX1_darkWithin_41 : decode cX1_darkWithin 41 = .ok (.iload_n 3, 1) := by decide +kernel
theorem dX1_darkWithin_42 : decode cX1_darkWithin 42 = .ok (.ireturn, 1) := by decide +kernel
theorem dX1_isDark_0 : decode cX1_isDark 0 = .ok (.aload_n 0, 1) := by decide +kernel
theorem dX1_isDark_1 : decode cX1_isDark 1 = .ok (.iload_n 1, 1) := by decide +kernel
theorem dX1_isDark_2 : decode cX1_isDark 2 = .ok (.invokevirtual 78, 3) := by decide +kernel
theorem dX1_isDark_5 : decode cX1_isDark 5 = .ok (.iconst (-1), 1) := by decide +kernel
theorem dX1_isDark_6 : decode cX1_isDark 6 = .ok (.if_icmp .ne 7, 3) := by decide +kernel
theorem dX1_isDark_9 : decode cX1_isDark 9 = .ok (.iconst 1, 1) := by decide +kernel
theorem dX1_isDark_10 : decode cX1_isDark 10 = .ok (.goto 4, 3) := by decide +kernel
theorem dX1_isDark_13 : decode cX1_isDark 13 = .ok (.iconst 0, 1) := by decide +kernel
theorem dX1_isDark_14 : decode cX1_isDark 14 = .ok (.ireturn, 1) := by decide +kernel
theorem dX1_lit_0 : decode cX1_lit 0 = .ok (.bipush 12, 2) := by decide +kernel
theorem dX1_lit_2 : decode cX1_lit 2 = .ok (.aload_n 0, 1) := by decide +kernel
theorem dX1_lit_3 : decode cX1_lit 3 = .ok (.iconst 0, 1) := by decide +kernel
theorem dX1_lit_4 : decode cX1_lit 4 = .ok (.bipush 11, 2) := by decide +kernel
theorem dX1_lit_6 : decode cX1_lit 6 = .ok (.invokevirtual 82, 3) := by decide +kernel
theorem dX1_lit_9 : decode cX1_lit 9 = .ok (.isub, 1) := by decide +kernel
theorem dX1_lit_10 : decode cX1_lit 10 = .ok (.ireturn, 1) := by decide +kernel
theorem dX1_timesOf_0 : decode cX1_timesOf 0 = .ok (.iload_n 1, 1) := by decide +kernel
theorem dX1_timesOf_1 : decode cX1_timesOf 1 = .ok (.ifCond .lt 17, 3) := by decide +kernel
theorem dX1_timesOf_4 : decode cX1_timesOf 4 = .ok (.iload_n 1, 1) := by decide +kernel
theorem dX1_timesOf_5 : decode cX1_timesOf 5 = .ok (.iconst 5, 1) := by decide +kernel
theorem dX1_timesOf_6 : decode cX1_timesOf 6 = .ok (.if_icmp .ge 12, 3) := by decide +kernel
theorem dX1_timesOf_9 : decode cX1_timesOf 9 = .ok (.aload_n 0, 1) := by decide +kernel
theorem dX1_timesOf_10 : decode cX1_timesOf 10 = .ok (.getfield 21, 3) := by decide +kernel
theorem dX1_timesOf_13 : decode cX1_timesOf 13 = .ok (.iload_n 1, 1) := by decide +kernel
theorem dX1_timesOf_14 : decode cX1_timesOf 14 = .ok (.iaload, 1) := by decide +kernel
theorem dX1_timesOf_15 : decode cX1_timesOf 15 = .ok (.goto 4, 3) := by decide +kernel
theorem dX1_timesOf_18 : decode cX1_timesOf 18 = .ok (.iconst 0, 1) := by decide +kernel
theorem dX1_timesOf_19 : decode cX1_timesOf 19 = .ok (.ireturn, 1) := by decide +kernel
theorem dX1_unlike_0 : decode cX1_unlike 0 = .ok (.iconst 0, 1) := by decide +kernel
theorem dX1_unlike_1 : decode cX1_unlike 1 = .ok (.istore_n 1, 1) := by decide +kernel
theorem dX1_unlike_2 : decode cX1_unlike 2 = .ok (.iconst 0, 1) := by decide +kernel
theorem dX1_unlike_3 : decode cX1_unlike 3 = .ok (.istore_n 2, 1) := by decide +kernel
theorem dX1_unlike_4 : decode cX1_unlike 4 = .ok (.iload_n 2, 1) := by decide +kernel
theorem dX1_unlike_5 : decode cX1_unlike 5 = .ok (.iconst 5, 1) := by decide +kernel
theorem dX1_unlike_6 : decode cX1_unlike 6 = .ok (.if_icmp .ge 26, 3) := by decide +kernel
theorem dX1_unlike_9 : decode cX1_unlike 9 = .ok (.iload_n 1, 1) := by decide +kernel
theorem dX1_unlike_10 : decode cX1_unlike 10 = .ok (.aload_n 0, 1) := by decide +kernel
theorem dX1_unlike_11 : decode cX1_unlike 11 = .ok (.getfield 21, 3) := by decide +kernel
theorem dX1_unlike_14 : decode cX1_unlike 14 = .ok (.iload_n 2, 1) := by decide +kernel
theorem dX1_unlike_15 : decode cX1_unlike 15 = .ok (.iaload, 1) := by decide +kernel
theorem dX1_unlike_16 : decode cX1_unlike 16 = .ok (.ifCond .le 7, 3) := by decide +kernel
theorem dX1_unlike_19 : decode cX1_unlike 19 = .ok (.iconst 1, 1) := by decide +kernel
theorem dX1_unlike_20 : decode cX1_unlike 20 = .ok (.goto 4, 3) := by decide +kernel
theorem dX1_unlike_23 : decode cX1_unlike 23 = .ok (.iconst 0, 1) := by decide +kernel
theorem dX1_unlike_24 : decode cX1_unlike 24 = .ok (.iadd, 1) := by decide +kernel
theorem dX1_unlike_25 : decode cX1_unlike 25 = .ok (.istore_n 1, 1) := by decide +kernel
theorem dX1_unlike_26 : decode cX1_unlike 26 = .ok (.iinc 2 1, 3) := by decide +kernel
theorem dX1_unlike_29 : decode cX1_unlike 29 = .ok (.goto (-25), 3) := by decide +kernel
theorem dX1_unlike_32 : decode cX1_unlike 32 = .ok (.iload_n 1, 1) := by decide +kernel
theorem dX1_unlike_33 : decode cX1_unlike 33 = .ok (.ireturn, 1) := by decide +kernel
theorem dX1_placeOf_0 : decode cX1_placeOf 0 = .ok (.iconst 0, 1) := by decide +kernel
theorem dX1_placeOf_1 : decode cX1_placeOf 1 = .ok (.istore_n 2, 1) := by decide +kernel
theorem dX1_placeOf_2 : decode cX1_placeOf 2 = .ok (.iconst 0, 1) := by decide +kernel
theorem dX1_placeOf_3 : decode cX1_placeOf 3 = .ok (.istore_n 3, 1) := by decide +kernel
theorem dX1_placeOf_4 : decode cX1_placeOf 4 = .ok (.iload_n 3, 1) := by decide +kernel
theorem dX1_placeOf_5 : decode cX1_placeOf 5 = .ok (.aload_n 0, 1) := by decide +kernel
theorem dX1_placeOf_6 : decode cX1_placeOf 6 = .ok (.getfield 30, 3) := by decide +kernel
theorem dX1_placeOf_9 : decode cX1_placeOf 9 = .ok (.getfield 70, 3) := by decide +kernel
theorem dX1_placeOf_12 : decode cX1_placeOf 12 = .ok (.if_icmp .ge 26, 3) := by decide +kernel
theorem dX1_placeOf_15 : decode cX1_placeOf 15 = .ok (.iload_n 2, 1) := by decide +kernel
theorem dX1_placeOf_16 : decode cX1_placeOf 16 = .ok (.aload_n 0, 1) := by decide +kernel
theorem dX1_placeOf_17 : decode cX1_placeOf 17 = .ok (.iload_n 3, 1) := by decide +kernel
theorem dX1_placeOf_18 : decode cX1_placeOf 18 = .ok (.iload_n 1, 1) := by decide +kernel
theorem dX1_placeOf_19 : decode cX1_placeOf 19 = .ok (.invokevirtual 86, 3) := by decide +kernel
theorem dX1_placeOf_22 : decode cX1_placeOf 22 = .ok (.ifCond .eq 7, 3) := by decide +kernel
theorem dX1_placeOf_25 : decode cX1_placeOf 25 = .ok (.iconst 1, 1) := by decide +kernel
theorem dX1_placeOf_26 : decode cX1_placeOf 26 = .ok (.goto 4, 3) := by decide +kernel
theorem dX1_placeOf_29 : decode cX1_placeOf 29 = .ok (.iconst 0, 1) := by decide +kernel
theorem dX1_placeOf_30 : decode cX1_placeOf 30 = .ok (.iadd, 1) := by decide +kernel
theorem dX1_placeOf_31 : decode cX1_placeOf 31 = .ok (.istore_n 2, 1) := by decide +kernel
theorem dX1_placeOf_32 : decode cX1_placeOf 32 = .ok (.iinc 3 1, 3) := by decide +kernel
theorem dX1_placeOf_35 : decode cX1_placeOf 35 = .ok (.goto (-31), 3) := by decide +kernel
theorem dX1_placeOf_38 : decode cX1_placeOf 38 = .ok (.iload_n 2, 1) := by decide +kernel
theorem dX1_placeOf_39 : decode cX1_placeOf 39 = .ok (.ireturn, 1) := by decide +kernel
theorem dX1_comesAhead_0 : decode cX1_comesAhead 0 = .ok (.aload_n 0, 1) := by decide +kernel
theorem dX1_comesAhead_1 : decode cX1_comesAhead 1 = .ok (.getfield 21, 3) := by decide +kernel
theorem dX1_comesAhead_4 : decode cX1_comesAhead 4 = .ok (.iload_n 1, 1) := by decide +kernel
theorem dX1_comesAhead_5 : decode cX1_comesAhead 5 = .ok (.iaload, 1) := by decide +kernel
theorem dX1_comesAhead_6 : decode cX1_comesAhead 6 = .ok (.aload_n 0, 1) := by decide +kernel
theorem dX1_comesAhead_7 : decode cX1_comesAhead 7 = .ok (.getfield 21, 3) := by decide +kernel
theorem dX1_comesAhead_10 : decode cX1_comesAhead 10 = .ok (.iload_n 2, 1) := by decide +kernel
theorem dX1_comesAhead_11 : decode cX1_comesAhead 11 = .ok (.iaload, 1) := by decide +kernel
theorem dX1_comesAhead_12 : decode cX1_comesAhead 12 = .ok (.if_icmp .eq 24, 3) := by decide +kernel
theorem dX1_comesAhead_15 : decode cX1_comesAhead 15 = .ok (.aload_n 0, 1) := by decide +kernel
theorem dX1_comesAhead_16 : decode cX1_comesAhead 16 = .ok (.getfield 21, 3) := by decide +kernel
theorem dX1_comesAhead_19 : decode cX1_comesAhead 19 = .ok (.iload_n 1, 1) := by decide +kernel
theorem dX1_comesAhead_20 : decode cX1_comesAhead 20 = .ok (.iaload, 1) := by decide +kernel
theorem dX1_comesAhead_21 : decode cX1_comesAhead 21 = .ok (.aload_n 0, 1) := by decide +kernel
theorem dX1_comesAhead_22 : decode cX1_comesAhead 22 = .ok (.getfield 21, 3) := by decide +kernel
theorem dX1_comesAhead_25 : decode cX1_comesAhead 25 = .ok (.iload_n 2, 1) := by decide +kernel
theorem dX1_comesAhead_26 : decode cX1_comesAhead 26 = .ok (.iaload, 1) := by decide +kernel
theorem dX1_comesAhead_27 : decode cX1_comesAhead 27 = .ok (.if_icmp .le 7, 3) := by decide +kernel
theorem dX1_comesAhead_30 : decode cX1_comesAhead 30 = .ok (.iconst 1, 1) := by decide +kernel
theorem dX1_comesAhead_31 : decode cX1_comesAhead 31 = .ok (.goto 4, 3) := by decide +kernel
theorem dX1_comesAhead_34 : decode cX1_comesAhead 34 = .ok (.iconst 0, 1) := by decide +kernel
theorem dX1_comesAhead_35 : decode cX1_comesAhead 35 = .ok (.ireturn, 1) := by decide +kernel
theorem dX1_comesAhead_36 : decode cX1_comesAhead 36 = .ok (.aload_n 0, 1) := by decide +kernel
theorem dX1_comesAhead_37 : decode cX1_comesAhead 37 = .ok (.getfield 24, 3) := by decide +kernel
theorem dX1_comesAhead_40 : decode cX1_comesAhead 40 = .ok (.iload_n 1, 1) := by decide +kernel
theorem dX1_comesAhead_41 : decode cX1_comesAhead 41 = .ok (.iaload, 1) := by decide +kernel
theorem dX1_comesAhead_42 : decode cX1_comesAhead 42 = .ok (.aload_n 0, 1) := by decide +kernel
theorem dX1_comesAhead_43 : decode cX1_comesAhead 43 = .ok (.getfield 24, 3) := by decide +kernel
theorem dX1_comesAhead_46 : decode cX1_comesAhead 46 = .ok (.iload_n 2, 1) := by decide +kernel
theorem dX1_comesAhead_47 : decode cX1_comesAhead 47 = .ok (.iaload, 1) := by decide +kernel
theorem dX1_comesAhead_48 : decode cX1_comesAhead 48 = .ok (.if_icmp .eq 24, 3) := by decide +kernel
theorem dX1_comesAhead_51 : decode cX1_comesAhead 51 = .ok (.aload_n 0, 1) := by decide +kernel
theorem dX1_comesAhead_52 : decode cX1_comesAhead 52 = .ok (.getfield 24, 3) := by decide +kernel
theorem dX1_comesAhead_55 : decode cX1_comesAhead 55 = .ok (.iload_n 1, 1) := by decide +kernel
theorem dX1_comesAhead_56 : decode cX1_comesAhead 56 = .ok (.iaload, 1) := by decide +kernel
theorem dX1_comesAhead_57 : decode cX1_comesAhead 57 = .ok (.aload_n 0, 1) := by decide +kernel
theorem dX1_comesAhead_58 : decode cX1_comesAhead 58 = .ok (.getfield 24, 3) := by decide +kernel
theorem dX1_comesAhead_61 : decode cX1_comesAhead 61 = .ok (.iload_n 2, 1) := by decide +kernel
theorem dX1_comesAhead_62 : decode cX1_comesAhead 62 = .ok (.iaload, 1) := by decide +kernel
theorem dX1_comesAhead_63 : decode cX1_comesAhead 63 = .ok (.if_icmp .le 7, 3) := by decide +kernel
theorem dX1_comesAhead_66 : decode cX1_comesAhead 66 = .ok (.iconst 1, 1) := by decide +kernel
theorem dX1_comesAhead_67 : decode cX1_comesAhead 67 = .ok (.goto 4, 3) := by decide +kernel
theorem dX1_comesAhead_70 : decode cX1_comesAhead 70 = .ok (.iconst 0, 1) := by decide +kernel
theorem dX1_comesAhead_71 : decode cX1_comesAhead 71 = .ok (.ireturn, 1) := by decide +kernel
theorem dX1_comesAhead_72 : decode cX1_comesAhead 72 = .ok (.iload_n 1, 1) := by decide +kernel
theorem dX1_comesAhead_73 : decode cX1_comesAhead 73 = .ok (.iload_n 2, 1) := by decide +kernel
theorem dX1_comesAhead_74 : decode cX1_comesAhead 74 = .ok (.if_icmp .ge 7, 3) := by decide +kernel
theorem dX1_comesAhead_77 : decode cX1_comesAhead 77 = .ok (.iconst 1, 1) := by decide +kernel
theorem dX1_comesAhead_78 : decode cX1_comesAhead 78 = .ok (.goto 4, 3) := by decide +kernel
theorem dX1_comesAhead_81 : decode cX1_comesAhead 81 = .ok (.iconst 0, 1) := by decide +kernel
theorem dX1_comesAhead_82 : decode cX1_comesAhead 82 = .ok (.ireturn, 1) := by decide +kernel
theorem dX1_weigh_0 : decode cX1_weigh 0 = .ok (.aload_n 0, 1) := by decide +kernel
theorem dX1_weigh_1 : decode cX1_weigh 1 = .ok (.invokevirtual 90, 3) := by decide +kernel
theorem dX1_weigh_4 : decode cX1_weigh 4 = .ok (.iconst 0, 1) := by decide +kernel
theorem dX1_weigh_5 : decode cX1_weigh 5 = .ok (.istore_n 1, 1) := by decide +kernel
theorem dX1_weigh_6 : decode cX1_weigh 6 = .ok (.iload_n 1, 1) := by decide +kernel
theorem dX1_weigh_7 : decode cX1_weigh 7 = .ok (.bipush 12, 2) := by decide +kernel
theorem dX1_weigh_9 : decode cX1_weigh 9 = .ok (.if_icmp .ge 77, 3) := by decide +kernel
theorem dX1_weigh_12 : decode cX1_weigh 12 = .ok (.aload_n 0, 1) := by decide +kernel
theorem dX1_weigh_13 : decode cX1_weigh 13 = .ok (.iload_n 1, 1) := by decide +kernel
theorem dX1_weigh_14 : decode cX1_weigh 14 = .ok (.invokevirtual 78, 3) := by decide +kernel
theorem dX1_weigh_17 : decode cX1_weigh 17 = .ok (.istore_n 2, 1) := by decide +kernel
theorem dX1_weigh_18 : decode cX1_weigh 18 = .ok (.iload_n 2, 1) := by decide +kernel
theorem dX1_weigh_19 : decode cX1_weigh 19 = .ok (.iconst (-1), 1) := by decide +kernel
theorem dX1_weigh_20 : decode cX1_weigh 20 = .ok (.if_icmp .ne 30, 3) := by decide +kernel
theorem dX1_weigh_23 : decode cX1_weigh 23 = .ok (.aload_n 0, 1) := by decide +kernel
theorem dX1_weigh_24 : decode cX1_weigh 24 = .ok (.getfield 15, 3) := by decide +kernel
theorem dX1_weigh_27 : decode cX1_weigh 27 = .ok (.iload_n 1, 1) := by decide +kernel
theorem dX1_weigh_28 : decode cX1_weigh 28 = .ok (.iconst 0, 1) := by decide +kernel
theorem dX1_weigh_29 : decode cX1_weigh 29 = .ok (.iastore, 1) := by decide +kernel
theorem dX1_weigh_30 : decode cX1_weigh 30 = .ok (.aload_n 0, 1) := by decide +kernel
theorem dX1_weigh_31 : decode cX1_weigh 31 = .ok (.getfield 18, 3) := by decide +kernel
theorem dX1_weigh_34 : decode cX1_weigh 34 = .ok (.iload_n 1, 1) := by decide +kernel
theorem dX1_weigh_35 : decode cX1_weigh 35 = .ok (.iconst 0, 1) := by decide +kernel
theorem dX1_weigh_36 : decode cX1_weigh 36 = .ok (.iastore, 1) := by decide +kernel
theorem dX1_weigh_37 : decode cX1_weigh 37 = .ok (.aload_n 0, 1) := by decide +kernel
theorem dX1_weigh_38 : decode cX1_weigh 38 = .ok (.dup, 1) := by decide +kernel
theorem dX1_weigh_39 : decode cX1_weigh 39 = .ok (.getfield 40, 3) := by decide +kernel
theorem dX1_weigh_42 : decode cX1_weigh 42 = .ok (.iconst 1, 1) := by decide +kernel
theorem dX1_weigh_43 : decode cX1_weigh 43 = .ok (.iadd, 1) := by decide +kernel
theorem dX1_weigh_44 : decode cX1_weigh 44 = .ok (.putfield 40, 3) := by decide +kernel
theorem dX1_weigh_47 : decode cX1_weigh 47 = .ok (.goto 33, 3) := by decide +kernel
theorem dX1_weigh_50 : decode cX1_weigh 50 = .ok (.aload_n 0, 1) := by decide +kernel
theorem dX1_weigh_51 : decode cX1_weigh 51 = .ok (.getfield 15, 3) := by decide +kernel
theorem dX1_weigh_54 : decode cX1_weigh 54 = .ok (.iload_n 1, 1) := by decide +kernel
theorem dX1_weigh_55 : decode cX1_weigh 55 = .ok (.aload_n 0, 1) := by decide +kernel
theorem dX1_weigh_56 : decode cX1_weigh 56 = .ok (.iload_n 1, 1) := by decide +kernel
theorem dX1_weigh_57 : decode cX1_weigh 57 = .ok (.iload_n 2, 1) := by decide +kernel
theorem dX1_weigh_58 : decode cX1_weigh 58 = .ok (.invokevirtual 93, 3) := by decide +kernel
theorem dX1_weigh_61 : decode cX1_weigh 61 = .ok (.iastore, 1) := by decide +kernel
theorem dX1_weigh_62 : decode cX1_weigh 62 = .ok (.aload_n 0, 1) := by decide +kernel
theorem dX1_weigh_63 : decode cX1_weigh 63 = .ok (.getfield 18, 3) := by decide +kernel
theorem dX1_weigh_66 : decode cX1_weigh 66 = .ok (.iload_n 1, 1) := by decide +kernel
theorem dX1_weigh_67 : decode cX1_weigh 67 = .ok (.aload_n 0, 1) := by decide +kernel
theorem dX1_weigh_68 : decode cX1_weigh 68 = .ok (.iload_n 1, 1) := by decide +kernel
theorem dX1_weigh_69 : decode cX1_weigh 69 = .ok (.iload_n 2, 1) := by decide +kernel
theorem dX1_weigh_70 : decode cX1_weigh 70 = .ok (.invokevirtual 96, 3) := by decide +kernel
theorem dX1_weigh_73 : decode cX1_weigh 73 = .ok (.iastore, 1) := by decide +kernel
theorem dX1_weigh_74 : decode cX1_weigh 74 = .ok (.aload_n 0, 1) := by decide +kernel
theorem dX1_weigh_75 : decode cX1_weigh 75 = .ok (.iload_n 1, 1) := by decide +kernel
theorem dX1_weigh_76 : decode cX1_weigh 76 = .ok (.iload_n 2, 1) := by decide +kernel
theorem dX1_weigh_77 : decode cX1_weigh 77 = .ok (.invokevirtual 99, 3) := by decide +kernel
theorem dX1_weigh_80 : decode cX1_weigh 80 = .ok (.iinc 1 1, 3) := by decide +kernel
theorem dX1_weigh_83 : decode cX1_weigh 83 = .ok (.goto (-77), 3) := by decide +kernel
theorem dX1_weigh_86 : decode cX1_weigh 86 = .ok (.return_, 1) := by decide +kernel
theorem dX1_startAnew_0 : decode cX1_startAnew 0 = .ok (.aload_n 0, 1) := by decide +kernel
theorem dX1_startAnew_1 : decode cX1_startAnew 1 = .ok (.iconst 0, 1) := by decide +kernel
theorem dX1_startAnew_2 : decode cX1_startAnew 2 = .ok (.putfield 103, 3) := by decide +kernel
theorem dX1_startAnew_5 : decode cX1_startAnew 5 = .ok (.aload_n 0, 1) := by decide +kernel
theorem dX1_startAnew_6 : decode cX1_startAnew 6 = .ok (.iconst 0, 1) := by decide +kernel
theorem dX1_startAnew_7 : decode cX1_startAnew 7 = .ok (.putfield 40, 3) := by decide +kernel
theorem dX1_startAnew_10 : decode cX1_startAnew 10 = .ok (.aload_n 0, 1) := by decide +kernel
theorem dX1_startAnew_11 : decode cX1_startAnew 11 = .ok (.iconst 0, 1) := by decide +kernel
theorem dX1_startAnew_12 : decode cX1_startAnew 12 = .ok (.putfield 106, 3) := by decide +kernel
theorem dX1_startAnew_15 : decode cX1_startAnew 15 = .ok (.aload_n 0, 1) := by decide +kernel
theorem dX1_startAnew_16 : decode cX1_startAnew 16 = .ok (.getfield 21, 3) := by decide +kernel
theorem dX1_startAnew_19 : decode cX1_startAnew 19 = .ok (.iconst 0, 1) := by decide +kernel
theorem dX1_startAnew_20 : decode cX1_startAnew 20 = .ok (.invokestatic 34, 3) := by decide +kernel
theorem dX1_startAnew_23 : decode cX1_startAnew 23 = .ok (.aload_n 0, 1) := by decide +kernel
theorem dX1_startAnew_24 : decode cX1_startAnew 24 = .ok (.getfield 24, 3) := by decide +kernel
theorem dX1_startAnew_27 : decode cX1_startAnew 27 = .ok (.iconst 0, 1) := by decide +kernel
theorem dX1_startAnew_28 : decode cX1_startAnew 28 = .ok (.invokestatic 34, 3) := by decide +kernel
theorem dX1_startAnew_31 : decode cX1_startAnew 31 = .ok (.aload_n 0, 1) := by decide +kernel
theorem dX1_startAnew_32 : decode cX1_startAnew 32 = .ok (.getfield 27, 3) := by decide +kernel
theorem dX1_startAnew_35 : decode cX1_startAnew 35 = .ok (.iconst (-1), 1) := by decide +kernel
theorem dX1_startAnew_36 : decode cX1_startAnew 36 = .ok (.invokestatic 34, 3) := by decide +kernel
theorem dX1_startAnew_39 : decode cX1_startAnew 39 = .ok (.iconst 0, 1) := by decide +kernel
theorem dX1_startAnew_40 : decode cX1_startAnew 40 = .ok (.istore_n 1, 1) := by decide +kernel
theorem dX1_startAnew_41 : decode cX1_startAnew 41 = .ok (.iload_n 1, 1) := by decide +kernel
theorem dX1_startAnew_42 : decode cX1_startAnew 42 = .ok (.bipush 12, 2) := by decide +kernel
theorem dX1_startAnew_44 : decode cX1_startAnew 44 = .ok (.if_icmp .ge 37, 3) := by decide +kernel
theorem dX1_startAnew_47 : decode cX1_startAnew 47 = .ok (.aload_n 0, 1) := by decide +kernel
theorem dX1_startAnew_48 : decode cX1_startAnew 48 = .ok (.iload_n 1, 1) := by decide +kernel
theorem dX1_startAnew_49 : decode cX1_startAnew 49 = .ok (.invokevirtual 78, 3) := by decide +kernel
theorem dX1_startAnew_52 : decode cX1_startAnew 52 = .ok (.istore_n 2, 1) := by decide +kernel
theorem dX1_startAnew_53 : decode cX1_startAnew 53 = .ok (.iload_n 2, 1) := by decide +kernel
theorem dX1_startAnew_54 : decode cX1_startAnew 54 = .ok (.iconst (-1), 1) := by decide +kernel
theorem dX1_startAnew_55 : decode cX1_startAnew 55 = .ok (.if_icmp .eq 20, 3) := by decide +kernel
theorem dX1_startAnew_58 : decode cX1_startAnew 58 = .ok (.aload_n 0, 1) := by decide +kernel
theorem dX1_startAnew_59 : decode cX1_startAnew 59 = .ok (.getfield 27, 3) := by decide +kernel
theorem dX1_startAnew_62 : decode cX1_startAnew 62 = .ok (.aload_n 0, 1) := by decide +kernel
theorem dX1_startAnew_63 : decode cX1_startAnew 63 = .ok (.getfield 30, 3) := by decide +kernel
theorem dX1_startAnew_66 : decode cX1_startAnew 66 = .ok (.iload_n 2, 1) := by decide +kernel
theorem dX1_startAnew_67 : decode cX1_startAnew 67 = .ok (.invokevirtual 109, 3) := by decide +kernel
theorem dX1_startAnew_70 : decode cX1_startAnew 70 = .ok (.getfield 113, 3) := by decide +kernel
theorem dX1_startAnew_73 : decode cX1_startAnew 73 = .ok (.iload_n 1, 1) := by decide +kernel
theorem dX1_startAnew_74 : decode cX1_startAnew 74 = .ok (.iastore, 1) := by decide +kernel
theorem dX1_startAnew_75 : decode cX1_startAnew 75 = .ok (.iinc 1 1, 3) := by decide +kernel
theorem dX1_startAnew_78 : decode cX1_startAnew 78 = .ok (.goto (-37), 3) := by decide +kernel
theorem dX1_startAnew_81 : decode cX1_startAnew 81 = .ok (.return_, 1) := by decide +kernel
theorem dX1_tally_0 : decode cX1_tally 0 = .ok (.aload_n 0, 1) := by decide +kernel
theorem dX1_tally_1 : decode cX1_tally 1 = .ok (.getfield 21, 3) := by decide +kernel
theorem dX1_tally_4 : decode cX1_tally 4 = .ok (.iload_n 2, 1) := by decide +kernel
theorem dX1_tally_5 : decode cX1_tally 5 = .ok (.dup2, 1) := by decide +kernel
theorem dX1_tally_6 : decode cX1_tally 6 = .ok (.iaload, 1) := by decide +kernel
theorem dX1_tally_7 : decode cX1_tally 7 = .ok (.iconst 1, 1) := by decide +kernel
theorem dX1_tally_8 : decode cX1_tally 8 = .ok (.iadd, 1) := by decide +kernel
theorem dX1_tally_9 : decode cX1_tally 9 = .ok (.iastore, 1) := by decide +kernel
theorem dX1_tally_10 : decode cX1_tally 10 = .ok (.aload_n 0, 1) := by decide +kernel
theorem dX1_tally_11 : decode cX1_tally 11 = .ok (.getfield 15, 3) := by decide +kernel
theorem dX1_tally_14 : decode cX1_tally 14 = .ok (.iload_n 1, 1) := by decide +kernel
theorem dX1_tally_15 : decode cX1_tally 15 = .ok (.iaload, 1) := by decide +kernel
theorem dX1_tally_16 : decode cX1_tally 16 = .ok (.ifCond .ne 36, 3) := by decide +kernel
theorem dX1_tally_19 : decode cX1_tally 19 = .ok (.aload_n 0, 1) := by decide +kernel
theorem dX1_tally_20 : decode cX1_tally 20 = .ok (.dup, 1) := by decide +kernel
theorem dX1_tally_21 : decode cX1_tally 21 = .ok (.getfield 106, 3) := by decide +kernel
theorem dX1_tally_24 : decode cX1_tally 24 = .ok (.aload_n 0, 1) := by decide +kernel
theorem dX1_tally_25 : decode cX1_tally 25 = .ok (.getfield 18, 3) := by decide +kernel
theorem dX1_tally_28 : decode cX1_tally 28 = .ok (.iload_n 1, 1) := by decide +kernel
theorem dX1_tally_29 : decode cX1_tally 29 = .ok (.iaload, 1) := by decide +kernel
theorem dX1_tally_30 : decode cX1_tally 30 = .ok (.iadd, 1) := by decide +kernel
theorem dX1_tally_31 : decode cX1_tally 31 = .ok (.putfield 106, 3) := by decide +kernel
theorem dX1_tally_34 : decode cX1_tally 34 = .ok (.aload_n 0, 1) := by decide +kernel
theorem dX1_tally_35 : decode cX1_tally 35 = .ok (.getfield 24, 3) := by decide +kernel
theorem dX1_tally_38 : decode cX1_tally 38 = .ok (.iload_n 2, 1) := by decide +kernel
theorem dX1_tally_39 : decode cX1_tally 39 = .ok (.dup2, 1) := by decide +kernel
theorem dX1_tally_40 : decode cX1_tally 40 = .ok (.iaload, 1) := by decide +kernel
theorem dX1_tally_41 : decode cX1_tally 41 = .ok (.aload_n 0, 1) := by decide +kernel
theorem dX1_tally_42 : decode cX1_tally 42 = .ok (.getfield 18, 3) := by decide +kernel
theorem dX1_tally_45 : decode cX1_tally 45 = .ok (.iload_n 1, 1) := by decide +kernel
theorem dX1_tally_46 : decode cX1_tally 46 = .ok (.iaload, 1) := by decide +kernel
theorem dX1_tally_47 : decode cX1_tally 47 = .ok (.iadd, 1) := by decide +kernel
theorem dX1_tally_48 : decode cX1_tally 48 = .ok (.iastore, 1) := by decide +kernel
theorem dX1_tally_49 : decode cX1_tally 49 = .ok (.goto 23, 3) := by decide +kernel
theorem dX1_tally_52 : decode cX1_tally 52 = .ok (.aload_n 0, 1) := by decide +kernel
theorem dX1_tally_53 : decode cX1_tally 53 = .ok (.dup, 1) := by decide +kernel
theorem dX1_tally_54 : decode cX1_tally 54 = .ok (.getfield 103, 3) := by decide +kernel
theorem dX1_tally_57 : decode cX1_tally 57 = .ok (.iconst 1, 1) := by decide +kernel
theorem dX1_tally_58 : decode cX1_tally 58 = .ok (.iadd, 1) := by decide +kernel
theorem dX1_tally_59 : decode cX1_tally 59 = .ok (.putfield 103, 3) := by decide +kernel
theorem dX1_tally_62 : decode cX1_tally 62 = .ok (.aload_n 0, 1) := by decide +kernel
theorem dX1_tally_63 : decode cX1_tally 63 = .ok (.dup, 1) := by decide +kernel
theorem dX1_tally_64 : decode cX1_tally 64 = .ok (.getfield 40, 3) := by decide +kernel
theorem dX1_tally_67 : decode cX1_tally 67 = .ok (.iconst 1, 1) := by decide +kernel
theorem dX1_tally_68 : decode cX1_tally 68 = .ok (.iadd, 1) := by decide +kernel
theorem dX1_tally_69 : decode cX1_tally 69 = .ok (.putfield 40, 3) := by decide +kernel
theorem dX1_tally_72 : decode cX1_tally 72 = .ok (.return_, 1) := by decide +kernel
theorem dX1_breakAt_0 : decode cX1_breakAt 0 = .ok (.aload_n 0, 1) := by decide +kernel
theorem dX1_breakAt_1 : decode cX1_breakAt 1 = .ok (.getfield 30, 3) := by decide +kernel
theorem dX1_breakAt_4 : decode cX1_breakAt 4 = .ok (.iload_n 2, 1) := by decide +kernel
theorem dX1_breakAt_5 : decode cX1_breakAt 5 = .ok (.invokevirtual 109, 3) := by decide +kernel
theorem dX1_breakAt_8 : decode cX1_breakAt 8 = .ok (.astore_n 3, 1) := by decide +kernel
theorem dX1_breakAt_9 : decode cX1_breakAt 9 = .ok (.iload_n 1, 1) := by decide +kernel
theorem dX1_breakAt_10 : decode cX1_breakAt 10 = .ok (.aload_n 3, 1) := by decide +kernel
theorem dX1_breakAt_11 : decode cX1_breakAt 11 = .ok (.getfield 118, 3) := by decide +kernel
theorem dX1_breakAt_14 : decode cX1_breakAt 14 = .ok (.if_icmp .lt 11, 3) := by decide +kernel
theorem dX1_breakAt_17 : decode cX1_breakAt 17 = .ok (.iload_n 1, 1) := by decide +kernel
theorem dX1_breakAt_18 : decode cX1_breakAt 18 = .ok (.aload_n 3, 1) := by decide +kernel
theorem dX1_breakAt_19 : decode cX1_breakAt 19 = .ok (.getfield 121, 3) := by decide +kernel
theorem dX1_breakAt_22 : decode cX1_breakAt 22 = .ok (.if_icmp .le 5, 3) := by decide +kernel
theorem dX1_breakAt_25 : decode cX1_breakAt 25 = .ok (.iconst 1, 1) := by decide +kernel
theorem dX1_breakAt_26 : decode cX1_breakAt 26 = .ok (.ireturn, 1) := by decide +kernel
theorem dX1_breakAt_27 : decode cX1_breakAt 27 = .ok (.aload_n 0, 1) := by decide +kernel
theorem dX1_breakAt_28 : decode cX1_breakAt 28 = .ok (.iload_n 1, 1) := by decide +kernel
theorem dX1_breakAt_29 : decode cX1_breakAt 29 = .ok (.iconst 1, 1) := by decide +kernel
theorem dX1_breakAt_30 : decode cX1_breakAt 30 = .ok (.isub, 1) := by decide +kernel
theorem dX1_breakAt_31 : decode cX1_breakAt 31 = .ok (.invokevirtual 78, 3) := by decide +kernel
theorem dX1_breakAt_34 : decode cX1_breakAt 34 = .ok (.istore 4, 2) := by decide +kernel
theorem dX1_breakAt_36 : decode cX1_breakAt 36 = .ok (.iload 4, 2) := by decide +kernel
theorem dX1_breakAt_38 : decode cX1_breakAt 38 = .ok (.iconst (-1), 1) := by decide +kernel
theorem dX1_breakAt_39 : decode cX1_breakAt 39 = .ok (.if_icmp .eq 24, 3) := by decide +kernel
theorem dX1_breakAt_42 : decode cX1_breakAt 42 = .ok (.aload_n 0, 1) := by decide +kernel
theorem dX1_breakAt_43 : decode cX1_breakAt 43 = .ok (.getfield 30, 3) := by decide +kernel
theorem dX1_breakAt_46 : decode cX1_breakAt 46 = .ok (.iload 4, 2) := by decide +kernel
theorem dX1_breakAt_48 : decode cX1_breakAt 48 = .ok (.invokevirtual 109, 3) := by decide +kernel
theorem dX1_breakAt_51 : decode cX1_breakAt 51 = .ok (.getfield 124, 3) := by decide +kernel
theorem dX1_breakAt_54 : decode cX1_breakAt 54 = .ok (.aload_n 3, 1) := by decide +kernel
theorem dX1_breakAt_55 : decode cX1_breakAt 55 = .ok (.getfield 124, 3) := by decide +kernel
theorem dX1_breakAt_58 : decode cX1_breakAt 58 = .ok (.if_icmp .eq 5, 3) := by decide +kernel
theorem dX1_breakAt_61 : decode cX1_breakAt 61 = .ok (.iconst 2, 1) := by decide +kernel
theorem dX1_breakAt_62 : decode cX1_breakAt 62 = .ok (.ireturn, 1) := by decide +kernel
theorem dX1_breakAt_63 : decode cX1_breakAt 63 = .ok (.aload_n 0, 1) := by decide +kernel
theorem dX1_breakAt_64 : decode cX1_breakAt 64 = .ok (.iload_n 1, 1) := by decide +kernel
theorem dX1_breakAt_65 : decode cX1_breakAt 65 = .ok (.iconst 1, 1) := by decide +kernel
theorem dX1_breakAt_66 : decode cX1_breakAt 66 = .ok (.isub, 1) := by decide +kernel
theorem dX1_breakAt_67 : decode cX1_breakAt 67 = .ok (.aload_n 3, 1) := by decide +kernel
theorem dX1_breakAt_68 : decode cX1_breakAt 68 = .ok (.getfield 113, 3) := by decide +kernel
theorem dX1_breakAt_71 : decode cX1_breakAt 71 = .ok (.invokevirtual 127, 3) := by decide +kernel
theorem dX1_breakAt_74 : decode cX1_breakAt 74 = .ok (.ifCond .eq 19, 3) := by decide +kernel
theorem dX1_breakAt_77 : decode cX1_breakAt 77 = .ok (.aload_n 0, 1) := by decide +kernel
theorem dX1_breakAt_78 : decode cX1_breakAt 78 = .ok (.iload_n 1, 1) := by decide +kernel
theorem dX1_breakAt_79 : decode cX1_breakAt 79 = .ok (.iconst 2, 1) := by decide +kernel
theorem dX1_breakAt_80 : decode cX1_breakAt 80 = .ok (.isub, 1) := by decide +kernel
theorem dX1_breakAt_81 : decode cX1_breakAt 81 = .ok (.aload_n 3, 1) := by decide +kernel
theorem dX1_breakAt_82 : decode cX1_breakAt 82 = .ok (.getfield 113, 3) := by decide +kernel
theorem dX1_breakAt_85 : decode cX1_breakAt 85 = .ok (.invokevirtual 127, 3) := by decide +kernel
theorem dX1_breakAt_88 : decode cX1_breakAt 88 = .ok (.ifCond .eq 5, 3) := by decide +kernel
theorem dX1_breakAt_91 : decode cX1_breakAt 91 = .ok (.iconst 3, 1) := by decide +kernel
theorem dX1_breakAt_92 : decode cX1_breakAt 92 = .ok (.ireturn, 1) := by decide +kernel
theorem dX1_breakAt_93 : decode cX1_breakAt 93 = .ok (.aload_n 3, 1) := by decide +kernel
theorem dX1_breakAt_94 : decode cX1_breakAt 94 = .ok (.iconst 1, 1) := by decide +kernel
theorem dX1_breakAt_95 : decode cX1_breakAt 95 = .ok (.invokevirtual 130, 3) := by decide +kernel
theorem dX1_breakAt_98 : decode cX1_breakAt 98 = .ok (.ifCond .eq 14, 3) := by decide +kernel
theorem dX1_breakAt_101 : decode cX1_breakAt 101 = .ok (.aload_n 0, 1) := by decide +kernel
theorem dX1_breakAt_102 : decode cX1_breakAt 102 = .ok (.getfield 21, 3) := by decide +kernel
theorem dX1_breakAt_105 : decode cX1_breakAt 105 = .ok (.iload_n 2, 1) := by decide +kernel
theorem dX1_breakAt_106 : decode cX1_breakAt 106 = .ok (.iaload, 1) := by decide +kernel
theorem dX1_breakAt_107 : decode cX1_breakAt 107 = .ok (.ifCond .le 5, 3) := by decide +kernel
theorem dX1_breakAt_110 : decode cX1_breakAt 110 = .ok (.iconst 4, 1) := by decide +kernel
theorem dX1_breakAt_111 : decode cX1_breakAt 111 = .ok (.ireturn, 1) := by decide +kernel
theorem dX1_breakAt_112 : decode cX1_breakAt 112 = .ok (.aload_n 3, 1) := by decide +kernel
theorem dX1_breakAt_113 : decode cX1_breakAt 113 = .ok (.getfield 133, 3) := by decide +kernel
theorem dX1_breakAt_116 : decode cX1_breakAt 116 = .ok (.iconst 2, 1) := by decide +kernel
theorem dX1_breakAt_117 : decode cX1_breakAt 117 = .ok (.if_icmp .ne 18, 3) := by decide +kernel
theorem dX1_breakAt_120 : decode cX1_breakAt 120 = .ok (.aload_n 0, 1) := by decide +kernel
theorem dX1_breakAt_121 : decode cX1_breakAt 121 = .ok (.getfield 27, 3) := by decide +kernel
theorem dX1_breakAt_124 : decode cX1_breakAt 124 = .ok (.aload_n 3, 1) := by decide +kernel
theorem dX1_breakAt_125 : decode cX1_breakAt 125 = .ok (.getfield 113, 3) := by decide +kernel
theorem dX1_breakAt_128 : decode cX1_breakAt 128 = .ok (.iaload, 1) := by decide +kernel
theorem dX1_breakAt_129 : decode cX1_breakAt 129 = .ok (.iload_n 1, 1) := by decide +kernel
theorem dX1_breakAt_130 : decode cX1_breakAt 130 = .ok (.if_icmp .le 5, 3) := by decide +kernel
theorem dX1_breakAt_133 : decode cX1_breakAt 133 = .ok (.iconst 5, 1) := by decide +kernel
theorem dX1_breakAt_134 : decode cX1_breakAt 134 = .ok (.ireturn, 1) := by decide +kernel
theorem dX1_breakAt_135 : decode cX1_breakAt 135 = .ok (.aload_n 3, 1) := by decide +kernel
theorem dX1_breakAt_136 : decode cX1_breakAt 136 = .ok (.getfield 133, 3) := by decide +kernel
theorem dX1_breakAt_139 : decode cX1_breakAt 139 = .ok (.iconst 3, 1) := by decide +kernel
theorem dX1_breakAt_140 : decode cX1_breakAt 140 = .ok (.if_icmp .ne 23, 3) := by decide +kernel
theorem dX1_breakAt_143 : decode cX1_breakAt 143 = .ok (.iload 4, 2) := by decide +kernel
theorem dX1_breakAt_145 : decode cX1_breakAt 145 = .ok (.iload_n 2, 1) := by decide +kernel
theorem dX1_breakAt_146 : decode cX1_breakAt 146 = .ok (.if_icmp .eq 17, 3) := by decide +kernel
theorem dX1_breakAt_149 : decode cX1_breakAt 149 = .ok (.aload_n 0, 1) := by decide +kernel
theorem dX1_breakAt_150 : decode cX1_breakAt 150 = .ok (.iload_n 1, 1) := by decide +kernel
theorem dX1_breakAt_151 : decode cX1_breakAt 151 = .ok (.iconst 1, 1) := by decide +kernel
theorem dX1_breakAt_152 : decode cX1_breakAt 152 = .ok (.iadd, 1) := by decide +kernel
theorem dX1_breakAt_153 : decode cX1_breakAt 153 = .ok (.invokevirtual 78, 3) := by decide +kernel
theorem dX1_breakAt_156 : decode cX1_breakAt 156 = .ok (.iload_n 2, 1) := by decide +kernel
theorem dX1_breakAt_157 : decode cX1_breakAt 157 = .ok (.if_icmp .eq 6, 3) := by decide +kernel
theorem dX1_breakAt_160 : decode cX1_breakAt 160 = .ok (.bipush 6, 2) := by decide +kernel
theorem dX1_breakAt_162 : decode cX1_breakAt 162 = .ok (.ireturn, 1) := by decide +kernel
theorem dX1_breakAt_163 : decode cX1_breakAt 163 = .ok (.iconst 0, 1) := by decide +kernel
theorem dX1_breakAt_164 : decode cX1_breakAt 164 = .ok (.ireturn, 1) := by decide +kernel
theorem dX1_seatsAt_0 : decode cX1_seatsAt 0 = .ok (.aload_n 0, 1) := by decide +kernel
theorem dX1_seatsAt_1 : decode cX1_seatsAt 1 = .ok (.getfield 30, 3) := by decide +kernel
theorem dX1_seatsAt_4 : decode cX1_seatsAt 4 = .ok (.iload_n 2, 1) := by decide +kernel
theorem dX1_seatsAt_5 : decode cX1_seatsAt 5 = .ok (.invokevirtual 109, 3) := by decide +kernel
theorem dX1_seatsAt_8 : decode cX1_seatsAt 8 = .ok (.astore_n 3, 1) := by decide +kernel
theorem dX1_seatsAt_9 : decode cX1_seatsAt 9 = .ok (.bipush 100, 2) := by decide +kernel
theorem dX1_seatsAt_11 : decode cX1_seatsAt 11 = .ok (.aload_n 3, 1) := by decide +kernel
theorem dX1_seatsAt_12 : decode cX1_seatsAt 12 = .ok (.getfield 136, 3) := by decide +kernel
theorem dX1_seatsAt_15 : decode cX1_seatsAt 15 = .ok (.imul, 1) := by decide +kernel
theorem dX1_seatsAt_16 : decode cX1_seatsAt 16 = .ok (.istore 4, 2) := by decide +kernel
theorem dX1_seatsAt_18 : decode cX1_seatsAt 18 = .ok (.aload_n 0, 1) := by decide +kernel
theorem dX1_seatsAt_19 : decode cX1_seatsAt 19 = .ok (.getfield 21, 3) := by decide +kernel
theorem dX1_seatsAt_22 : decode cX1_seatsAt 22 = .ok (.iload_n 2, 1) := by decide +kernel
theorem dX1_seatsAt_23 : decode cX1_seatsAt 23 = .ok (.iaload, 1) := by decide +kernel
theorem dX1_seatsAt_24 : decode cX1_seatsAt 24 = .ok (.iconst 3, 1) := by decide +kernel
theorem dX1_seatsAt_25 : decode cX1_seatsAt 25 = .ok (.invokestatic 138, 3) := by decide +kernel
theorem dX1_seatsAt_28 : decode cX1_seatsAt 28 = .ok (.istore 5, 2) := by decide +kernel
theorem dX1_seatsAt_30 : decode cX1_seatsAt 30 = .ok (.iload 5, 2) := by decide +kernel
theorem dX1_seatsAt_32 : decode cX1_seatsAt 32 = .ok (.ifCond .le 19, 3) := by decide +kernel
theorem dX1_seatsAt_35 : decode cX1_seatsAt 35 = .ok (.bipush 70, 2) := by decide +kernel
theorem dX1_seatsAt_37 : decode cX1_seatsAt 37 = .ok (.iload 4, 2) := by decide +kernel
theorem dX1_seatsAt_39 : decode cX1_seatsAt 39 = .ok (.imul, 1) := by decide +kernel
theorem dX1_seatsAt_40 : decode cX1_seatsAt 40 = .ok (.bipush 100, 2) := by decide +kernel
theorem dX1_seatsAt_42 : decode cX1_seatsAt 42 = .ok (.idiv, 1) := by decide +kernel
theorem dX1_seatsAt_43 : decode cX1_seatsAt 43 = .ok (.istore 4, 2) := by decide +kernel
theorem dX1_seatsAt_45 : decode cX1_seatsAt 45 = .ok (.iinc 5 (-1), 3) := by decide +kernel
theorem dX1_seatsAt_48 : decode cX1_seatsAt 48 = .ok (.goto (-18), 3) := by decide +kernel
theorem dX1_seatsAt_51 : decode cX1_seatsAt 51 = .ok (.aload_n 3, 1) := by decide +kernel
theorem dX1_seatsAt_52 : decode cX1_seatsAt 52 = .ok (.iconst 1, 1) := by decide +kernel
theorem dX1_seatsAt_53 : decode cX1_seatsAt 53 = .ok (.invokevirtual 130, 3) := by decide +kernel
theorem dX1_seatsAt_56 : decode cX1_seatsAt 56 = .ok (.ifCond .eq 11, 3) := by decide +kernel
theorem dX1_seatsAt_59 : decode cX1_seatsAt 59 = .ok (.iconst 3, 1) := by decide +kernel
theorem dX1_seatsAt_60 : decode cX1_seatsAt 60 = .ok (.iload 4, 2) := by decide +kernel
theorem dX1_seatsAt_62 : decode cX1_seatsAt 62 = .ok (.imul, 1) := by decide +kernel
theorem dX1_seatsAt_63 : decode cX1_seatsAt 63 = .ok (.iconst 2, 1) := by decide +kernel
theorem dX1_seatsAt_64 : decode cX1_seatsAt 64 = .ok (.idiv, 1) := by decide +kernel
theorem dX1_seatsAt_65 : decode cX1_seatsAt 65 = .ok (.istore 4, 2) := by decide +kernel
theorem dX1_seatsAt_67 : decode cX1_seatsAt 67 = .ok (.aload_n 0, 1) := by decide +kernel
theorem dX1_seatsAt_68 : decode cX1_seatsAt 68 = .ok (.iload_n 1, 1) := by decide +kernel
theorem dX1_seatsAt_69 : decode cX1_seatsAt 69 = .ok (.iconst 1, 1) := by decide +kernel
theorem dX1_seatsAt_70 : decode cX1_seatsAt 70 = .ok (.isub, 1) := by decide +kernel
theorem dX1_seatsAt_71 : decode cX1_seatsAt 71 = .ok (.iload_n 2, 1) := by decide +kernel
theorem dX1_seatsAt_72 : decode cX1_seatsAt 72 = .ok (.invokevirtual 143, 3) := by decide +kernel
theorem dX1_seatsAt_75 : decode cX1_seatsAt 75 = .ok (.ifCond .ne 14, 3) := by decide +kernel
theorem dX1_seatsAt_78 : decode cX1_seatsAt 78 = .ok (.aload_n 0, 1) := by decide +kernel
theorem dX1_seatsAt_79 : decode cX1_seatsAt 79 = .ok (.iload_n 1, 1) := by decide +kernel
theorem dX1_seatsAt_80 : decode cX1_seatsAt 80 = .ok (.iconst 1, 1) := by decide +kernel
theorem dX1_seatsAt_81 : decode cX1_seatsAt 81 = .ok (.iadd, 1) := by decide +kernel
theorem dX1_seatsAt_82 : decode cX1_seatsAt 82 = .ok (.iload_n 2, 1) := by decide +kernel
theorem dX1_seatsAt_83 : decode cX1_seatsAt 83 = .ok (.invokevirtual 143, 3) := by decide +kernel
theorem dX1_seatsAt_86 : decode cX1_seatsAt 86 = .ok (.ifCond .eq 6, 3) := by decide +kernel
theorem dX1_seatsAt_89 : decode cX1_seatsAt 89 = .ok (.iinc 4 50, 3) := by decide +kernel
theorem dX1_seatsAt_92 : decode cX1_seatsAt 92 = .ok (.iload 4, 2) := by decide +kernel
theorem dX1_seatsAt_94 : decode cX1_seatsAt 94 = .ok (.ireturn, 1) := by decide +kernel
theorem dX1_isDrawnBy_0 : decode cX1_isDrawnBy 0 = .ok (.aload_n 0, 1) := by decide +kernel
theorem dX1_isDrawnBy_1 : decode cX1_isDrawnBy 1 = .ok (.iload_n 1, 1) := by decide +kernel
theorem dX1_isDrawnBy_2 : decode cX1_isDrawnBy 2 = .ok (.invokevirtual 78, 3) := by decide +kernel
theorem dX1_isDrawnBy_5 : decode cX1_isDrawnBy 5 = .ok (.istore_n 3, 1) := by decide +kernel
theorem dX1_isDrawnBy_6 : decode cX1_isDrawnBy 6 = .ok (.iload_n 3, 1) := by decide +kernel
theorem dX1_isDrawnBy_7 : decode cX1_isDrawnBy 7 = .ok (.iconst (-1), 1) := by decide +kernel
theorem dX1_isDrawnBy_8 : decode cX1_isDrawnBy 8 = .ok (.if_icmp .eq 27, 3) := by decide +kernel
theorem dX1_isDrawnBy_11 : decode cX1_isDrawnBy 11 = .ok (.iload_n 3, 1) := by decide +kernel
theorem dX1_isDrawnBy_12 : decode cX1_isDrawnBy 12 = .ok (.iload_n 2, 1) := by decide +kernel
theorem dX1_isDrawnBy_13 : decode cX1_isDrawnBy 13 = .ok (.if_icmp .eq 22, 3) := by decide +kernel
theorem dX1_isDrawnBy_16 : decode cX1_isDrawnBy 16 = .ok (.aload_n 0, 1) := by decide +kernel
theorem dX1_isDrawnBy_17 : decode cX1_isDrawnBy 17 = .ok (.getfield 30, 3) := by decide +kernel
theorem dX1_isDrawnBy_20 : decode cX1_isDrawnBy 20 = .ok (.iload_n 3, 1) := by decide +kernel
theorem dX1_isDrawnBy_21 : decode cX1_isDrawnBy 21 = .ok (.invokevirtual 109, 3) := by decide +kernel
theorem dX1_isDrawnBy_24 : decode cX1_isDrawnBy 24 = .ok (.getfield 133, 3) := by decide +kernel
theorem dX1_isDrawnBy_27 : decode cX1_isDrawnBy 27 = .ok (.iconst 4, 1) := by decide +kernel
theorem dX1_isDrawnBy_28 : decode cX1_isDrawnBy 28 = .ok (.if_icmp .ne 7, 3) := by decide +kernel
theorem dX1_isDrawnBy_31 : decode cX1_isDrawnBy 31 = .ok (.iconst 1, 1) := by decide +kernel
theorem dX1_isDrawnBy_32 : decode cX1_isDrawnBy 32 = .ok (.goto 4, 3) := by decide +kernel
theorem dX1_isDrawnBy_35 : decode cX1_isDrawnBy 35 = .ok (.iconst 0, 1) := by decide +kernel
theorem dX1_isDrawnBy_36 : decode cX1_isDrawnBy 36 = .ok (.ireturn, 1) := by decide +kernel
theorem dX1_isCastOn_0 : decode cX1_isCastOn 0 = .ok (.aload_n 0, 1) := by decide +kernel
theorem dX1_isCastOn_1 : decode cX1_isCastOn 1 = .ok (.iload_n 1, 1) := by decide +kernel
theorem dX1_isCastOn_2 : decode cX1_isCastOn 2 = .ok (.invokevirtual 78, 3) := by decide +kernel
theorem dX1_isCastOn_5 : decode cX1_isCastOn 5 = .ok (.istore_n 3, 1) := by decide +kernel
theorem dX1_isCastOn_6 : decode cX1_isCastOn 6 = .ok (.iload_n 3, 1) := by decide +kernel
theorem dX1_isCastOn_7 : decode cX1_isCastOn 7 = .ok (.iconst (-1), 1) := by decide +kernel
theorem dX1_isCastOn_8 : decode cX1_isCastOn 8 = .ok (.if_icmp .eq 22, 3) := by decide +kernel
theorem dX1_isCastOn_11 : decode cX1_isCastOn 11 = .ok (.aload_n 0, 1) := by decide +kernel
theorem dX1_isCastOn_12 : decode cX1_isCastOn 12 = .ok (.getfield 30, 3) := by decide +kernel
theorem dX1_isCastOn_15 : decode cX1_isCastOn 15 = .ok (.iload_n 3, 1) := by decide +kernel
theorem dX1_isCastOn_16 : decode cX1_isCastOn 16 = .ok (.invokevirtual 109, 3) := by decide +kernel
theorem dX1_isCastOn_19 : decode cX1_isCastOn 19 = .ok (.getfield 113, 3) := by decide +kernel
theorem dX1_isCastOn_22 : decode cX1_isCastOn 22 = .ok (.iload_n 2, 1) := by decide +kernel
theorem dX1_isCastOn_23 : decode cX1_isCastOn 23 = .ok (.if_icmp .ne 7, 3) := by decide +kernel
theorem dX1_isCastOn_26 : decode cX1_isCastOn 26 = .ok (.iconst 1, 1) := by decide +kernel
theorem dX1_isCastOn_27 : decode cX1_isCastOn 27 = .ok (.goto 4, 3) := by decide +kernel
theorem dX1_isCastOn_30 : decode cX1_isCastOn 30 = .ok (.iconst 0, 1) := by decide +kernel
theorem dX1_isCastOn_31 : decode cX1_isCastOn 31 = .ok (.ireturn, 1) := by decide +kernel
theorem dX1_titleOn_0 : decode cX1_titleOn 0 = .ok (.iload_n 1, 1) := by decide +kernel
theorem dX1_titleOn_1 : decode cX1_titleOn 1 = .ok (.ifCond .lt 9, 3) := by decide +kernel
theorem dX1_titleOn_4 : decode cX1_titleOn 4 = .ok (.iload_n 1, 1) := by decide +kernel
theorem dX1_titleOn_5 : decode cX1_titleOn 5 = .ok (.bipush 12, 2) := by decide +kernel
theorem dX1_titleOn_7 : decode cX1_titleOn 7 = .ok (.if_icmp .lt 5, 3) := by decide +kernel
theorem dX1_titleOn_10 : decode cX1_titleOn 10 = .ok (.iconst (-1), 1) := by decide +kernel
theorem dX1_titleOn_11 : decode cX1_titleOn 11 = .ok (.ireturn, 1) := by decide +kernel
theorem dX1_titleOn_12 : decode cX1_titleOn 12 = .ok (.aload_n 0, 1) := by decide +kernel
theorem dX1_titleOn_13 : decode cX1_titleOn 13 = .ok (.getfield 9, 3) := by decide +kernel
theorem dX1_titleOn_16 : decode cX1_titleOn 16 = .ok (.iload_n 1, 1) := by decide +kernel
theorem dX1_titleOn_17 : decode cX1_titleOn 17 = .ok (.iaload, 1) := by decide +kernel
theorem dX1_titleOn_18 : decode cX1_titleOn 18 = .ok (.istore_n 2, 1) := by decide +kernel
theorem dX1_titleOn_19 : decode cX1_titleOn 19 = .ok (.iload_n 2, 1) := by decide +kernel
theorem dX1_titleOn_20 : decode cX1_titleOn 20 = .ok (.ifCond .lt 18, 3) := by decide +kernel
theorem dX1_titleOn_23 : decode cX1_titleOn 23 = .ok (.iload_n 2, 1) := by decide +kernel
theorem dX1_titleOn_24 : decode cX1_titleOn 24 = .ok (.aload_n 0, 1) := by decide +kernel
theorem dX1_titleOn_25 : decode cX1_titleOn 25 = .ok (.getfield 30, 3) := by decide +kernel
theorem dX1_titleOn_28 : decode cX1_titleOn 28 = .ok (.getfield 70, 3) := by decide +kernel
theorem dX1_titleOn_31 : decode cX1_titleOn 31 = .ok (.if_icmp .ge 7, 3) := by decide +kernel
theorem dX1_titleOn_34 : decode cX1_titleOn 34 = .ok (.iload_n 2, 1) := by decide +kernel
theorem dX1_titleOn_35 : decode cX1_titleOn 35 = .ok (.goto 4, 3) := by decide +kernel
theorem dX1_titleOn_38 : decode cX1_titleOn 38 = .ok (.iconst (-1), 1) := by decide +kernel
theorem dX1_titleOn_39 : decode cX1_titleOn 39 = .ok (.ireturn, 1) := by decide +kernel
theorem dX2_init_0 : decode cX2_init 0 = .ok (.aload_n 0, 1) := by decide +kernel
theorem dX2_init_1 : decode cX2_init 1 = .ok (.invokespecial 3, 3) := by decide +kernel
theorem dX2_init_4 : decode cX2_init 4 = .ok (.aload_n 0, 1) := by decide +kernel
theorem dX2_init_5 : decode cX2_init 5 = .ok (.iconst 4, 1) := by decide +kernel
theorem dX2_init_6 : decode cX2_init 6 = .ok (.newarray .int, 2) := by decide +kernel
theorem dX2_init_8 : decode cX2_init 8 = .ok (.putfield 9, 3) := by decide +kernel
theorem dX2_init_11 : decode cX2_init 11 = .ok (.aload_n 0, 1) := by decide +kernel
theorem dX2_init_12 : decode cX2_init 12 = .ok (.bipush 12, 2) := by decide +kernel
theorem dX2_init_14 : decode cX2_init 14 = .ok (.newarray .int, 2) := by decide +kernel
theorem dX2_init_16 : decode cX2_init 16 = .ok (.putfield 15, 3) := by decide +kernel
theorem dX2_init_19 : decode cX2_init 19 = .ok (.aload_n 0, 1) := by decide +kernel
theorem dX2_init_20 : decode cX2_init 20 = .ok (.aload_n 1, 1) := by decide +kernel
theorem dX2_init_21 : decode cX2_init 21 = .ok (.putfield 18, 3) := by decide +kernel
theorem dX2_init_24 : decode cX2_init 24 = .ok (.aload_n 0, 1) := by decide +kernel
theorem dX2_init_25 : decode cX2_init 25 = .ok (.aload_n 2, 1) := by decide +kernel
theorem dX2_init_26 : decode cX2_init 26 = .ok (.putfield 22, 3) := by decide +kernel
theorem dX2_init_29 : decode cX2_init 29 = .ok (.return_, 1) := by decide +kernel
theorem dX2_seek_0 : decode cX2_seek 0 = .ok (.aload_n 0, 1) := by decide +kernel
theorem dX2_seek_1 : decode cX2_seek 1 = .ok (.aload_n 1, 1) := by decide +kernel
theorem dX2_seek_2 : decode cX2_seek 2 = .ok (.iload_n 2, 1) := by decide +kernel
theorem dX2_seek_3 : decode cX2_seek 3 = .ok (.iload_n 3, 1) := by decide +kernel
theorem dX2_seek_4 : decode cX2_seek 4 = .ok (.invokevirtual 26, 3) := by decide +kernel
theorem dX2_seek_7 : decode cX2_seek 7 = .ok (.aload_n 1, 1) := by decide +kernel
theorem dX2_seek_8 : decode cX2_seek 8 = .ok (.getfield 30, 3) := by decide +kernel
theorem dX2_seek_11 : decode cX2_seek 11 = .ok (.iconst 0, 1) := by decide +kernel
theorem dX2_seek_12 : decode cX2_seek 12 = .ok (.aload_n 0, 1) := by decide +kernel
theorem dX2_seek_13 : decode cX2_seek 13 = .ok (.getfield 22, 3) := by decide +kernel
theorem dX2_seek_16 : decode cX2_seek 16 = .ok (.getfield 30, 3) := by decide +kernel
theorem dX2_seek_19 : decode cX2_seek 19 = .ok (.iconst 0, 1) := by decide +kernel
theorem dX2_seek_20 : decode cX2_seek 20 = .ok (.bipush 12, 2) := by decide +kernel
theorem dX2_seek_22 : decode cX2_seek 22 = .ok (.invokestatic 33, 3) := by decide +kernel
theorem dX2_seek_25 : decode cX2_seek 25 = .ok (.iconst 1, 1) := by decide +kernel
theorem dX2_seek_26 : decode cX2_seek 26 = .ok (.istore 4, 2) := by decide +kernel
theorem dX2_seek_28 : decode cX2_seek 28 = .ok (.iconst 0, 1) := by decide +kernel
theorem dX2_seek_29 : decode cX2_seek 29 = .ok (.istore 5, 2) := by decide +kernel
theorem dX2_seek_31 : decode cX2_seek 31 = .ok (.iload 5, 2) := by decide +kernel
theorem dX2_seek_33 : decode cX2_seek 33 = .ok (.aload_n 0, 1) := by decide +kernel
theorem dX2_seek_34 : decode cX2_seek 34 = .ok (.getfield 39, 3) := by decide +kernel
theorem dX2_seek_37 : decode cX2_seek 37 = .ok (.if_icmp .ge 23, 3) := by decide +kernel
theorem dX2_seek_40 : decode cX2_seek 40 = .ok (.iload 4, 2) := by decide +kernel
theorem dX2_seek_42 : decode cX2_seek 42 = .ok (.aload_n 0, 1) := by decide +kernel
theorem dX2_seek_43 : decode cX2_seek 43 = .ok (.getfield 18, 3) := by decide +kernel
theorem dX2_seek_46 : decode cX2_seek 46 = .ok (.getfield 43, 3) := by decide +kernel
theorem dX2_seek_49 : decode cX2_seek 49 = .ok (.iconst 1, 1) := by decide +kernel
theorem dX2_seek_50 : decode cX2_seek 50 = .ok (.iadd, 1) := by decide +kernel
theorem dX2_seek_51 : decode cX2_seek 51 = .ok (.imul, 1) := by decide +kernel
theorem dX2_seek_52 : decode cX2_seek 52 = .ok (.istore 4, 2) := by decide +kernel
theorem dX2_seek_54 : decode cX2_seek 54 = .ok (.iinc 5 1, 3) := by decide +kernel
theorem dX2_seek_57 : decode cX2_seek 57 = .ok (.goto (-26), 3) := by decide +kernel
theorem dX2_seek_60 : decode cX2_seek 60 = .ok (.iconst 0, 1) := by decide +kernel
theorem dX2_seek_61 : decode cX2_seek 61 = .ok (.istore 5, 2) := by decide +kernel
theorem dX2_seek_63 : decode cX2_seek 63 = .ok (.iload 5, 2) := by decide +kernel
theorem dX2_seek_65 : decode cX2_seek 65 = .ok (.iload 4, 2) := by decide +kernel
theorem dX2_seek_67 : decode cX2_seek 67 = .ok (.if_icmp .ge 38, 3) := by decide +kernel
theorem dX2_seek_70 : decode cX2_seek 70 = .ok (.aload_n 0, 1) := by decide +kernel
theorem dX2_seek_71 : decode cX2_seek 71 = .ok (.iload 5, 2) := by decide +kernel
theorem dX2_seek_73 : decode cX2_seek 73 = .ok (.invokevirtual 48, 3) := by decide +kernel
theorem dX2_seek_76 : decode cX2_seek 76 = .ok (.aload_n 0, 1) := by decide +kernel
theorem dX2_seek_77 : decode cX2_seek 77 = .ok (.getfield 22, 3) := by decide +kernel
theorem dX2_seek_80 : decode cX2_seek 80 = .ok (.invokevirtual 52, 3) := by decide +kernel
theorem dX2_seek_83 : decode cX2_seek 83 = .ok (.iload 5, 2) := by decide +kernel
theorem dX2_seek_85 : decode cX2_seek 85 = .ok (.ifCond .eq 10, 3) := by decide +kernel
theorem dX2_seek_88 : decode cX2_seek 88 = .ok (.aload_n 0, 1) := by decide +kernel
theorem dX2_seek_89 : decode cX2_seek 89 = .ok (.invokevirtual 55, 3) := by decide +kernel
theorem dX2_seek_92 : decode cX2_seek 92 = .ok (.ifCond .eq 7, 3) := by decide +kernel
theorem dX2_seek_95 : decode cX2_seek 95 = .ok (.aload_n 0, 1) := by decide +kernel
theorem dX2_seek_96 : decode cX2_seek 96 = .ok (.invokevirtual 59, 3) := by decide +kernel
theorem dX2_seek_99 : decode cX2_seek 99 = .ok (.iinc 5 1, 3) := by decide +kernel
theorem dX2_seek_102 : decode cX2_seek 102 = .ok (.goto (-39), 3) := by decide +kernel
theorem dX2_seek_105 : decode cX2_seek 105 = .ok (.return_, 1) := by decide +kernel
theorem dX2_gatherOpen_0 : decode cX2_gatherOpen 0 = .ok (.aload_n 0, 1) := by decide +kernel
theorem dX2_gatherOpen_1 : decode cX2_gatherOpen 1 = .ok (.iconst 0, 1) := by decide +kernel
theorem dX2_gatherOpen_2 : decode cX2_gatherOpen 2 = .ok (.putfield 39, 3) := by decide +kernel
theorem dX2_gatherOpen_5 : decode cX2_gatherOpen 5 = .ok (.iload_n 2, 1) := by decide +kernel
theorem dX2_gatherOpen_6 : decode cX2_gatherOpen 6 = .ok (.istore 4, 2) := by decide +kernel
theorem dX2_gatherOpen_8 : decode cX2_gatherOpen 8 = .ok (.iload 4, 2) := by decide +kernel
theorem dX2_gatherOpen_10 : decode cX2_gatherOpen 10 = .ok (.iload_n 3, 1) := by decide +kernel
theorem dX2_gatherOpen_11 : decode cX2_gatherOpen 11 = .ok (.if_icmp .gt 47, 3) := by decide +kernel
theorem dX2_gatherOpen_14 : decode cX2_gatherOpen 14 = .ok (.aload_n 0, 1) := by decide +kernel
theorem dX2_gatherOpen_15 : decode cX2_gatherOpen 15 = .ok (.getfield 39, 3) := by decide +kernel
theorem dX2_gatherOpen_18 : decode cX2_gatherOpen 18 = .ok (.iconst 4, 1) := by decide +kernel
theorem dX2_gatherOpen_19 : decode cX2_gatherOpen 19 = .ok (.if_icmp .ge 39, 3) := by decide +kernel
theorem dX2_gatherOpen_22 : decode cX2_gatherOpen 22 = .ok (.aload_n 1, 1) := by decide +kernel
theorem dX2_gatherOpen_23 : decode cX2_gatherOpen 23 = .ok (.iload 4, 2) := by decide +kernel
theorem dX2_gatherOpen_25 : decode cX2_gatherOpen 25 = .ok (.invokevirtual 62, 3) := by decide +kernel
theorem dX2_gatherOpen_28 : decode cX2_gatherOpen 28 = .ok (.ifCond .eq 24, 3) := by decide +kernel
theorem dX2_gatherOpen_31 : decode cX2_gatherOpen 31 = .ok (.aload_n 0, 1) := by decide +kernel
theorem dX2_gatherOpen_32 : decode cX2_gatherOpen 32 = .ok (.getfield 9, 3) := by decide +kernel
theorem dX2_gatherOpen_35 : decode cX2_gatherOpen 35 = .ok (.aload_n 0, 1) := by decide +kernel
theorem dX2_gatherOpen_36 : decode cX2_gatherOpen 36 = .ok (.getfield 39, 3) := by decide +kernel
theorem dX2_gatherOpen_39 : decode cX2_gatherOpen 39 = .ok (.iload 4, 2) := by decide +kernel
theorem dX2_gatherOpen_41 : decode cX2_gatherOpen 41 = .ok (.iastore, 1) := by decide +kernel
theorem dX2_gatherOpen_42 : decode cX2_gatherOpen 42 = .ok (.aload_n 0, 1) := by decide +kernel
theorem dX2_gatherOpen_43 : decode cX2_gatherOpen 43 = .ok (.dup, 1) := by decide +kernel
theorem dX2_gatherOpen_44 : decode cX2_gatherOpen 44 = .ok (.getfield 39, 3) := by decide +kernel
theorem dX2_gatherOpen_47 : decode cX2_gatherOpen 47 = .ok (.iconst 1, 1) := by decide +kernel
theorem dX2_gatherOpen_48 : decode cX2_gatherOpen 48 = .ok (.iadd, 1) := by decide +kernel
theorem dX2_gatherOpen_49 : decode cX2_gatherOpen 49 = .ok (.putfield 39, 3) := by decide +kernel
theorem dX2_gatherOpen_52 : decode cX2_gatherOpen 52 = .ok (.iinc 4 1, 3) := by decide +kernel
theorem dX2_gatherOpen_55 : decode cX2_gatherOpen 55 = .ok (.goto (-47), 3) := by decide +kernel
theorem dX2_gatherOpen_58 : decode cX2_gatherOpen 58 = .ok (.return_, 1) := by decide +kernel
theorem dX2_fill_0 : decode cX2_fill 0 = .ok (.aload_n 0, 1) := by decide +kernel
theorem dX2_fill_1 : decode cX2_fill 1 = .ok (.getfield 18, 3) := by decide +kernel
theorem dX2_fill_4 : decode cX2_fill 4 = .ok (.getfield 43, 3) := by decide +kernel
theorem dX2_fill_7 : decode cX2_fill 7 = .ok (.iconst 1, 1) := by decide +kernel
theorem dX2_fill_8 : decode cX2_fill 8 = .ok (.iadd, 1) := by decide +kernel
theorem dX2_fill_9 : decode cX2_fill 9 = .ok (.istore_n 2, 1) := by decide +kernel
theorem dX2_fill_10 : decode cX2_fill 10 = .ok (.iload_n 1, 1) := by decide +kernel
theorem dX2_fill_11 : decode cX2_fill 11 = .ok (.istore_n 3, 1) := by decide +kernel
theorem dX2_fill_12 : decode cX2_fill 12 = .ok (.aload_n 0, 1) := by decide +kernel
theorem dX2_fill_13 : decode cX2_fill 13 = .ok (.getfield 39, 3) := by decide +kernel
theorem dX2_fill_16 : decode cX2_fill 16 = .ok (.iconst 1, 1) := by decide +kernel
theorem dX2_fill_17 : decode cX2_fill 17 = .ok (.isub, 1) := by decide +kernel
theorem dX2_fill_18 : decode cX2_fill 18 = .ok (.istore 4, 2) := by decide +kernel
theorem dX2_fill_20 : decode cX2_fill 20 = .ok (.iload 4, 2) := by decide +kernel
theorem dX2_fill_22 : decode cX2_fill 22 = .ok (.ifCond .lt 33, 3) := by decide +kernel
theorem dX2_fill_25 : decode cX2_fill 25 = .ok (.aload_n 0, 1) := by decide +kernel
theorem dX2_fill_26 : decode cX2_fill 26 = .ok (.getfield 22, 3) := by decide +kernel
theorem dX2_fill_29 : decode cX2_fill 29 = .ok (.getfield 30, 3) := by decide +kernel
theorem dX2_fill_32 : decode cX2_fill 32 = .ok (.aload_n 0, 1) := by decide +kernel
theorem dX2_fill_33 : decode cX2_fill 33 = .ok (.getfield 9, 3) := by decide +kernel
theorem dX2_fill_36 : decode cX2_fill 36 = .ok (.iload 4, 2) := by decide +kernel
theorem dX2_fill_38 : decode cX2_fill 38 = .ok (.iaload, 1) := by decide +kernel
theorem dX2_fill_39 : decode cX2_fill 39 = .ok (.iload_n 3, 1) := by decide +kernel
theorem dX2_fill_40 : decode cX2_fill 40 = .ok (.iload_n 2, 1) := by decide +kernel
theorem dX2_fill_41 : decode cX2_fill 41 = .ok (.irem, 1) := by decide +kernel
theorem dX2_fill_42 : decode cX2_fill 42 = .ok (.iconst 1, 1) := by decide +kernel
theorem dX2_fill_43 : decode cX2_fill 43 = .ok (.isub, 1) := by decide +kernel
theorem dX2_fill_44 : decode cX2_fill 44 = .ok (.iastore, 1) := by decide +kernel
theorem dX2_fill_45 : decode cX2_fill 45 = .ok (.iload_n 3, 1) := by decide +kernel
theorem dX2_fill_46 : decode cX2_fill 46 = .ok (.iload_n 2, 1) := by decide +kernel
theorem dX2_fill_47 : decode cX2_fill 47 = .ok (.idiv, 1) := by decide +kernel
theorem dX2_fill_48 : decode cX2_fill 48 = .ok (.istore_n 3, 1) := by decide +kernel
theorem dX2_fill_49 : decode cX2_fill 49 = .ok (.iinc 4 (-1), 3) := by decide +kernel
theorem dX2_fill_52 : decode cX2_fill 52 = .ok (.goto (-32), 3) := by decide +kernel
theorem dX2_fill_55 : decode cX2_fill 55 = .ok (.return_, 1) := by decide +kernel
theorem dX2_isBetter_0 : decode cX2_isBetter 0 = .ok (.aload_n 0, 1) := by decide +kernel
theorem dX2_isBetter_1 : decode cX2_isBetter 1 = .ok (.getfield 22, 3) := by decide +kernel
theorem dX2_isBetter_4 : decode cX2_isBetter 4 = .ok (.getfield 66, 3) := by decide +kernel
theorem dX2_isBetter_7 : decode cX2_isBetter 7 = .ok (.aload_n 0, 1) := by decide +kernel
theorem dX2_isBetter_8 : decode cX2_isBetter 8 = .ok (.getfield 69, 3) := by decide +kernel
theorem dX2_isBetter_11 : decode cX2_isBetter 11 = .ok (.if_icmp .lt 31, 3) := by decide +kernel
theorem dX2_isBetter_14 : decode cX2_isBetter 14 = .ok (.aload_n 0, 1) := by decide +kernel
theorem dX2_isBetter_15 : decode cX2_isBetter 15 = .ok (.getfield 22, 3) := by decide +kernel
theorem dX2_isBetter_18 : decode cX2_isBetter 18 = .ok (.getfield 66, 3) := by decide +kernel
theorem dX2_isBetter_21 : decode cX2_isBetter 21 = .ok (.aload_n 0, 1) := by decide +kernel
theorem dX2_isBetter_22 : decode cX2_isBetter 22 = .ok (.getfield 69, 3) := by decide +kernel
theorem dX2_isBetter_25 : decode cX2_isBetter 25 = .ok (.if_icmp .ne 21, 3) := by decide +kernel
theorem dX2_isBetter_28 : decode cX2_isBetter 28 = .ok (.aload_n 0, 1) := by decide +kernel
theorem dX2_isBetter_29 : decode cX2_isBetter 29 = .ok (.getfield 22, 3) := by decide +kernel
theorem dX2_isBetter_32 : decode cX2_isBetter 32 = .ok (.getfield 70, 3) := by decide +kernel
theorem dX2_isBetter_35 : decode cX2_isBetter 35 = .ok (.aload_n 0, 1) := by decide +kernel
theorem dX2_isBetter_36 : decode cX2_isBetter 36 = .ok (.getfield 73, 3) := by decide +kernel
theorem dX2_isBetter_39 : decode cX2_isBetter 39 = .ok (.if_icmp .le 7, 3) := by decide +kernel
theorem dX2_isBetter_42 : decode cX2_isBetter 42 = .ok (.iconst 1, 1) := by decide +kernel
theorem dX2_isBetter_43 : decode cX2_isBetter 43 = .ok (.goto 4, 3) := by decide +kernel
theorem dX2_isBetter_46 : decode cX2_isBetter 46 = .ok (.iconst 0, 1) := by decide +kernel
theorem dX2_isBetter_47 : decode cX2_isBetter 47 = .ok (.ireturn, 1) := by decide +kernel
theorem dX2_keep_0 : decode cX2_keep 0 = .ok (.aload_n 0, 1) := by decide +kernel
theorem dX2_keep_1 : decode cX2_keep 1 = .ok (.aload_n 0, 1) := by decide +kernel
theorem dX2_keep_2 : decode cX2_keep 2 = .ok (.getfield 22, 3) := by decide +kernel
theorem dX2_keep_5 : decode cX2_keep 5 = .ok (.getfield 66, 3) := by decide +kernel
theorem dX2_keep_8 : decode cX2_keep 8 = .ok (.putfield 69, 3) := by decide +kernel
theorem dX2_keep_11 : decode cX2_keep 11 = .ok (.aload_n 0, 1) := by decide +kernel
theorem dX2_keep_12 : decode cX2_keep 12 = .ok (.aload_n 0, 1) := by decide +kernel
theorem dX2_keep_13 : decode cX2_keep 13 = .ok (.getfield 22, 3) := by decide +kernel
theorem dX2_keep_16 : decode cX2_keep 16 = .ok (.getfield 70, 3) := by decide +kernel
theorem dX2_keep_19 : decode cX2_keep 19 = .ok (.putfield 73, 3) := by decide +kernel
theorem dX2_keep_22 : decode cX2_keep 22 = .ok (.aload_n 0, 1) := by decide +kernel
theorem dX2_keep_23 : decode cX2_keep 23 = .ok (.getfield 22, 3) := by decide +kernel
theorem dX2_keep_26 : decode cX2_keep 26 = .ok (.getfield 30, 3) := by decide +kernel
end
section
theorem dX2_keep_29 : decode cX2_keep 29 = .ok (.iconst 0, 1) := by decide +kernel
theorem dX2_keep_30 : decode cX2_keep 30 = .ok (.aload_n 0, 1) := by decide +kernel
theorem dX2_keep_31 : decode cX2_keep 31 = .ok (.getfield 15, 3) := by decide +kernel
theorem dX2_keep_34 : decode cX2_keep 34 = .ok (.iconst 0, 1) := by decide +kernel
theorem dX2_keep_35 : decode cX2_keep 35 = .ok (.bipush 12, 2) := by decide +kernel
theorem dX2_keep_37 : decode cX2_keep 37 = .ok (.invokestatic 33, 3) := by decide +kernel
theorem dX2_keep_40 : decode cX2_keep 40 = .ok (.return_, 1) := by decide +kernel
theorem dX3_init_0 : decode cX3_init 0 = .ok (.aload_n 0, 1) := by decide +kernel
theorem dX3_init_1 : decode cX3_init 1 = .ok (.invokespecial 1, 3) := by decide +kernel
theorem dX3_init_4 : decode cX3_init 4 = .ok (.aload_n 0, 1) := by decide +kernel
theorem dX3_init_5 : decode cX3_init 5 = .ok (.new 7, 3) := by decide +kernel
theorem dX3_init_8 : decode cX3_init 8 = .ok (.dup, 1) := by decide +kernel
theorem dX3_init_9 : decode cX3_init 9 = .ok (.invokespecial 9, 3) := by decide +kernel
theorem dX3_init_12 : decode cX3_init 12 = .ok (.putfield 10, 3) := by decide +kernel
theorem dX3_init_15 : decode cX3_init 15 = .ok (.aload_n 0, 1) := by decide +kernel
theorem dX3_init_16 : decode cX3_init 16 = .ok (.new 16, 3) := by decide +kernel
theorem dX3_init_19 : decode cX3_init 19 = .ok (.dup, 1) := by decide +kernel
theorem dX3_init_20 : decode cX3_init 20 = .ok (.aload_n 0, 1) := by decide +kernel
theorem dX3_init_21 : decode cX3_init 21 = .ok (.getfield 10, 3) := by decide +kernel
theorem dX3_init_24 : decode cX3_init 24 = .ok (.invokespecial 18, 3) := by decide +kernel
theorem dX3_init_27 : decode cX3_init 27 = .ok (.putfield 21, 3) := by decide +kernel
theorem dX3_init_30 : decode cX3_init 30 = .ok (.aload_n 0, 1) := by decide +kernel
theorem dX3_init_31 : decode cX3_init 31 = .ok (.new 25, 3) := by decide +kernel
theorem dX3_init_34 : decode cX3_init 34 = .ok (.dup, 1) := by decide +kernel
theorem dX3_init_35 : decode cX3_init 35 = .ok (.invokespecial 27, 3) := by decide +kernel
theorem dX3_init_38 : decode cX3_init 38 = .ok (.putfield 28, 3) := by decide +kernel
theorem dX3_init_41 : decode cX3_init 41 = .ok (.return_, 1) := by decide +kernel
theorem dX3_copy_0 : decode cX3_copy 0 = .ok (.aload_n 0, 1) := by decide +kernel
theorem dX3_copy_1 : decode cX3_copy 1 = .ok (.getfield 10, 3) := by decide +kernel
theorem dX3_copy_4 : decode cX3_copy 4 = .ok (.aload_n 1, 1) := by decide +kernel
theorem dX3_copy_5 : decode cX3_copy 5 = .ok (.getfield 10, 3) := by decide +kernel
theorem dX3_copy_8 : decode cX3_copy 8 = .ok (.invokevirtual 32, 3) := by decide +kernel
theorem dX3_copy_11 : decode cX3_copy 11 = .ok (.aload_n 0, 1) := by decide +kernel
theorem dX3_copy_12 : decode cX3_copy 12 = .ok (.getfield 21, 3) := by decide +kernel
theorem dX3_copy_15 : decode cX3_copy 15 = .ok (.aload_n 1, 1) := by decide +kernel
theorem dX3_copy_16 : decode cX3_copy 16 = .ok (.getfield 21, 3) := by decide +kernel
theorem dX3_copy_19 : decode cX3_copy 19 = .ok (.getfield 35, 3) := by decide +kernel
theorem dX3_copy_22 : decode cX3_copy 22 = .ok (.invokevirtual 39, 3) := by decide +kernel
theorem dX3_copy_25 : decode cX3_copy 25 = .ok (.aload_n 0, 1) := by decide +kernel
theorem dX3_copy_26 : decode cX3_copy 26 = .ok (.getfield 28, 3) := by decide +kernel
theorem dX3_copy_29 : decode cX3_copy 29 = .ok (.aload_n 1, 1) := by decide +kernel
theorem dX3_copy_30 : decode cX3_copy 30 = .ok (.getfield 28, 3) := by decide +kernel
theorem dX3_copy_33 : decode cX3_copy 33 = .ok (.invokevirtual 43, 3) := by decide +kernel
theorem dX3_copy_36 : decode cX3_copy 36 = .ok (.return_, 1) := by decide +kernel
theorem dX4_init_0 : decode cX4_init 0 = .ok (.aload_n 0, 1) := by decide +kernel
theorem dX4_init_1 : decode cX4_init 1 = .ok (.invokespecial 3, 3) := by decide +kernel
theorem dX4_init_4 : decode cX4_init 4 = .ok (.aload_n 0, 1) := by decide +kernel
theorem dX4_init_5 : decode cX4_init 5 = .ok (.bipush 6, 2) := by decide +kernel
theorem dX4_init_7 : decode cX4_init 7 = .ok (.newarray .int, 2) := by decide +kernel
theorem dX4_init_9 : decode cX4_init 9 = .ok (.putfield 9, 3) := by decide +kernel
theorem dX4_init_12 : decode cX4_init 12 = .ok (.aload_n 0, 1) := by decide +kernel
theorem dX4_init_13 : decode cX4_init 13 = .ok (.bipush 6, 2) := by decide +kernel
theorem dX4_init_15 : decode cX4_init 15 = .ok (.newarray .int, 2) := by decide +kernel
theorem dX4_init_17 : decode cX4_init 17 = .ok (.putfield 15, 3) := by decide +kernel
theorem dX4_init_20 : decode cX4_init 20 = .ok (.return_, 1) := by decide +kernel
theorem dX4_note_0 : decode cX4_note 0 = .ok (.aload_n 0, 1) := by decide +kernel
theorem dX4_note_1 : decode cX4_note 1 = .ok (.getfield 18, 3) := by decide +kernel
theorem dX4_note_4 : decode cX4_note 4 = .ok (.ifCond .lt 42, 3) := by decide +kernel
theorem dX4_note_7 : decode cX4_note 7 = .ok (.aload_n 0, 1) := by decide +kernel
theorem dX4_note_8 : decode cX4_note 8 = .ok (.getfield 18, 3) := by decide +kernel
theorem dX4_note_11 : decode cX4_note 11 = .ok (.bipush 6, 2) := by decide +kernel
theorem dX4_note_13 : decode cX4_note 13 = .ok (.if_icmp .ge 33, 3) := by decide +kernel
theorem dX4_note_16 : decode cX4_note 16 = .ok (.aload_n 0, 1) := by decide +kernel
theorem dX4_note_17 : decode cX4_note 17 = .ok (.getfield 9, 3) := by decide +kernel
theorem dX4_note_20 : decode cX4_note 20 = .ok (.aload_n 0, 1) := by decide +kernel
theorem dX4_note_21 : decode cX4_note 21 = .ok (.getfield 18, 3) := by decide +kernel
theorem dX4_note_24 : decode cX4_note 24 = .ok (.iload_n 1, 1) := by decide +kernel
theorem dX4_note_25 : decode cX4_note 25 = .ok (.iastore, 1) := by decide +kernel
theorem dX4_note_26 : decode cX4_note 26 = .ok (.aload_n 0, 1) := by decide +kernel
theorem dX4_note_27 : decode cX4_note 27 = .ok (.getfield 15, 3) := by decide +kernel
theorem dX4_note_30 : decode cX4_note 30 = .ok (.aload_n 0, 1) := by decide +kernel
theorem dX4_note_31 : decode cX4_note 31 = .ok (.getfield 18, 3) := by decide +kernel
theorem dX4_note_34 : decode cX4_note 34 = .ok (.iload_n 2, 1) := by decide +kernel
theorem dX4_note_35 : decode cX4_note 35 = .ok (.iastore, 1) := by decide +kernel
theorem dX4_note_36 : decode cX4_note 36 = .ok (.aload_n 0, 1) := by decide +kernel
theorem dX4_note_37 : decode cX4_note 37 = .ok (.dup, 1) := by decide +kernel
theorem dX4_note_38 : decode cX4_note 38 = .ok (.getfield 18, 3) := by decide +kernel
theorem dX4_note_41 : decode cX4_note 41 = .ok (.iconst 1, 1) := by decide +kernel
theorem dX4_note_42 : decode cX4_note 42 = .ok (.iadd, 1) := by decide +kernel
theorem dX4_note_43 : decode cX4_note 43 = .ok (.putfield 18, 3) := by decide +kernel
theorem dX4_note_46 : decode cX4_note 46 = .ok (.return_, 1) := by decide +kernel
theorem dX4_sortsOf_0 : decode cX4_sortsOf 0 = .ok (.bipush 31, 2) := by decide +kernel
theorem dX4_sortsOf_2 : decode cX4_sortsOf 2 = .ok (.istore_n 2, 1) := by decide +kernel
theorem dX4_sortsOf_3 : decode cX4_sortsOf 3 = .ok (.iconst 0, 1) := by decide +kernel
theorem dX4_sortsOf_4 : decode cX4_sortsOf 4 = .ok (.istore_n 3, 1) := by decide +kernel
theorem dX4_sortsOf_5 : decode cX4_sortsOf 5 = .ok (.iload_n 3, 1) := by decide +kernel
theorem dX4_sortsOf_6 : decode cX4_sortsOf 6 = .ok (.aload_n 0, 1) := by decide +kernel
theorem dX4_sortsOf_7 : decode cX4_sortsOf 7 = .ok (.getfield 18, 3) := by decide +kernel
theorem dX4_sortsOf_10 : decode cX4_sortsOf 10 = .ok (.if_icmp .ge 28, 3) := by decide +kernel
theorem dX4_sortsOf_13 : decode cX4_sortsOf 13 = .ok (.aload_n 0, 1) := by decide +kernel
theorem dX4_sortsOf_14 : decode cX4_sortsOf 14 = .ok (.getfield 9, 3) := by decide +kernel
theorem dX4_sortsOf_17 : decode cX4_sortsOf 17 = .ok (.iload_n 3, 1) := by decide +kernel
theorem dX4_sortsOf_18 : decode cX4_sortsOf 18 = .ok (.iaload, 1) := by decide +kernel
theorem dX4_sortsOf_19 : decode cX4_sortsOf 19 = .ok (.iload_n 1, 1) := by decide +kernel
theorem dX4_sortsOf_20 : decode cX4_sortsOf 20 = .ok (.if_icmp .ne 12, 3) := by decide +kernel
theorem dX4_sortsOf_23 : decode cX4_sortsOf 23 = .ok (.iload_n 2, 1) := by decide +kernel
theorem dX4_sortsOf_24 : decode cX4_sortsOf 24 = .ok (.aload_n 0, 1) := by decide +kernel
theorem dX4_sortsOf_25 : decode cX4_sortsOf 25 = .ok (.getfield 15, 3) := by decide +kernel
theorem dX4_sortsOf_28 : decode cX4_sortsOf 28 = .ok (.iload_n 3, 1) := by decide +kernel
theorem dX4_sortsOf_29 : decode cX4_sortsOf 29 = .ok (.iaload, 1) := by decide +kernel
theorem dX4_sortsOf_30 : decode cX4_sortsOf 30 = .ok (.iand, 1) := by decide +kernel
theorem dX4_sortsOf_31 : decode cX4_sortsOf 31 = .ok (.istore_n 2, 1) := by decide +kernel
theorem dX4_sortsOf_32 : decode cX4_sortsOf 32 = .ok (.iinc 3 1, 3) := by decide +kernel
theorem dX4_sortsOf_35 : decode cX4_sortsOf 35 = .ok (.goto (-30), 3) := by decide +kernel
theorem dX4_sortsOf_38 : decode cX4_sortsOf 38 = .ok (.iload_n 2, 1) := by decide +kernel
theorem dX4_sortsOf_39 : decode cX4_sortsOf 39 = .ok (.ireturn, 1) := by decide +kernel
theorem dX4_copy_0 : decode cX4_copy 0 = .ok (.aload_n 0, 1) := by decide +kernel
theorem dX4_copy_1 : decode cX4_copy 1 = .ok (.aload_n 1, 1) := by decide +kernel
theorem dX4_copy_2 : decode cX4_copy 2 = .ok (.getfield 18, 3) := by decide +kernel
theorem dX4_copy_5 : decode cX4_copy 5 = .ok (.putfield 18, 3) := by decide +kernel
theorem dX4_copy_8 : decode cX4_copy 8 = .ok (.aload_n 1, 1) := by decide +kernel
theorem dX4_copy_9 : decode cX4_copy 9 = .ok (.getfield 9, 3) := by decide +kernel
theorem dX4_copy_12 : decode cX4_copy 12 = .ok (.iconst 0, 1) := by decide +kernel
theorem dX4_copy_13 : decode cX4_copy 13 = .ok (.aload_n 0, 1) := by decide +kernel
theorem dX4_copy_14 : decode cX4_copy 14 = .ok (.getfield 9, 3) := by decide +kernel
theorem dX4_copy_17 : decode cX4_copy 17 = .ok (.iconst 0, 1) := by decide +kernel
theorem dX4_copy_18 : decode cX4_copy 18 = .ok (.bipush 6, 2) := by decide +kernel
theorem dX4_copy_20 : decode cX4_copy 20 = .ok (.invokestatic 22, 3) := by decide +kernel
theorem dX4_copy_23 : decode cX4_copy 23 = .ok (.aload_n 1, 1) := by decide +kernel
theorem dX4_copy_24 : decode cX4_copy 24 = .ok (.getfield 15, 3) := by decide +kernel
theorem dX4_copy_27 : decode cX4_copy 27 = .ok (.iconst 0, 1) := by decide +kernel
theorem dX4_copy_28 : decode cX4_copy 28 = .ok (.aload_n 0, 1) := by decide +kernel
theorem dX4_copy_29 : decode cX4_copy 29 = .ok (.getfield 15, 3) := by decide +kernel
theorem dX4_copy_32 : decode cX4_copy 32 = .ok (.iconst 0, 1) := by decide +kernel
theorem dX4_copy_33 : decode cX4_copy 33 = .ok (.bipush 6, 2) := by decide +kernel
theorem dX4_copy_35 : decode cX4_copy 35 = .ok (.invokestatic 22, 3) := by decide +kernel
theorem dX4_copy_38 : decode cX4_copy 38 = .ok (.return_, 1) := by decide +kernel
theorem dX5_init_0 : decode cX5_init 0 = .ok (.aload_n 0, 1) := by decide +kernel
theorem dX5_init_1 : decode cX5_init 1 = .ok (.invokespecial 3, 3) := by decide +kernel
theorem dX5_init_4 : decode cX5_init 4 = .ok (.return_, 1) := by decide +kernel
theorem dX5_isOf_0 : decode cX5_isOf 0 = .ok (.iload_n 1, 1) := by decide +kernel
theorem dX5_isOf_1 : decode cX5_isOf 1 = .ok (.ifCond .eq 24, 3) := by decide +kernel
theorem dX5_isOf_4 : decode cX5_isOf 4 = .ok (.iload_n 1, 1) := by decide +kernel
theorem dX5_isOf_5 : decode cX5_isOf 5 = .ok (.aload_n 0, 1) := by decide +kernel
theorem dX5_isOf_6 : decode cX5_isOf 6 = .ok (.getfield 9, 3) := by decide +kernel
theorem dX5_isOf_9 : decode cX5_isOf 9 = .ok (.if_icmp .eq 16, 3) := by decide +kernel
theorem dX5_isOf_12 : decode cX5_isOf 12 = .ok (.iload_n 1, 1) := by decide +kernel
theorem dX5_isOf_13 : decode cX5_isOf 13 = .ok (.iconst 1, 1) := by decide +kernel
theorem dX5_isOf_14 : decode cX5_isOf 14 = .ok (.if_icmp .ne 15, 3) := by decide +kernel
theorem dX5_isOf_17 : decode cX5_isOf 17 = .ok (.aload_n 0, 1) := by decide +kernel
theorem dX5_isOf_18 : decode cX5_isOf 18 = .ok (.getfield 9, 3) := by decide +kernel
theorem dX5_isOf_21 : decode cX5_isOf 21 = .ok (.iconst 2, 1) := by decide +kernel
theorem dX5_isOf_22 : decode cX5_isOf 22 = .ok (.if_icmp .ne 7, 3) := by decide +kernel
theorem dX5_isOf_25 : decode cX5_isOf 25 = .ok (.iconst 1, 1) := by decide +kernel
theorem dX5_isOf_26 : decode cX5_isOf 26 = .ok (.goto 4, 3) := by decide +kernel
theorem dX5_isOf_29 : decode cX5_isOf 29 = .ok (.iconst 0, 1) := by decide +kernel
theorem dX5_isOf_30 : decode cX5_isOf 30 = .ok (.ireturn, 1) := by decide +kernel
theorem dX5_copy_0 : decode cX5_copy 0 = .ok (.aload_n 0, 1) := by decide +kernel
theorem dX5_copy_1 : decode cX5_copy 1 = .ok (.aload_n 1, 1) := by decide +kernel
theorem dX5_copy_2 : decode cX5_copy 2 = .ok (.getfield 9, 3) := by decide +kernel
theorem dX5_copy_5 : decode cX5_copy 5 = .ok (.putfield 9, 3) := by decide +kernel
theorem dX5_copy_8 : decode cX5_copy 8 = .ok (.aload_n 0, 1) := by decide +kernel
theorem dX5_copy_9 : decode cX5_copy 9 = .ok (.aload_n 1, 1) := by decide +kernel
theorem dX5_copy_10 : decode cX5_copy 10 = .ok (.getfield 15, 3) := by decide +kernel
theorem dX5_copy_13 : decode cX5_copy 13 = .ok (.putfield 15, 3) := by decide +kernel
theorem dX5_copy_16 : decode cX5_copy 16 = .ok (.aload_n 0, 1) := by decide +kernel
theorem dX5_copy_17 : decode cX5_copy 17 = .ok (.aload_n 1, 1) := by decide +kernel
theorem dX5_copy_18 : decode cX5_copy 18 = .ok (.getfield 18, 3) := by decide +kernel
theorem dX5_copy_21 : decode cX5_copy 21 = .ok (.putfield 18, 3) := by decide +kernel
theorem dX5_copy_24 : decode cX5_copy 24 = .ok (.aload_n 0, 1) := by decide +kernel
theorem dX5_copy_25 : decode cX5_copy 25 = .ok (.aload_n 1, 1) := by decide +kernel
theorem dX5_copy_26 : decode cX5_copy 26 = .ok (.getfield 21, 3) := by decide +kernel
theorem dX5_copy_29 : decode cX5_copy 29 = .ok (.putfield 21, 3) := by decide +kernel
theorem dX5_copy_32 : decode cX5_copy 32 = .ok (.aload_n 0, 1) := by decide +kernel
theorem dX5_copy_33 : decode cX5_copy 33 = .ok (.aload_n 1, 1) := by decide +kernel
theorem dX5_copy_34 : decode cX5_copy 34 = .ok (.getfield 24, 3) := by decide +kernel
theorem dX5_copy_37 : decode cX5_copy 37 = .ok (.putfield 24, 3) := by decide +kernel
theorem dX5_copy_40 : decode cX5_copy 40 = .ok (.aload_n 0, 1) := by decide +kernel
theorem dX5_copy_41 : decode cX5_copy 41 = .ok (.aload_n 1, 1) := by decide +kernel
theorem dX5_copy_42 : decode cX5_copy 42 = .ok (.getfield 27, 3) := by decide +kernel
theorem dX5_copy_45 : decode cX5_copy 45 = .ok (.putfield 27, 3) := by decide +kernel
theorem dX5_copy_48 : decode cX5_copy 48 = .ok (.return_, 1) := by decide +kernel
theorem dX5_read_0 : decode cX5_read 0 = .ok (.iload_n 2, 1) := by decide +kernel
theorem dX5_read_1 : decode cX5_read 1 = .ok (.ifCond .lt 12, 3) := by decide +kernel
theorem dX5_read_4 : decode cX5_read 4 = .ok (.iload_n 2, 1) := by decide +kernel
theorem dX5_read_5 : decode cX5_read 5 = .ok (.bipush 7, 2) := by decide +kernel
theorem dX5_read_7 : decode cX5_read 7 = .ok (.iadd, 1) := by decide +kernel
theorem dX5_read_8 : decode cX5_read 8 = .ok (.bipush 40, 2) := by decide +kernel
theorem dX5_read_10 : decode cX5_read 10 = .ok (.if_icmp .le 4, 3) := by decide +kernel
theorem dX5_read_13 : decode cX5_read 13 = .ok (.return_, 1) := by decide +kernel
theorem dX5_read_14 : decode cX5_read 14 = .ok (.aload_n 0, 1) := by decide +kernel
theorem dX5_read_15 : decode cX5_read 15 = .ok (.ldc 32, 2) := by decide +kernel
theorem dX5_read_17 : decode cX5_read 17 = .ok (.aload_n 1, 1) := by decide +kernel
theorem dX5_read_18 : decode cX5_read 18 = .ok (.getfield 34, 3) := by decide +kernel
theorem dX5_read_21 : decode cX5_read 21 = .ok (.iload_n 2, 1) := by decide +kernel
theorem dX5_read_22 : decode cX5_read 22 = .ok (.iaload, 1) := by decide +kernel
theorem dX5_read_23 : decode cX5_read 23 = .ok (.i2c, 1) := by decide +kernel
theorem dX5_read_24 : decode cX5_read 24 = .ok (.invokevirtual 38, 3) := by decide +kernel
theorem dX5_read_27 : decode cX5_read 27 = .ok (.putfield 9, 3) := by decide +kernel
theorem dX5_read_30 : decode cX5_read 30 = .ok (.aload_n 0, 1) := by decide +kernel
theorem dX5_read_31 : decode cX5_read 31 = .ok (.aload_n 1, 1) := by decide +kernel
theorem dX5_read_32 : decode cX5_read 32 = .ok (.getfield 34, 3) := by decide +kernel
theorem dX5_read_35 : decode cX5_read 35 = .ok (.iload_n 2, 1) := by decide +kernel
theorem dX5_read_36 : decode cX5_read 36 = .ok (.iconst 1, 1) := by decide +kernel
theorem dX5_read_37 : decode cX5_read 37 = .ok (.iadd, 1) := by decide +kernel
theorem dX5_read_38 : decode cX5_read 38 = .ok (.iaload, 1) := by decide +kernel
theorem dX5_read_39 : decode cX5_read 39 = .ok (.bipush 48, 2) := by decide +kernel
theorem dX5_read_41 : decode cX5_read 41 = .ok (.isub, 1) := by decide +kernel
theorem dX5_read_42 : decode cX5_read 42 = .ok (.putfield 15, 3) := by decide +kernel
theorem dX5_read_45 : decode cX5_read 45 = .ok (.aload_n 0, 1) := by decide +kernel
theorem dX5_read_46 : decode cX5_read 46 = .ok (.aload_n 1, 1) := by decide +kernel
theorem dX5_read_47 : decode cX5_read 47 = .ok (.getfield 34, 3) := by decide +kernel
theorem dX5_read_50 : decode cX5_read 50 = .ok (.iload_n 2, 1) := by decide +kernel
theorem dX5_read_51 : decode cX5_read 51 = .ok (.iconst 2, 1) := by decide +kernel
theorem dX5_read_52 : decode cX5_read 52 = .ok (.iadd, 1) := by decide +kernel
theorem dX5_read_53 : decode cX5_read 53 = .ok (.iaload, 1) := by decide +kernel
theorem dX5_read_54 : decode cX5_read 54 = .ok (.bipush 48, 2) := by decide +kernel
theorem dX5_read_56 : decode cX5_read 56 = .ok (.isub, 1) := by decide +kernel
theorem dX5_read_57 : decode cX5_read 57 = .ok (.putfield 18, 3) := by decide +kernel
theorem dX5_read_60 : decode cX5_read 60 = .ok (.aload_n 0, 1) := by decide +kernel
theorem dX5_read_61 : decode cX5_read 61 = .ok (.aload_n 1, 1) := by decide +kernel
theorem dX5_read_62 : decode cX5_read 62 = .ok (.getfield 34, 3) := by decide +kernel
theorem dX5_read_65 : decode cX5_read 65 = .ok (.iload_n 2, 1) := by decide +kernel
theorem dX5_read_66 : decode cX5_read 66 = .ok (.iconst 3, 1) := by decide +kernel
theorem dX5_read_67 : decode cX5_read 67 = .ok (.iadd, 1) := by decide +kernel
theorem dX5_read_68 : decode cX5_read 68 = .ok (.iaload, 1) := by decide +kernel
theorem dX5_read_69 : decode cX5_read 69 = .ok (.bipush 97, 2) := by decide +kernel
theorem dX5_read_71 : decode cX5_read 71 = .ok (.isub, 1) := by decide +kernel
theorem dX5_read_72 : decode cX5_read 72 = .ok (.putfield 21, 3) := by decide +kernel
theorem dX5_read_75 : decode cX5_read 75 = .ok (.aload_n 0, 1) := by decide +kernel
theorem dX5_read_76 : decode cX5_read 76 = .ok (.aload_n 1, 1) := by decide +kernel
theorem dX5_read_77 : decode cX5_read 77 = .ok (.getfield 34, 3) := by decide +kernel
theorem dX5_read_80 : decode cX5_read 80 = .ok (.iload_n 2, 1) := by decide +kernel
theorem dX5_read_81 : decode cX5_read 81 = .ok (.iconst 4, 1) := by decide +kernel
theorem dX5_read_82 : decode cX5_read 82 = .ok (.iadd, 1) := by decide +kernel
theorem dX5_read_83 : decode cX5_read 83 = .ok (.iaload, 1) := by decide +kernel
theorem dX5_read_84 : decode cX5_read 84 = .ok (.bipush 97, 2) := by decide +kernel
theorem dX5_read_86 : decode cX5_read 86 = .ok (.isub, 1) := by decide +kernel
theorem dX5_read_87 : decode cX5_read 87 = .ok (.putfield 24, 3) := by decide +kernel
theorem dX5_read_90 : decode cX5_read 90 = .ok (.aload_n 0, 1) := by decide +kernel
theorem dX5_read_91 : decode cX5_read 91 = .ok (.aload_n 1, 1) := by decide +kernel
theorem dX5_read_92 : decode cX5_read 92 = .ok (.getfield 34, 3) := by decide +kernel
theorem dX5_read_95 : decode cX5_read 95 = .ok (.iload_n 2, 1) := by decide +kernel
theorem dX5_read_96 : decode cX5_read 96 = .ok (.iconst 5, 1) := by decide +kernel
theorem dX5_read_97 : decode cX5_read 97 = .ok (.iadd, 1) := by decide +kernel
theorem dX5_read_98 : decode cX5_read 98 = .ok (.iaload, 1) := by decide +kernel
theorem dX5_read_99 : decode cX5_read 99 = .ok (.bipush 48, 2) := by decide +kernel
theorem dX5_read_101 : decode cX5_read 101 = .ok (.isub, 1) := by decide +kernel
theorem dX5_read_102 : decode cX5_read 102 = .ok (.putfield 27, 3) := by decide +kernel
theorem dX5_read_105 : decode cX5_read 105 = .ok (.return_, 1) := by decide +kernel
theorem dX6_init_0 : decode cX6_init 0 = .ok (.aload_n 0, 1) := by decide +kernel
theorem dX6_init_1 : decode cX6_init 1 = .ok (.invokespecial 3, 3) := by decide +kernel
theorem dX6_init_4 : decode cX6_init 4 = .ok (.aload_n 0, 1) := by decide +kernel
theorem dX6_init_5 : decode cX6_init 5 = .ok (.iconst 5, 1) := by decide +kernel
theorem dX6_init_6 : decode cX6_init 6 = .ok (.anewarray 9, 3) := by decide +kernel
theorem dX6_init_9 : decode cX6_init 9 = .ok (.putfield 11, 3) := by decide +kernel
theorem dX6_init_12 : decode cX6_init 12 = .ok (.iconst 0, 1) := by decide +kernel
theorem dX6_init_13 : decode cX6_init 13 = .ok (.istore_n 1, 1) := by decide +kernel
theorem dX6_init_14 : decode cX6_init 14 = .ok (.iload_n 1, 1) := by decide +kernel
theorem dX6_init_15 : decode cX6_init 15 = .ok (.iconst 5, 1) := by decide +kernel
theorem dX6_init_16 : decode cX6_init 16 = .ok (.if_icmp .ge 22, 3) := by decide +kernel
theorem dX6_init_19 : decode cX6_init 19 = .ok (.aload_n 0, 1) := by decide +kernel
theorem dX6_init_20 : decode cX6_init 20 = .ok (.getfield 11, 3) := by decide +kernel
theorem dX6_init_23 : decode cX6_init 23 = .ok (.iload_n 1, 1) := by decide +kernel
theorem dX6_init_24 : decode cX6_init 24 = .ok (.new 9, 3) := by decide +kernel
theorem dX6_init_27 : decode cX6_init 27 = .ok (.dup, 1) := by decide +kernel
theorem dX6_init_28 : decode cX6_init 28 = .ok (.invokespecial 17, 3) := by decide +kernel
theorem dX6_init_31 : decode cX6_init 31 = .ok (.aastore, 1) := by decide +kernel
theorem dX6_init_32 : decode cX6_init 32 = .ok (.iinc 1 1, 3) := by decide +kernel
theorem dX6_init_35 : decode cX6_init 35 = .ok (.goto (-21), 3) := by decide +kernel
theorem dX6_init_38 : decode cX6_init 38 = .ok (.return_, 1) := by decide +kernel
theorem dX6_has_0 : decode cX6_has 0 = .ok (.iload_n 1, 1) := by decide +kernel
theorem dX6_has_1 : decode cX6_has 1 = .ok (.ifCond .lt 15, 3) := by decide +kernel
theorem dX6_has_4 : decode cX6_has 4 = .ok (.iload_n 1, 1) := by decide +kernel
theorem dX6_has_5 : decode cX6_has 5 = .ok (.aload_n 0, 1) := by decide +kernel
theorem dX6_has_6 : decode cX6_has 6 = .ok (.getfield 18, 3) := by decide +kernel
theorem dX6_has_9 : decode cX6_has 9 = .ok (.if_icmp .ge 7, 3) := by decide +kernel
theorem dX6_has_12 : decode cX6_has 12 = .ok (.iconst 1, 1) := by decide +kernel
theorem dX6_has_13 : decode cX6_has 13 = .ok (.goto 4, 3) := by decide +kernel
theorem dX6_has_16 : decode cX6_has 16 = .ok (.iconst 0, 1) := by decide +kernel
theorem dX6_has_17 : decode cX6_has 17 = .ok (.ireturn, 1) := by decide +kernel
theorem dX6_at_0 : decode cX6_at 0 = .ok (.aload_n 0, 1) := by decide +kernel
theorem dX6_at_1 : decode cX6_at 1 = .ok (.getfield 11, 3) := by decide +kernel
theorem dX6_at_4 : decode cX6_at 4 = .ok (.iload_n 1, 1) := by decide +kernel
theorem dX6_at_5 : decode cX6_at 5 = .ok (.aaload, 1) := by decide +kernel
theorem dX6_at_6 : decode cX6_at 6 = .ok (.areturn, 1) := by decide +kernel
theorem dX6_append_0 : decode cX6_append 0 = .ok (.aload_n 0, 1) := by decide +kernel
theorem dX6_append_1 : decode cX6_append 1 = .ok (.getfield 18, 3) := by decide +kernel
theorem dX6_append_4 : decode cX6_append 4 = .ok (.iconst 5, 1) := by decide +kernel
theorem dX6_append_5 : decode cX6_append 5 = .ok (.if_icmp .lt 4, 3) := by decide +kernel
theorem dX6_append_8 : decode cX6_append 8 = .ok (.return_, 1) := by decide +kernel
theorem dX6_append_9 : decode cX6_append 9 = .ok (.aload_n 0, 1) := by decide +kernel
theorem dX6_append_10 : decode cX6_append 10 = .ok (.getfield 11, 3) := by decide +kernel
theorem dX6_append_13 : decode cX6_append 13 = .ok (.aload_n 0, 1) := by decide +kernel
theorem dX6_append_14 : decode cX6_append 14 = .ok (.getfield 18, 3) := by decide +kernel
theorem dX6_append_17 : decode cX6_append 17 = .ok (.aaload, 1) := by decide +kernel
theorem dX6_append_18 : decode cX6_append 18 = .ok (.astore 4, 2) := by decide +kernel
theorem dX6_append_20 : decode cX6_append 20 = .ok (.aload 4, 2) := by decide +kernel
theorem dX6_append_22 : decode cX6_append 22 = .ok (.iload_n 1, 1) := by decide +kernel
theorem dX6_append_23 : decode cX6_append 23 = .ok (.putfield 22, 3) := by decide +kernel
theorem dX6_append_26 : decode cX6_append 26 = .ok (.aload 4, 2) := by decide +kernel
theorem dX6_append_28 : decode cX6_append 28 = .ok (.iload_n 2, 1) := by decide +kernel
theorem dX6_append_29 : decode cX6_append 29 = .ok (.putfield 25, 3) := by decide +kernel
theorem dX6_append_32 : decode cX6_append 32 = .ok (.aload 4, 2) := by decide +kernel
theorem dX6_append_34 : decode cX6_append 34 = .ok (.iload_n 3, 1) := by decide +kernel
theorem dX6_append_35 : decode cX6_append 35 = .ok (.putfield 28, 3) := by decide +kernel
theorem dX6_append_38 : decode cX6_append 38 = .ok (.aload 4, 2) := by decide +kernel
theorem dX6_append_40 : decode cX6_append 40 = .ok (.iconst 0, 1) := by decide +kernel
theorem dX6_append_41 : decode cX6_append 41 = .ok (.putfield 31, 3) := by decide +kernel
theorem dX6_append_44 : decode cX6_append 44 = .ok (.aload 4, 2) := by decide +kernel
theorem dX6_append_46 : decode cX6_append 46 = .ok (.bipush 11, 2) := by decide +kernel
theorem dX6_append_48 : decode cX6_append 48 = .ok (.putfield 34, 3) := by decide +kernel
theorem dX6_append_51 : decode cX6_append 51 = .ok (.aload 4, 2) := by decide +kernel
theorem dX6_append_53 : decode cX6_append 53 = .ok (.iconst 5, 1) := by decide +kernel
theorem dX6_append_54 : decode cX6_append 54 = .ok (.putfield 37, 3) := by decide +kernel
theorem dX6_append_57 : decode cX6_append 57 = .ok (.aload_n 0, 1) := by decide +kernel
theorem dX6_append_58 : decode cX6_append 58 = .ok (.dup, 1) := by decide +kernel
theorem dX6_append_59 : decode cX6_append 59 = .ok (.getfield 18, 3) := by decide +kernel
theorem dX6_append_62 : decode cX6_append 62 = .ok (.iconst 1, 1) := by decide +kernel
theorem dX6_append_63 : decode cX6_append 63 = .ok (.iadd, 1) := by decide +kernel
theorem dX6_append_64 : decode cX6_append 64 = .ok (.putfield 18, 3) := by decide +kernel
theorem dX6_append_67 : decode cX6_append 67 = .ok (.return_, 1) := by decide +kernel
theorem dX6_read_0 : decode cX6_read 0 = .ok (.aload_n 0, 1) := by decide +kernel
theorem dX6_read_1 : decode cX6_read 1 = .ok (.aload_n 1, 1) := by decide +kernel
theorem dX6_read_2 : decode cX6_read 2 = .ok (.getfield 40, 3) := by decide +kernel
theorem dX6_read_5 : decode cX6_read 5 = .ok (.iconst 1, 1) := by decide +kernel
theorem dX6_read_6 : decode cX6_read 6 = .ok (.iadd, 1) := by decide +kernel
theorem dX6_read_7 : decode cX6_read 7 = .ok (.bipush 7, 2) := by decide +kernel
theorem dX6_read_9 : decode cX6_read 9 = .ok (.idiv, 1) := by decide +kernel
theorem dX6_read_10 : decode cX6_read 10 = .ok (.iconst 5, 1) := by decide +kernel
theorem dX6_read_11 : decode cX6_read 11 = .ok (.invokestatic 45, 3) := by decide +kernel
theorem dX6_read_14 : decode cX6_read 14 = .ok (.putfield 18, 3) := by decide +kernel
theorem dX6_read_17 : decode cX6_read 17 = .ok (.iconst 0, 1) := by decide +kernel
theorem dX6_read_18 : decode cX6_read 18 = .ok (.istore_n 2, 1) := by decide +kernel
theorem dX6_read_19 : decode cX6_read 19 = .ok (.iload_n 2, 1) := by decide +kernel
theorem dX6_read_20 : decode cX6_read 20 = .ok (.aload_n 0, 1) := by decide +kernel
theorem dX6_read_21 : decode cX6_read 21 = .ok (.getfield 18, 3) := by decide +kernel
theorem dX6_read_24 : decode cX6_read 24 = .ok (.if_icmp .ge 23, 3) := by decide +kernel
theorem dX6_read_27 : decode cX6_read 27 = .ok (.aload_n 0, 1) := by decide +kernel
theorem dX6_read_28 : decode cX6_read 28 = .ok (.getfield 11, 3) := by decide +kernel
theorem dX6_read_31 : decode cX6_read 31 = .ok (.iload_n 2, 1) := by decide +kernel
theorem dX6_read_32 : decode cX6_read 32 = .ok (.aaload, 1) := by decide +kernel
theorem dX6_read_33 : decode cX6_read 33 = .ok (.aload_n 1, 1) := by decide +kernel
theorem dX6_read_34 : decode cX6_read 34 = .ok (.iload_n 2, 1) := by decide +kernel
theorem dX6_read_35 : decode cX6_read 35 = .ok (.bipush 7, 2) := by decide +kernel
theorem dX6_read_37 : decode cX6_read 37 = .ok (.imul, 1) := by decide +kernel
theorem dX6_read_38 : decode cX6_read 38 = .ok (.invokevirtual 51, 3) := by decide +kernel
theorem dX6_read_41 : decode cX6_read 41 = .ok (.iinc 2 1, 3) := by decide +kernel
theorem dX6_read_44 : decode cX6_read 44 = .ok (.goto (-25), 3) := by decide +kernel
theorem dX6_read_47 : decode cX6_read 47 = .ok (.return_, 1) := by decide +kernel
theorem dX6_copy_0 : decode cX6_copy 0 = .ok (.aload_n 0, 1) := by decide +kernel
theorem dX6_copy_1 : decode cX6_copy 1 = .ok (.aload_n 1, 1) := by decide +kernel
theorem dX6_copy_2 : decode cX6_copy 2 = .ok (.getfield 18, 3) := by decide +kernel
theorem dX6_copy_5 : decode cX6_copy 5 = .ok (.putfield 18, 3) := by decide +kernel
theorem dX6_copy_8 : decode cX6_copy 8 = .ok (.iconst 0, 1) := by decide +kernel
theorem dX6_copy_9 : decode cX6_copy 9 = .ok (.istore_n 2, 1) := by decide +kernel
theorem dX6_copy_10 : decode cX6_copy 10 = .ok (.iload_n 2, 1) := by decide +kernel
theorem dX6_copy_11 : decode cX6_copy 11 = .ok (.iconst 5, 1) := by decide +kernel
theorem dX6_copy_12 : decode cX6_copy 12 = .ok (.if_icmp .ge 24, 3) := by decide +kernel
theorem dX6_copy_15 : decode cX6_copy 15 = .ok (.aload_n 0, 1) := by decide +kernel
theorem dX6_copy_16 : decode cX6_copy 16 = .ok (.getfield 11, 3) := by decide +kernel
theorem dX6_copy_19 : decode cX6_copy 19 = .ok (.iload_n 2, 1) := by decide +kernel
theorem dX6_copy_20 : decode cX6_copy 20 = .ok (.aaload, 1) := by decide +kernel
theorem dX6_copy_21 : decode cX6_copy 21 = .ok (.aload_n 1, 1) := by decide +kernel
theorem dX6_copy_22 : decode cX6_copy 22 = .ok (.getfield 11, 3) := by decide +kernel
theorem dX6_copy_25 : decode cX6_copy 25 = .ok (.iload_n 2, 1) := by decide +kernel
theorem dX6_copy_26 : decode cX6_copy 26 = .ok (.aaload, 1) := by decide +kernel
theorem dX6_copy_27 : decode cX6_copy 27 = .ok (.invokevirtual 55, 3) := by decide +kernel
theorem dX6_copy_30 : decode cX6_copy 30 = .ok (.iinc 2 1, 3) := by decide +kernel
theorem dX6_copy_33 : decode cX6_copy 33 = .ok (.goto (-23), 3) := by decide +kernel
theorem dX6_copy_36 : decode cX6_copy 36 = .ok (.return_, 1) := by decide +kernel
theorem dX7_init_0 : decode cX7_init 0 = .ok (.aload_n 0, 1) := by decide +kernel
theorem dX7_init_1 : decode cX7_init 1 = .ok (.invokespecial 1, 3) := by decide +kernel
theorem dX7_init_4 : decode cX7_init 4 = .ok (.aload_n 0, 1) := by decide +kernel
theorem dX7_init_5 : decode cX7_init 5 = .ok (.new 7, 3) := by decide +kernel
theorem dX7_init_8 : decode cX7_init 8 = .ok (.dup, 1) := by decide +kernel
theorem dX7_init_9 : decode cX7_init 9 = .ok (.invokespecial 9, 3) := by decide +kernel
theorem dX7_init_12 : decode cX7_init 12 = .ok (.putfield 10, 3) := by decide +kernel
theorem dX7_init_15 : decode cX7_init 15 = .ok (.aload_n 0, 1) := by decide +kernel
theorem dX7_init_16 : decode cX7_init 16 = .ok (.new 16, 3) := by decide +kernel
theorem dX7_init_19 : decode cX7_init 19 = .ok (.dup, 1) := by decide +kernel
theorem dX7_init_20 : decode cX7_init 20 = .ok (.invokespecial 18, 3) := by decide +kernel
theorem dX7_init_23 : decode cX7_init 23 = .ok (.putfield 19, 3) := by decide +kernel
theorem dX7_init_26 : decode cX7_init 26 = .ok (.aload_n 0, 1) := by decide +kernel
theorem dX7_init_27 : decode cX7_init 27 = .ok (.new 16, 3) := by decide +kernel
theorem dX7_init_30 : decode cX7_init 30 = .ok (.dup, 1) := by decide +kernel
theorem dX7_init_31 : decode cX7_init 31 = .ok (.invokespecial 18, 3) := by decide +kernel
theorem dX7_init_34 : decode cX7_init 34 = .ok (.putfield 23, 3) := by decide +kernel
theorem dX7_init_37 : decode cX7_init 37 = .ok (.aload_n 0, 1) := by decide +kernel
theorem dX7_init_38 : decode cX7_init 38 = .ok (.new 26, 3) := by decide +kernel
theorem dX7_init_41 : decode cX7_init 41 = .ok (.dup, 1) := by decide +kernel
theorem dX7_init_42 : decode cX7_init 42 = .ok (.aload_n 0, 1) := by decide +kernel
theorem dX7_init_43 : decode cX7_init 43 = .ok (.getfield 19, 3) := by decide +kernel
theorem dX7_init_46 : decode cX7_init 46 = .ok (.getfield 28, 3) := by decide +kernel
theorem dX7_init_49 : decode cX7_init 49 = .ok (.invokespecial 32, 3) := by decide +kernel
theorem dX7_init_52 : decode cX7_init 52 = .ok (.putfield 35, 3) := by decide +kernel
theorem dX7_init_55 : decode cX7_init 55 = .ok (.aload_n 0, 1) := by decide +kernel
theorem dX7_init_56 : decode cX7_init 56 = .ok (.new 39, 3) := by decide +kernel
theorem dX7_init_59 : decode cX7_init 59 = .ok (.dup, 1) := by decide +kernel
theorem dX7_init_60 : decode cX7_init 60 = .ok (.aload_n 0, 1) := by decide +kernel
theorem dX7_init_61 : decode cX7_init 61 = .ok (.getfield 19, 3) := by decide +kernel
theorem dX7_init_64 : decode cX7_init 64 = .ok (.getfield 28, 3) := by decide +kernel
theorem dX7_init_67 : decode cX7_init 67 = .ok (.aload_n 0, 1) := by decide +kernel
theorem dX7_init_68 : decode cX7_init 68 = .ok (.getfield 35, 3) := by decide +kernel
theorem dX7_init_71 : decode cX7_init 71 = .ok (.invokespecial 41, 3) := by decide +kernel
theorem dX7_init_74 : decode cX7_init 74 = .ok (.putfield 44, 3) := by decide +kernel
theorem dX7_init_77 : decode cX7_init 77 = .ok (.return_, 1) := by decide +kernel
theorem dX7_letter_0 : decode cX7_letter 0 = .ok (.iload_n 1, 1) := by decide +kernel
theorem dX7_letter_1 : decode cX7_letter 1 = .ok (.bipush 32, 2) := by decide +kernel
theorem dX7_letter_3 : decode cX7_letter 3 = .ok (.if_icmp .lt 9, 3) := by decide +kernel
theorem dX7_letter_6 : decode cX7_letter 6 = .ok (.iload_n 1, 1) := by decide +kernel
theorem dX7_letter_7 : decode cX7_letter 7 = .ok (.bipush 126, 2) := by decide +kernel
theorem dX7_letter_9 : decode cX7_letter 9 = .ok (.if_icmp .le 6, 3) := by decide +kernel
theorem dX7_letter_12 : decode cX7_letter 12 = .ok (.bipush (-102), 2) := by decide +kernel
theorem dX7_letter_14 : decode cX7_letter 14 = .ok (.ireturn, 1) := by decide +kernel
theorem dX7_letter_15 : decode cX7_letter 15 = .ok (.aload_n 0, 1) := by decide +kernel
theorem dX7_letter_16 : decode cX7_letter 16 = .ok (.getfield 10, 3) := by decide +kernel
theorem dX7_letter_19 : decode cX7_letter 19 = .ok (.getfield 48, 3) := by decide +kernel
theorem dX7_letter_22 : decode cX7_letter 22 = .ok (.bipush 40, 2) := by decide +kernel
theorem dX7_letter_24 : decode cX7_letter 24 = .ok (.if_icmp .lt 6, 3) := by decide +kernel
theorem dX7_letter_27 : decode cX7_letter 27 = .ok (.bipush (-104), 2) := by decide +kernel
theorem dX7_letter_29 : decode cX7_letter 29 = .ok (.ireturn, 1) := by decide +kernel
theorem dX7_letter_30 : decode cX7_letter 30 = .ok (.aload_n 0, 1) := by decide +kernel
theorem dX7_letter_31 : decode cX7_letter 31 = .ok (.getfield 10, 3) := by decide +kernel
theorem dX7_letter_34 : decode cX7_letter 34 = .ok (.iload_n 1, 1) := by decide +kernel
theorem dX7_letter_35 : decode cX7_letter 35 = .ok (.invokevirtual 52, 3) := by decide +kernel
theorem dX7_letter_38 : decode cX7_letter 38 = .ok (.aload_n 0, 1) := by decide +kernel
theorem dX7_letter_39 : decode cX7_letter 39 = .ok (.getfield 10, 3) := by decide +kernel
theorem dX7_letter_42 : decode cX7_letter 42 = .ok (.getfield 48, 3) := by decide +kernel
theorem dX7_letter_45 : decode cX7_letter 45 = .ok (.ireturn, 1) := by decide +kernel
theorem dX7_blank_0 : decode cX7_blank 0 = .ok (.aload_n 0, 1) := by decide +kernel
theorem dX7_blank_1 : decode cX7_blank 1 = .ok (.getfield 10, 3) := by decide +kernel
theorem dX7_blank_4 : decode cX7_blank 4 = .ok (.getfield 48, 3) := by decide +kernel
theorem dX7_blank_7 : decode cX7_blank 7 = .ok (.istore_n 1, 1) := by decide +kernel
theorem dX7_blank_8 : decode cX7_blank 8 = .ok (.aload_n 0, 1) := by decide +kernel
theorem dX7_blank_9 : decode cX7_blank 9 = .ok (.getfield 10, 3) := by decide +kernel
theorem dX7_blank_12 : decode cX7_blank 12 = .ok (.iconst 0, 1) := by decide +kernel
theorem dX7_blank_13 : decode cX7_blank 13 = .ok (.putfield 48, 3) := by decide +kernel
theorem dX7_blank_16 : decode cX7_blank 16 = .ok (.iload_n 1, 1) := by decide +kernel
theorem dX7_blank_17 : decode cX7_blank 17 = .ok (.ireturn, 1) := by decide +kernel
theorem dX7_fault_0 : decode cX7_fault 0 = .ok (.aload_n 0, 1) := by decide +kernel
theorem dX7_fault_1 : decode cX7_fault 1 = .ok (.getfield 10, 3) := by decide +kernel
theorem dX7_fault_4 : decode cX7_fault 4 = .ok (.invokevirtual 56, 3) := by decide +kernel
theorem dX7_fault_7 : decode cX7_fault 7 = .ok (.ireturn, 1) := by decide +kernel
theorem dX7_house_0 : decode cX7_house 0 = .ok (.aload_n 0, 1) := by decide +kernel
theorem dX7_house_1 : decode cX7_house 1 = .ok (.getfield 10, 3) := by decide +kernel
theorem dX7_house_4 : decode cX7_house 4 = .ok (.invokevirtual 60, 3) := by decide +kernel
theorem dX7_house_7 : decode cX7_house 7 = .ok (.ifCond .ne 6, 3) := by decide +kernel
theorem dX7_house_10 : decode cX7_house 10 = .ok (.bipush (-103), 2) := by decide +kernel
theorem dX7_house_12 : decode cX7_house 12 = .ok (.ireturn, 1) := by decide +kernel
theorem dX7_house_13 : decode cX7_house 13 = .ok (.aload_n 0, 1) := by decide +kernel
theorem dX7_house_14 : decode cX7_house 14 = .ok (.getfield 19, 3) := by decide +kernel
theorem dX7_house_17 : decode cX7_house 17 = .ok (.getfield 28, 3) := by decide +kernel
theorem dX7_house_20 : decode cX7_house 20 = .ok (.aload_n 0, 1) := by decide +kernel
theorem dX7_house_21 : decode cX7_house 21 = .ok (.getfield 10, 3) := by decide +kernel
theorem dX7_house_24 : decode cX7_house 24 = .ok (.invokevirtual 64, 3) := by decide +kernel
theorem dX7_house_27 : decode cX7_house 27 = .ok (.aload_n 0, 1) := by decide +kernel
theorem dX7_house_28 : decode cX7_house 28 = .ok (.getfield 19, 3) := by decide +kernel
theorem dX7_house_31 : decode cX7_house 31 = .ok (.getfield 70, 3) := by decide +kernel
theorem dX7_house_34 : decode cX7_house 34 = .ok (.invokevirtual 73, 3) := by decide +kernel
theorem dX7_house_37 : decode cX7_house 37 = .ok (.aload_n 0, 1) := by decide +kernel
theorem dX7_house_38 : decode cX7_house 38 = .ok (.getfield 19, 3) := by decide +kernel
theorem dX7_house_41 : decode cX7_house 41 = .ok (.getfield 76, 3) := by decide +kernel
theorem dX7_house_44 : decode cX7_house 44 = .ok (.iconst 0, 1) := by decide +kernel
theorem dX7_house_45 : decode cX7_house 45 = .ok (.putfield 80, 3) := by decide +kernel
theorem dX7_house_48 : decode cX7_house 48 = .ok (.aload_n 0, 1) := by decide +kernel
theorem dX7_house_49 : decode cX7_house 49 = .ok (.getfield 10, 3) := by decide +kernel
theorem dX7_house_52 : decode cX7_house 52 = .ok (.iconst 0, 1) := by decide +kernel
theorem dX7_house_53 : decode cX7_house 53 = .ok (.putfield 48, 3) := by decide +kernel
theorem dX7_house_56 : decode cX7_house 56 = .ok (.aload_n 0, 1) := by decide +kernel
theorem dX7_house_57 : decode cX7_house 57 = .ok (.iconst 0, 1) := by decide +kernel
theorem dX7_house_58 : decode cX7_house 58 = .ok (.putfield 85, 3) := by decide +kernel
theorem dX7_house_61 : decode cX7_house 61 = .ok (.aload_n 0, 1) := by decide +kernel
theorem dX7_house_62 : decode cX7_house 62 = .ok (.dup, 1) := by decide +kernel
theorem dX7_house_63 : decode cX7_house 63 = .ok (.getfield 89, 3) := by decide +kernel
theorem dX7_house_66 : decode cX7_house 66 = .ok (.iconst 1, 1) := by decide +kernel
theorem dX7_house_67 : decode cX7_house 67 = .ok (.iadd, 1) := by decide +kernel
theorem dX7_house_68 : decode cX7_house 68 = .ok (.putfield 89, 3) := by decide +kernel
theorem dX7_house_71 : decode cX7_house 71 = .ok (.aload_n 0, 1) := by decide +kernel
theorem dX7_house_72 : decode cX7_house 72 = .ok (.getfield 19, 3) := by decide +kernel
theorem dX7_house_75 : decode cX7_house 75 = .ok (.getfield 28, 3) := by decide +kernel
theorem dX7_house_78 : decode cX7_house 78 = .ok (.getfield 92, 3) := by decide +kernel
theorem dX7_house_81 : decode cX7_house 81 = .ok (.ireturn, 1) := by decide +kernel
theorem dX7_plan_0 : decode cX7_plan 0 = .ok (.aload_n 0, 1) := by decide +kernel
theorem dX7_plan_1 : decode cX7_plan 1 = .ok (.invokevirtual 93, 3) := by decide +kernel
theorem dX7_plan_4 : decode cX7_plan 4 = .ok (.ifCond .eq 23, 3) := by decide +kernel
theorem dX7_plan_7 : decode cX7_plan 7 = .ok (.aload_n 0, 1) := by decide +kernel
theorem dX7_plan_8 : decode cX7_plan 8 = .ok (.getfield 10, 3) := by decide +kernel
theorem dX7_plan_11 : decode cX7_plan 11 = .ok (.aload_n 0, 1) := by decide +kernel
theorem dX7_plan_12 : decode cX7_plan 12 = .ok (.getfield 19, 3) := by decide +kernel
theorem dX7_plan_15 : decode cX7_plan 15 = .ok (.getfield 28, 3) := by decide +kernel
theorem dX7_plan_18 : decode cX7_plan 18 = .ok (.getfield 92, 3) := by decide +kernel
theorem dX7_plan_21 : decode cX7_plan 21 = .ok (.invokevirtual 96, 3) := by decide +kernel
theorem dX7_plan_24 : decode cX7_plan 24 = .ok (.ifCond .ne 6, 3) := by decide +kernel
theorem dX7_plan_27 : decode cX7_plan 27 = .ok (.bipush (-103), 2) := by decide +kernel
theorem dX7_plan_29 : decode cX7_plan 29 = .ok (.ireturn, 1) := by decide +kernel
theorem dX7_plan_30 : decode cX7_plan 30 = .ok (.aload_n 0, 1) := by decide +kernel
theorem dX7_plan_31 : decode cX7_plan 31 = .ok (.getfield 19, 3) := by decide +kernel
theorem dX7_plan_34 : decode cX7_plan 34 = .ok (.getfield 70, 3) := by decide +kernel
theorem dX7_plan_37 : decode cX7_plan 37 = .ok (.aload_n 0, 1) := by decide +kernel
theorem dX7_plan_38 : decode cX7_plan 38 = .ok (.getfield 10, 3) := by decide +kernel
theorem dX7_plan_41 : decode cX7_plan 41 = .ok (.invokevirtual 100, 3) := by decide +kernel
theorem dX7_plan_44 : decode cX7_plan 44 = .ok (.aload_n 0, 1) := by decide +kernel
theorem dX7_plan_45 : decode cX7_plan 45 = .ok (.getfield 10, 3) := by decide +kernel
theorem dX7_plan_48 : decode cX7_plan 48 = .ok (.iconst 0, 1) := by decide +kernel
theorem dX7_plan_49 : decode cX7_plan 49 = .ok (.putfield 48, 3) := by decide +kernel
theorem dX7_plan_52 : decode cX7_plan 52 = .ok (.aload_n 0, 1) := by decide +kernel
theorem dX7_plan_53 : decode cX7_plan 53 = .ok (.getfield 19, 3) := by decide +kernel
theorem dX7_plan_56 : decode cX7_plan 56 = .ok (.getfield 70, 3) := by decide +kernel
theorem dX7_plan_59 : decode cX7_plan 59 = .ok (.invokevirtual 101, 3) := by decide +kernel
theorem dX7_plan_62 : decode cX7_plan 62 = .ok (.ireturn, 1) := by decide +kernel
theorem dX7_title_0 : decode cX7_title 0 = .ok (.aload_n 0, 1) := by decide +kernel
theorem dX7_title_1 : decode cX7_title 1 = .ok (.getfield 19, 3) := by decide +kernel
theorem dX7_title_4 : decode cX7_title 4 = .ok (.getfield 28, 3) := by decide +kernel
theorem dX7_title_7 : decode cX7_title 7 = .ok (.iload_n 1, 1) := by decide +kernel
theorem dX7_title_8 : decode cX7_title 8 = .ok (.invokevirtual 104, 3) := by decide +kernel
theorem dX7_title_11 : decode cX7_title 11 = .ok (.ifCond .ne 6, 3) := by decide +kernel
theorem dX7_title_14 : decode cX7_title 14 = .ok (.bipush (-101), 2) := by decide +kernel
theorem dX7_title_16 : decode cX7_title 16 = .ok (.ireturn, 1) := by decide +kernel
theorem dX7_title_17 : decode cX7_title 17 = .ok (.iload_n 2, 1) := by decide +kernel
theorem dX7_title_18 : decode cX7_title 18 = .ok (.ifCond .lt 9, 3) := by decide +kernel
theorem dX7_title_21 : decode cX7_title 21 = .ok (.iload_n 2, 1) := by decide +kernel
theorem dX7_title_22 : decode cX7_title 22 = .ok (.bipush 9, 2) := by decide +kernel
theorem dX7_title_24 : decode cX7_title 24 = .ok (.if_icmp .lt 6, 3) := by decide +kernel
theorem dX7_title_27 : decode cX7_title 27 = .ok (.bipush (-102), 2) := by decide +kernel
theorem dX7_title_29 : decode cX7_title 29 = .ok (.ireturn, 1) := by decide +kernel
theorem dX7_title_30 : decode cX7_title 30 = .ok (.aload_n 0, 1) := by decide +kernel
theorem dX7_title_31 : decode cX7_title 31 = .ok (.iload_n 1, 1) := by decide +kernel
theorem dX7_title_32 : decode cX7_title 32 = .ok (.iload_n 2, 1) := by decide +kernel
theorem dX7_title_33 : decode cX7_title 33 = .ok (.invokevirtual 107, 3) := by decide +kernel
theorem dX7_title_36 : decode cX7_title 36 = .ok (.ireturn, 1) := by decide +kernel
theorem dX7_as_0 : decode cX7_as 0 = .ok (.aload_n 0, 1) := by decide +kernel
theorem dX7_as_1 : decode cX7_as 1 = .ok (.getfield 19, 3) := by decide +kernel
theorem dX7_as_4 : decode cX7_as 4 = .ok (.getfield 28, 3) := by decide +kernel
theorem dX7_as_7 : decode cX7_as 7 = .ok (.iload_n 1, 1) := by decide +kernel
theorem dX7_as_8 : decode cX7_as 8 = .ok (.invokevirtual 104, 3) := by decide +kernel
theorem dX7_as_11 : decode cX7_as 11 = .ok (.ifCond .ne 6, 3) := by decide +kernel
theorem dX7_as_14 : decode cX7_as 14 = .ok (.bipush (-101), 2) := by decide +kernel
theorem dX7_as_16 : decode cX7_as 16 = .ok (.ireturn, 1) := by decide +kernel
theorem dX7_as_17 : decode cX7_as 17 = .ok (.iload_n 2, 1) := by decide +kernel
theorem dX7_as_18 : decode cX7_as 18 = .ok (.invokestatic 111, 3) := by decide +kernel
theorem dX7_as_21 : decode cX7_as 21 = .ok (.ifCond .ne 6, 3) := by decide +kernel
theorem dX7_as_24 : decode cX7_as 24 = .ok (.bipush (-102), 2) := by decide +kernel
theorem dX7_as_26 : decode cX7_as 26 = .ok (.ireturn, 1) := by decide +kernel
theorem dX7_as_27 : decode cX7_as 27 = .ok (.aload_n 0, 1) := by decide +kernel
theorem dX7_as_28 : decode cX7_as 28 = .ok (.getfield 19, 3) := by decide +kernel
theorem dX7_as_31 : decode cX7_as 31 = .ok (.getfield 28, 3) := by decide +kernel
theorem dX7_as_34 : decode cX7_as 34 = .ok (.iload_n 1, 1) := by decide +kernel
theorem dX7_as_35 : decode cX7_as 35 = .ok (.invokevirtual 114, 3) := by decide +kernel
theorem dX7_as_38 : decode cX7_as 38 = .ok (.iload_n 2, 1) := by decide +kernel
theorem dX7_as_39 : decode cX7_as 39 = .ok (.invokevirtual 118, 3) := by decide +kernel
theorem dX7_as_42 : decode cX7_as 42 = .ok (.ifCond .eq 7, 3) := by decide +kernel
theorem dX7_as_45 : decode cX7_as 45 = .ok (.iload_n 1, 1) := by decide +kernel
theorem dX7_as_46 : decode cX7_as 46 = .ok (.goto 4, 3) := by decide +kernel
theorem dX7_as_49 : decode cX7_as 49 = .ok (.iconst (-1), 1) := by decide +kernel
theorem dX7_as_50 : decode cX7_as 50 = .ok (.ireturn, 1) := by decide +kernel
theorem dX7_night_0 : decode cX7_night 0 = .ok (.aload_n 0, 1) := by decide +kernel
theorem dX7_night_1 : decode cX7_night 1 = .ok (.invokevirtual 93, 3) := by decide +kernel
theorem dX7_night_4 : decode cX7_night 4 = .ok (.ifCond .eq 10, 3) := by decide +kernel
theorem dX7_night_7 : decode cX7_night 7 = .ok (.iload_n 1, 1) := by decide +kernel
theorem dX7_night_8 : decode cX7_night 8 = .ok (.invokestatic 123, 3) := by decide +kernel
theorem dX7_night_11 : decode cX7_night 11 = .ok (.ifCond .ne 6, 3) := by decide +kernel
theorem dX7_night_14 : decode cX7_night 14 = .ok (.bipush (-101), 2) := by decide +kernel
theorem dX7_night_16 : decode cX7_night 16 = .ok (.ireturn, 1) := by decide +kernel
theorem dX7_night_17 : decode cX7_night 17 = .ok (.iload_n 2, 1) := by decide +kernel
theorem dX7_night_18 : decode cX7_night 18 = .ok (.ifCond .lt 8, 3) := by decide +kernel
theorem dX7_night_21 : decode cX7_night 21 = .ok (.iload_n 2, 1) := by decide +kernel
theorem dX7_night_22 : decode cX7_night 22 = .ok (.iconst 3, 1) := by decide +kernel
theorem dX7_night_23 : decode cX7_night 23 = .ok (.if_icmp .lt 6, 3) := by decide +kernel
theorem dX7_night_26 : decode cX7_night 26 = .ok (.bipush (-102), 2) := by decide +kernel
theorem dX7_night_28 : decode cX7_night 28 = .ok (.ireturn, 1) := by decide +kernel
theorem dX7_night_29 : decode cX7_night 29 = .ok (.aload_n 0, 1) := by decide +kernel
theorem dX7_night_30 : decode cX7_night 30 = .ok (.iload_n 1, 1) := by decide +kernel
theorem dX7_night_31 : decode cX7_night 31 = .ok (.iload_n 2, 1) := by decide +kernel
theorem dX7_night_32 : decode cX7_night 32 = .ok (.invokevirtual 126, 3) := by decide +kernel
theorem dX7_night_35 : decode cX7_night 35 = .ok (.ireturn, 1) := by decide +kernel
theorem dX7_play_0 : decode cX7_play 0 = .ok (.aload_n 0, 1) := by decide +kernel
theorem dX7_play_1 : decode cX7_play 1 = .ok (.invokevirtual 93, 3) := by decide +kernel
theorem dX7_play_4 : decode cX7_play 4 = .ok (.ifCond .eq 10, 3) := by decide +kernel
theorem dX7_play_7 : decode cX7_play 7 = .ok (.iload_n 1, 1) := by decide +kernel
theorem dX7_play_8 : decode cX7_play 8 = .ok (.invokestatic 123, 3) := by decide +kernel
theorem dX7_play_11 : decode cX7_play 11 = .ok (.ifCond .ne 6, 3) := by decide +kernel
theorem dX7_play_14 : decode cX7_play 14 = .ok (.bipush (-101), 2) := by decide +kernel
theorem dX7_play_16 : decode cX7_play 16 = .ok (.ireturn, 1) := by decide +kernel
theorem dX7_play_17 : decode cX7_play 17 = .ok (.iload_n 2, 1) := by decide +kernel
theorem dX7_play_18 : decode cX7_play 18 = .ok (.iconst (-1), 1) := by decide +kernel
theorem dX7_play_19 : decode cX7_play 19 = .ok (.if_icmp .eq 20, 3) := by decide +kernel
theorem dX7_play_22 : decode cX7_play 22 = .ok (.aload_n 0, 1) := by decide +kernel
theorem dX7_play_23 : decode cX7_play 23 = .ok (.getfield 19, 3) := by decide +kernel
theorem dX7_play_26 : decode cX7_play 26 = .ok (.getfield 28, 3) := by decide +kernel
theorem dX7_play_29 : decode cX7_play 29 = .ok (.iload_n 2, 1) := by decide +kernel
theorem dX7_play_30 : decode cX7_play 30 = .ok (.invokevirtual 104, 3) := by decide +kernel
theorem dX7_play_33 : decode cX7_play 33 = .ok (.ifCond .ne 6, 3) := by decide +kernel
theorem dX7_play_36 : decode cX7_play 36 = .ok (.bipush (-101), 2) := by decide +kernel
theorem dX7_play_38 : decode cX7_play 38 = .ok (.ireturn, 1) := by decide +kernel
theorem dX7_play_39 : decode cX7_play 39 = .ok (.aload_n 0, 1) := by decide +kernel
theorem dX7_play_40 : decode cX7_play 40 = .ok (.getfield 19, 3) := by decide +kernel
theorem dX7_play_43 : decode cX7_play 43 = .ok (.getfield 70, 3) := by decide +kernel
theorem dX7_play_46 : decode cX7_play 46 = .ok (.getfield 129, 3) := by decide +kernel
theorem dX7_play_49 : decode cX7_play 49 = .ok (.iload_n 1, 1) := by decide +kernel
theorem dX7_play_50 : decode cX7_play 50 = .ok (.iload_n 2, 1) := by decide +kernel
theorem dX7_play_51 : decode cX7_play 51 = .ok (.iastore, 1) := by decide +kernel
theorem dX7_play_52 : decode cX7_play 52 = .ok (.aload_n 0, 1) := by decide +kernel
theorem dX7_play_53 : decode cX7_play 53 = .ok (.getfield 19, 3) := by decide +kernel
theorem dX7_play_56 : decode cX7_play 56 = .ok (.getfield 70, 3) := by decide +kernel
theorem dX7_play_59 : decode cX7_play 59 = .ok (.invokevirtual 133, 3) := by decide +kernel
theorem dX7_play_62 : decode cX7_play 62 = .ok (.aload_n 0, 1) := by decide +kernel
theorem dX7_play_63 : decode cX7_play 63 = .ok (.getfield 19, 3) := by decide +kernel
theorem dX7_play_66 : decode cX7_play 66 = .ok (.getfield 70, 3) := by decide +kernel
theorem dX7_play_69 : decode cX7_play 69 = .ok (.getfield 136, 3) := by decide +kernel
theorem dX7_play_72 : decode cX7_play 72 = .ok (.ireturn, 1) := by decide +kernel
theorem dX7_delay_0 : decode cX7_delay 0 = .ok (.iload_n 1, 1) := by decide +kernel
theorem dX7_delay_1 : decode cX7_delay 1 = .ok (.iconst 1, 1) := by decide +kernel
theorem dX7_delay_2 : decode cX7_delay 2 = .ok (.if_icmp .lt 9, 3) := by decide +kernel
theorem dX7_delay_5 : decode cX7_delay 5 = .ok (.iload_n 1, 1) := by decide +kernel
theorem dX7_delay_6 : decode cX7_delay 6 = .ok (.bipush 12, 2) := by decide +kernel
theorem dX7_delay_8 : decode cX7_delay 8 = .ok (.if_icmp .lt 6, 3) := by decide +kernel
theorem dX7_delay_11 : decode cX7_delay 11 = .ok (.bipush (-102), 2) := by decide +kernel
theorem dX7_delay_13 : decode cX7_delay 13 = .ok (.ireturn, 1) := by decide +kernel
theorem dX7_delay_14 : decode cX7_delay 14 = .ok (.aload_n 0, 1) := by decide +kernel
theorem dX7_delay_15 : decode cX7_delay 15 = .ok (.invokevirtual 93, 3) := by decide +kernel
theorem dX7_delay_18 : decode cX7_delay 18 = .ok (.ifCond .ne 6, 3) := by decide +kernel
theorem dX7_delay_21 : decode cX7_delay 21 = .ok (.bipush (-103), 2) := by decide +kernel
theorem dX7_delay_23 : decode cX7_delay 23 = .ok (.ireturn, 1) := by decide +kernel
theorem dX7_delay_24 : decode cX7_delay 24 = .ok (.aload_n 0, 1) := by decide +kernel
theorem dX7_delay_25 : decode cX7_delay 25 = .ok (.getfield 19, 3) := by decide +kernel
theorem dX7_delay_28 : decode cX7_delay 28 = .ok (.getfield 70, 3) := by decide +kernel
theorem dX7_delay_31 : decode cX7_delay 31 = .ok (.iload_n 1, 1) := by decide +kernel
theorem dX7_delay_32 : decode cX7_delay 32 = .ok (.invokevirtual 139, 3) := by decide +kernel
theorem dX7_delay_35 : decode cX7_delay 35 = .ok (.aload_n 0, 1) := by decide +kernel
theorem dX7_delay_36 : decode cX7_delay 36 = .ok (.getfield 19, 3) := by decide +kernel
theorem dX7_delay_39 : decode cX7_delay 39 = .ok (.getfield 70, 3) := by decide +kernel
theorem dX7_delay_42 : decode cX7_delay 42 = .ok (.invokevirtual 101, 3) := by decide +kernel
theorem dX7_delay_45 : decode cX7_delay 45 = .ok (.ireturn, 1) := by decide +kernel
theorem dX7_add_0 : decode cX7_add 0 = .ok (.iload_n 1, 1) := by decide +kernel
theorem dX7_add_1 : decode cX7_add 1 = .ok (.invokestatic 111, 3) := by decide +kernel
theorem dX7_add_4 : decode cX7_add 4 = .ok (.ifCond .eq 21, 3) := by decide +kernel
theorem dX7_add_7 : decode cX7_add 7 = .ok (.iload_n 2, 1) := by decide +kernel
theorem dX7_add_8 : decode cX7_add 8 = .ok (.ifCond .lt 17, 3) := by decide +kernel
theorem dX7_add_11 : decode cX7_add 11 = .ok (.iload_n 2, 1) := by decide +kernel
theorem dX7_add_12 : decode cX7_add 12 = .ok (.iconst 5, 1) := by decide +kernel
theorem dX7_add_13 : decode cX7_add 13 = .ok (.if_icmp .ge 12, 3) := by decide +kernel
theorem dX7_add_16 : decode cX7_add 16 = .ok (.iload_n 3, 1) := by decide +kernel
theorem dX7_add_17 : decode cX7_add 17 = .ok (.ifCond .lt 8, 3) := by decide +kernel
theorem dX7_add_20 : decode cX7_add 20 = .ok (.iload_n 3, 1) := by decide +kernel
theorem dX7_add_21 : decode cX7_add 21 = .ok (.iconst 5, 1) := by decide +kernel
theorem dX7_add_22 : decode cX7_add 22 = .ok (.if_icmp .lt 6, 3) := by decide +kernel
theorem dX7_add_25 : decode cX7_add 25 = .ok (.bipush (-102), 2) := by decide +kernel
theorem dX7_add_27 : decode cX7_add 27 = .ok (.ireturn, 1) := by decide +kernel
theorem dX7_add_28 : decode cX7_add 28 = .ok (.aload_n 0, 1) := by decide +kernel
theorem dX7_add_29 : decode cX7_add 29 = .ok (.invokevirtual 93, 3) := by decide +kernel
theorem dX7_add_32 : decode cX7_add 32 = .ok (.ifCond .ne 6, 3) := by decide +kernel
theorem dX7_add_35 : decode cX7_add 35 = .ok (.bipush (-103), 2) := by decide +kernel
theorem dX7_add_37 : decode cX7_add 37 = .ok (.ireturn, 1) := by decide +kernel
theorem dX7_add_38 : decode cX7_add 38 = .ok (.aload_n 0, 1) := by decide +kernel
theorem dX7_add_39 : decode cX7_add 39 = .ok (.getfield 19, 3) := by decide +kernel
theorem dX7_add_42 : decode cX7_add 42 = .ok (.getfield 28, 3) := by decide +kernel
theorem dX7_add_45 : decode cX7_add 45 = .ok (.getfield 92, 3) := by decide +kernel
theorem dX7_add_48 : decode cX7_add 48 = .ok (.iconst 5, 1) := by decide +kernel
theorem dX7_add_49 : decode cX7_add 49 = .ok (.if_icmp .lt 6, 3) := by decide +kernel
theorem dX7_add_52 : decode cX7_add 52 = .ok (.bipush (-104), 2) := by decide +kernel
theorem dX7_add_54 : decode cX7_add 54 = .ok (.ireturn, 1) := by decide +kernel
theorem dX7_add_55 : decode cX7_add 55 = .ok (.aload_n 0, 1) := by decide +kernel
theorem dX7_add_56 : decode cX7_add 56 = .ok (.getfield 19, 3) := by decide +kernel
theorem dX7_add_59 : decode cX7_add 59 = .ok (.getfield 28, 3) := by decide +kernel
theorem dX7_add_62 : decode cX7_add 62 = .ok (.iload_n 1, 1) := by decide +kernel
theorem dX7_add_63 : decode cX7_add 63 = .ok (.iload_n 2, 1) := by decide +kernel
theorem dX7_add_64 : decode cX7_add 64 = .ok (.iload_n 3, 1) := by decide +kernel
theorem dX7_add_65 : decode cX7_add 65 = .ok (.invokevirtual 142, 3) := by decide +kernel
theorem dX7_add_68 : decode cX7_add 68 = .ok (.aload_n 0, 1) := by decide +kernel
theorem dX7_add_69 : decode cX7_add 69 = .ok (.getfield 19, 3) := by decide +kernel
theorem dX7_add_72 : decode cX7_add 72 = .ok (.getfield 70, 3) := by decide +kernel
theorem dX7_add_75 : decode cX7_add 75 = .ok (.invokevirtual 133, 3) := by decide +kernel
theorem dX7_add_78 : decode cX7_add 78 = .ok (.aload_n 0, 1) := by decide +kernel
theorem dX7_add_79 : decode cX7_add 79 = .ok (.getfield 19, 3) := by decide +kernel
theorem dX7_add_82 : decode cX7_add 82 = .ok (.getfield 28, 3) := by decide +kernel
theorem dX7_add_85 : decode cX7_add 85 = .ok (.getfield 92, 3) := by decide +kernel
theorem dX7_add_88 : decode cX7_add 88 = .ok (.iconst 1, 1) := by decide +kernel
theorem dX7_add_89 : decode cX7_add 89 = .ok (.isub, 1) := by decide +kernel
theorem dX7_add_90 : decode cX7_add 90 = .ok (.ireturn, 1) := by decide +kernel
theorem dX7_rights_0 : decode cX7_rights 0 = .ok (.aload_n 0, 1) := by decide +kernel
theorem dX7_rights_1 : decode cX7_rights 1 = .ok (.getfield 19, 3) := by decide +kernel
theorem dX7_rights_4 : decode cX7_rights 4 = .ok (.getfield 28, 3) := by decide +kernel
theorem dX7_rights_7 : decode cX7_rights 7 = .ok (.iload_n 1, 1) := by decide +kernel
theorem dX7_rights_8 : decode cX7_rights 8 = .ok (.invokevirtual 104, 3) := by decide +kernel
theorem dX7_rights_11 : decode cX7_rights 11 = .ok (.ifCond .ne 6, 3) := by decide +kernel
theorem dX7_rights_14 : decode cX7_rights 14 = .ok (.bipush (-101), 2) := by decide +kernel
theorem dX7_rights_16 : decode cX7_rights 16 = .ok (.ireturn, 1) := by decide +kernel
theorem dX7_rights_17 : decode cX7_rights 17 = .ok (.iload_n 2, 1) := by decide +kernel
theorem dX7_rights_18 : decode cX7_rights 18 = .ok (.iload_n 3, 1) := by decide +kernel
theorem dX7_rights_19 : decode cX7_rights 19 = .ok (.invokestatic 146, 3) := by decide +kernel
theorem dX7_rights_22 : decode cX7_rights 22 = .ok (.ifCond .ne 6, 3) := by decide +kernel
theorem dX7_rights_25 : decode cX7_rights 25 = .ok (.bipush (-102), 2) := by decide +kernel
theorem dX7_rights_27 : decode cX7_rights 27 = .ok (.ireturn, 1) := by decide +kernel
theorem dX7_rights_28 : decode cX7_rights 28 = .ok (.aload_n 0, 1) := by decide +kernel
theorem dX7_rights_29 : decode cX7_rights 29 = .ok (.getfield 19, 3) := by decide +kernel
theorem dX7_rights_32 : decode cX7_rights 32 = .ok (.getfield 28, 3) := by decide +kernel
theorem dX7_rights_35 : decode cX7_rights 35 = .ok (.iload_n 1, 1) := by decide +kernel
theorem dX7_rights_36 : decode cX7_rights 36 = .ok (.invokevirtual 114, 3) := by decide +kernel
theorem dX7_rights_39 : decode cX7_rights 39 = .ok (.astore 4, 2) := by decide +kernel
theorem dX7_rights_41 : decode cX7_rights 41 = .ok (.aload 4, 2) := by decide +kernel
theorem dX7_rights_43 : decode cX7_rights 43 = .ok (.iload_n 2, 1) := by decide +kernel
theorem dX7_rights_44 : decode cX7_rights 44 = .ok (.putfield 150, 3) := by decide +kernel
theorem dX7_rights_47 : decode cX7_rights 47 = .ok (.aload 4, 2) := by decide +kernel
theorem dX7_rights_49 : decode cX7_rights 49 = .ok (.iload_n 3, 1) := by decide +kernel
theorem dX7_rights_50 : decode cX7_rights 50 = .ok (.putfield 153, 3) := by decide +kernel
theorem dX7_rights_53 : decode cX7_rights 53 = .ok (.aload_n 0, 1) := by decide +kernel
theorem dX7_rights_54 : decode cX7_rights 54 = .ok (.getfield 19, 3) := by decide +kernel
theorem dX7_rights_57 : decode cX7_rights 57 = .ok (.getfield 70, 3) := by decide +kernel
theorem dX7_rights_60 : decode cX7_rights 60 = .ok (.invokevirtual 133, 3) := by decide +kernel
theorem dX7_rights_63 : decode cX7_rights 63 = .ok (.aload_n 0, 1) := by decide +kernel
theorem dX7_rights_64 : decode cX7_rights 64 = .ok (.getfield 19, 3) := by decide +kernel
theorem dX7_rights_67 : decode cX7_rights 67 = .ok (.getfield 70, 3) := by decide +kernel
theorem dX7_rights_70 : decode cX7_rights 70 = .ok (.getfield 136, 3) := by decide +kernel
theorem dX7_rights_73 : decode cX7_rights 73 = .ok (.ireturn, 1) := by decide +kernel
theorem dX7_be_0 : decode cX7_be 0 = .ok (.aload_n 0, 1) := by decide +kernel
theorem dX7_be_1 : decode cX7_be 1 = .ok (.getfield 19, 3) := by decide +kernel
theorem dX7_be_4 : decode cX7_be 4 = .ok (.getfield 28, 3) := by decide +kernel
theorem dX7_be_7 : decode cX7_be 7 = .ok (.iload_n 1, 1) := by decide +kernel
theorem dX7_be_8 : decode cX7_be 8 = .ok (.invokevirtual 104, 3) := by decide +kernel
theorem dX7_be_11 : decode cX7_be 11 = .ok (.ifCond .ne 6, 3) := by decide +kernel
theorem dX7_be_14 : decode cX7_be 14 = .ok (.bipush (-101), 2) := by decide +kernel
theorem dX7_be_16 : decode cX7_be 16 = .ok (.ireturn, 1) := by decide +kernel
theorem dX7_be_17 : decode cX7_be 17 = .ok (.iload_n 2, 1) := by decide +kernel
theorem dX7_be_18 : decode cX7_be 18 = .ok (.invokestatic 111, 3) := by decide +kernel
theorem dX7_be_21 : decode cX7_be 21 = .ok (.ifCond .ne 6, 3) := by decide +kernel
theorem dX7_be_24 : decode cX7_be 24 = .ok (.bipush (-102), 2) := by decide +kernel
theorem dX7_be_26 : decode cX7_be 26 = .ok (.ireturn, 1) := by decide +kernel
theorem dX7_be_27 : decode cX7_be 27 = .ok (.aload_n 0, 1) := by decide +kernel
theorem dX7_be_28 : decode cX7_be 28 = .ok (.getfield 19, 3) := by decide +kernel
theorem dX7_be_31 : decode cX7_be 31 = .ok (.getfield 28, 3) := by decide +kernel
theorem dX7_be_34 : decode cX7_be 34 = .ok (.iload_n 1, 1) := by decide +kernel
theorem dX7_be_35 : decode cX7_be 35 = .ok (.invokevirtual 114, 3) := by decide +kernel
theorem dX7_be_38 : decode cX7_be 38 = .ok (.astore_n 3, 1) := by decide +kernel
theorem dX7_be_39 : decode cX7_be 39 = .ok (.aload_n 3, 1) := by decide +kernel
theorem dX7_be_40 : decode cX7_be 40 = .ok (.getfield 156, 3) := by decide +kernel
theorem dX7_be_43 : decode cX7_be 43 = .ok (.istore 4, 2) := by decide +kernel
theorem dX7_be_45 : decode cX7_be 45 = .ok (.aload_n 3, 1) := by decide +kernel
theorem dX7_be_46 : decode cX7_be 46 = .ok (.iload_n 2, 1) := by decide +kernel
theorem dX7_be_47 : decode cX7_be 47 = .ok (.putfield 156, 3) := by decide +kernel
theorem dX7_be_50 : decode cX7_be 50 = .ok (.aload_n 0, 1) := by decide +kernel
theorem dX7_be_51 : decode cX7_be 51 = .ok (.getfield 19, 3) := by decide +kernel
theorem dX7_be_54 : decode cX7_be 54 = .ok (.getfield 70, 3) := by decide +kernel
theorem dX7_be_57 : decode cX7_be 57 = .ok (.invokevirtual 133, 3) := by decide +kernel
theorem dX7_be_60 : decode cX7_be 60 = .ok (.iload 4, 2) := by decide +kernel
theorem dX7_be_62 : decode cX7_be 62 = .ok (.ireturn, 1) := by decide +kernel
theorem dX7_best_0 : decode cX7_best 0 = .ok (.aload_n 0, 1) := by decide +kernel
theorem dX7_best_1 : decode cX7_best 1 = .ok (.invokevirtual 93, 3) := by decide +kernel
theorem dX7_best_4 : decode cX7_best 4 = .ok (.ifCond .eq 11, 3) := by decide +kernel
theorem dX7_best_7 : decode cX7_best 7 = .ok (.iload_n 1, 1) := by decide +kernel
theorem dX7_best_8 : decode cX7_best 8 = .ok (.iload_n 2, 1) := by decide +kernel
theorem dX7_best_9 : decode cX7_best 9 = .ok (.invokestatic 146, 3) := by decide +kernel
theorem dX7_best_12 : decode cX7_best 12 = .ok (.ifCond .ne 6, 3) := by decide +kernel
theorem dX7_best_15 : decode cX7_best 15 = .ok (.bipush (-101), 2) := by decide +kernel
theorem dX7_best_17 : decode cX7_best 17 = .ok (.ireturn, 1) := by decide +kernel
theorem dX7_best_18 : decode cX7_best 18 = .ok (.iload_n 3, 1) := by decide +kernel
theorem dX7_best_19 : decode cX7_best 19 = .ok (.ifCond .lt 8, 3) := by decide +kernel
theorem dX7_best_22 : decode cX7_best 22 = .ok (.iload_n 3, 1) := by decide +kernel
theorem dX7_best_23 : decode cX7_best 23 = .ok (.iconst 3, 1) := by decide +kernel
theorem dX7_best_24 : decode cX7_best 24 = .ok (.if_icmp .lt 6, 3) := by decide +kernel
theorem dX7_best_27 : decode cX7_best 27 = .ok (.bipush (-102), 2) := by decide +kernel
theorem dX7_best_29 : decode cX7_best 29 = .ok (.ireturn, 1) := by decide +kernel
theorem dX7_best_30 : decode cX7_best 30 = .ok (.aload_n 0, 1) := by decide +kernel
theorem dX7_best_31 : decode cX7_best 31 = .ok (.getfield 159, 3) := by decide +kernel
theorem dX7_best_34 : decode cX7_best 34 = .ok (.bipush 8, 2) := by decide +kernel
theorem dX7_best_36 : decode cX7_best 36 = .ok (.if_icmp .ge 19, 3) := by decide +kernel
theorem dX7_best_39 : decode cX7_best 39 = .ok (.aload_n 0, 1) := by decide +kernel
theorem dX7_best_40 : decode cX7_best 40 = .ok (.getfield 19, 3) := by decide +kernel
theorem dX7_best_43 : decode cX7_best 43 = .ok (.getfield 70, 3) := by decide +kernel
theorem dX7_best_46 : decode cX7_best 46 = .ok (.iload_n 1, 1) := by decide +kernel
theorem dX7_best_47 : decode cX7_best 47 = .ok (.iload_n 2, 1) := by decide +kernel
theorem dX7_best_48 : decode cX7_best 48 = .ok (.invokevirtual 162, 3) := by decide +kernel
theorem dX7_best_51 : decode cX7_best 51 = .ok (.iconst 4, 1) := by decide +kernel
theorem dX7_best_52 : decode cX7_best 52 = .ok (.if_icmp .le 6, 3) := by decide +kernel
theorem dX7_best_55 : decode cX7_best 55 = .ok (.bipush (-103), 2) := by decide +kernel
theorem dX7_best_57 : decode cX7_best 57 = .ok (.ireturn, 1) := by decide +kernel
theorem dX7_best_58 : decode cX7_best 58 = .ok (.aload_n 0, 1) := by decide +kernel
theorem dX7_best_59 : decode cX7_best 59 = .ok (.dup, 1) := by decide +kernel
theorem dX7_best_60 : decode cX7_best 60 = .ok (.getfield 159, 3) := by decide +kernel
theorem dX7_best_63 : decode cX7_best 63 = .ok (.iconst 1, 1) := by decide +kernel
theorem dX7_best_64 : decode cX7_best 64 = .ok (.iadd, 1) := by decide +kernel
theorem dX7_best_65 : decode cX7_best 65 = .ok (.putfield 159, 3) := by decide +kernel
theorem dX7_best_68 : decode cX7_best 68 = .ok (.aload_n 0, 1) := by decide +kernel
theorem dX7_best_69 : decode cX7_best 69 = .ok (.getfield 44, 3) := by decide +kernel
theorem dX7_best_72 : decode cX7_best 72 = .ok (.aload_n 0, 1) := by decide +kernel
theorem dX7_best_73 : decode cX7_best 73 = .ok (.getfield 19, 3) := by decide +kernel
theorem dX7_best_76 : decode cX7_best 76 = .ok (.getfield 70, 3) := by decide +kernel
theorem dX7_best_79 : decode cX7_best 79 = .ok (.iload_n 1, 1) := by decide +kernel
theorem dX7_best_80 : decode cX7_best 80 = .ok (.iload_n 2, 1) := by decide +kernel
theorem dX7_best_81 : decode cX7_best 81 = .ok (.invokevirtual 165, 3) := by decide +kernel
theorem dX7_best_84 : decode cX7_best 84 = .ok (.iload_n 3, 1) := by decide +kernel
theorem dX7_best_85 : decode cX7_best 85 = .ok (.ifCond .ne 11, 3) := by decide +kernel
theorem dX7_best_88 : decode cX7_best 88 = .ok (.aload_n 0, 1) := by decide +kernel
theorem dX7_best_89 : decode cX7_best 89 = .ok (.getfield 44, 3) := by decide +kernel
theorem dX7_best_92 : decode cX7_best 92 = .ok (.getfield 169, 3) := by decide +kernel
theorem dX7_best_95 : decode cX7_best 95 = .ok (.ireturn, 1) := by decide +kernel
theorem dX7_best_96 : decode cX7_best 96 = .ok (.iload_n 3, 1) := by decide +kernel
theorem dX7_best_97 : decode cX7_best 97 = .ok (.iconst 1, 1) := by decide +kernel
theorem dX7_best_98 : decode cX7_best 98 = .ok (.if_icmp .ne 11, 3) := by decide +kernel
theorem dX7_best_101 : decode cX7_best 101 = .ok (.aload_n 0, 1) := by decide +kernel
theorem dX7_best_102 : decode cX7_best 102 = .ok (.getfield 44, 3) := by decide +kernel
theorem dX7_best_105 : decode cX7_best 105 = .ok (.getfield 172, 3) := by decide +kernel
theorem dX7_best_108 : decode cX7_best 108 = .ok (.ireturn, 1) := by decide +kernel
theorem dX7_best_109 : decode cX7_best 109 = .ok (.aload_n 0, 1) := by decide +kernel
theorem dX7_best_110 : decode cX7_best 110 = .ok (.getfield 19, 3) := by decide +kernel
theorem dX7_best_113 : decode cX7_best 113 = .ok (.getfield 70, 3) := by decide +kernel
theorem dX7_best_116 : decode cX7_best 116 = .ok (.aload_n 0, 1) := by decide +kernel
theorem dX7_best_117 : decode cX7_best 117 = .ok (.getfield 44, 3) := by decide +kernel
theorem dX7_best_120 : decode cX7_best 120 = .ok (.getfield 175, 3) := by decide +kernel
theorem dX7_best_123 : decode cX7_best 123 = .ok (.invokevirtual 176, 3) := by decide +kernel
theorem dX7_best_126 : decode cX7_best 126 = .ok (.aload_n 0, 1) := by decide +kernel
theorem dX7_best_127 : decode cX7_best 127 = .ok (.getfield 19, 3) := by decide +kernel
theorem dX7_best_130 : decode cX7_best 130 = .ok (.getfield 70, 3) := by decide +kernel
theorem dX7_best_133 : decode cX7_best 133 = .ok (.invokevirtual 101, 3) := by decide +kernel
theorem dX7_best_136 : decode cX7_best 136 = .ok (.ireturn, 1) := by decide +kernel
theorem dX7_rank_0 : decode cX7_rank 0 = .ok (.iconst 0, 1) := by decide +kernel
theorem dX7_rank_1 : decode cX7_rank 1 = .ok (.istore_n 2, 1) := by decide +kernel
theorem dX7_rank_2 : decode cX7_rank 2 = .ok (.iload_n 2, 1) := by decide +kernel
theorem dX7_rank_3 : decode cX7_rank 3 = .ok (.aload_n 0, 1) := by decide +kernel
theorem dX7_rank_4 : decode cX7_rank 4 = .ok (.getfield 19, 3) := by decide +kernel
theorem dX7_rank_7 : decode cX7_rank 7 = .ok (.getfield 28, 3) := by decide +kernel
theorem dX7_rank_10 : decode cX7_rank 10 = .ok (.getfield 92, 3) := by decide +kernel
theorem dX7_rank_13 : decode cX7_rank 13 = .ok (.if_icmp .ge 26, 3) := by decide +kernel
theorem dX7_rank_16 : decode cX7_rank 16 = .ok (.aload_n 0, 1) := by decide +kernel
theorem dX7_rank_17 : decode cX7_rank 17 = .ok (.getfield 19, 3) := by decide +kernel
theorem dX7_rank_20 : decode cX7_rank 20 = .ok (.getfield 70, 3) := by decide +kernel
theorem dX7_rank_23 : decode cX7_rank 23 = .ok (.iload_n 2, 1) := by decide +kernel
theorem dX7_rank_24 : decode cX7_rank 24 = .ok (.invokevirtual 180, 3) := by decide +kernel
theorem dX7_rank_27 : decode cX7_rank 27 = .ok (.iload_n 1, 1) := by decide +kernel
theorem dX7_rank_28 : decode cX7_rank 28 = .ok (.if_icmp .ne 5, 3) := by decide +kernel
theorem dX7_rank_31 : decode cX7_rank 31 = .ok (.iload_n 2, 1) := by decide +kernel
theorem dX7_rank_32 : decode cX7_rank 32 = .ok (.ireturn, 1) := by decide +kernel
theorem dX7_rank_33 : decode cX7_rank 33 = .ok (.iinc 2 1, 3) := by decide +kernel
theorem dX7_rank_36 : decode cX7_rank 36 = .ok (.goto (-34), 3) := by decide +kernel
theorem dX7_rank_39 : decode cX7_rank 39 = .ok (.bipush (-101), 2) := by decide +kernel
theorem dX7_rank_41 : decode cX7_rank 41 = .ok (.ireturn, 1) := by decide +kernel
theorem dX7_see_0 : decode cX7_see 0 = .ok (.aload_n 0, 1) := by decide +kernel
theorem dX7_see_1 : decode cX7_see 1 = .ok (.getfield 19, 3) := by decide +kernel
theorem dX7_see_4 : decode cX7_see 4 = .ok (.getfield 28, 3) := by decide +kernel
theorem dX7_see_7 : decode cX7_see 7 = .ok (.iload_n 1, 1) := by decide +kernel
theorem dX7_see_8 : decode cX7_see 8 = .ok (.invokevirtual 104, 3) := by decide +kernel
theorem dX7_see_11 : decode cX7_see 11 = .ok (.ifCond .ne 6, 3) := by decide +kernel
theorem dX7_see_14 : decode cX7_see 14 = .ok (.bipush (-101), 2) := by decide +kernel
theorem dX7_see_16 : decode cX7_see 16 = .ok (.ireturn, 1) := by decide +kernel
theorem dX7_see_17 : decode cX7_see 17 = .ok (.iload_n 2, 1) := by decide +kernel
theorem dX7_see_18 : decode cX7_see 18 = .ok (.ifCond .lt 8, 3) := by decide +kernel
theorem dX7_see_21 : decode cX7_see 21 = .ok (.iload_n 2, 1) := by decide +kernel
theorem dX7_see_22 : decode cX7_see 22 = .ok (.iconst 4, 1) := by decide +kernel
theorem dX7_see_23 : decode cX7_see 23 = .ok (.if_icmp .lt 6, 3) := by decide +kernel
theorem dX7_see_26 : decode cX7_see 26 = .ok (.bipush (-102), 2) := by decide +kernel
theorem dX7_see_28 : decode cX7_see 28 = .ok (.ireturn, 1) := by decide +kernel
theorem dX7_see_29 : decode cX7_see 29 = .ok (.aload_n 0, 1) := by decide +kernel
theorem dX7_see_30 : decode cX7_see 30 = .ok (.getfield 19, 3) := by decide +kernel
theorem dX7_see_33 : decode cX7_see 33 = .ok (.getfield 76, 3) := by decide +kernel
theorem dX7_see_36 : decode cX7_see 36 = .ok (.getfield 80, 3) := by decide +kernel
theorem dX7_see_39 : decode cX7_see 39 = .ok (.bipush 6, 2) := by decide +kernel
theorem dX7_see_41 : decode cX7_see 41 = .ok (.if_icmp .lt 6, 3) := by decide +kernel
theorem dX7_see_44 : decode cX7_see 44 = .ok (.bipush (-104), 2) := by decide +kernel
theorem dX7_see_46 : decode cX7_see 46 = .ok (.ireturn, 1) := by decide +kernel
theorem dX7_see_47 : decode cX7_see 47 = .ok (.aload_n 0, 1) := by decide +kernel
theorem dX7_see_48 : decode cX7_see 48 = .ok (.getfield 19, 3) := by decide +kernel
theorem dX7_see_51 : decode cX7_see 51 = .ok (.getfield 76, 3) := by decide +kernel
theorem dX7_see_54 : decode cX7_see 54 = .ok (.iload_n 1, 1) := by decide +kernel
theorem dX7_see_55 : decode cX7_see 55 = .ok (.iload_n 2, 1) := by decide +kernel
theorem dX7_see_56 : decode cX7_see 56 = .ok (.iload_n 3, 1) := by decide +kernel
theorem dX7_see_57 : decode cX7_see 57 = .ok (.invokestatic 184, 3) := by decide +kernel
theorem dX7_see_60 : decode cX7_see 60 = .ok (.invokevirtual 188, 3) := by decide +kernel
theorem dX7_see_63 : decode cX7_see 63 = .ok (.aload_n 0, 1) := by decide +kernel
theorem dX7_see_64 : decode cX7_see 64 = .ok (.getfield 19, 3) := by decide +kernel
theorem dX7_see_67 : decode cX7_see 67 = .ok (.getfield 76, 3) := by decide +kernel
theorem dX7_see_70 : decode cX7_see 70 = .ok (.getfield 80, 3) := by decide +kernel
theorem dX7_see_73 : decode cX7_see 73 = .ok (.ireturn, 1) := by decide +kernel
theorem dX7_forget_0 : decode cX7_forget 0 = .ok (.aload_n 0, 1) := by decide +kernel
theorem dX7_forget_1 : decode cX7_forget 1 = .ok (.getfield 19, 3) := by decide +kernel
theorem dX7_forget_4 : decode cX7_forget 4 = .ok (.getfield 76, 3) := by decide +kernel
theorem dX7_forget_7 : decode cX7_forget 7 = .ok (.getfield 80, 3) := by decide +kernel
theorem dX7_forget_10 : decode cX7_forget 10 = .ok (.istore_n 1, 1) := by decide +kernel
theorem dX7_forget_11 : decode cX7_forget 11 = .ok (.aload_n 0, 1) := by decide +kernel
theorem dX7_forget_12 : decode cX7_forget 12 = .ok (.getfield 19, 3) := by decide +kernel
theorem dX7_forget_15 : decode cX7_forget 15 = .ok (.getfield 76, 3) := by decide +kernel
theorem dX7_forget_18 : decode cX7_forget 18 = .ok (.iconst 0, 1) := by decide +kernel
theorem dX7_forget_19 : decode cX7_forget 19 = .ok (.putfield 80, 3) := by decide +kernel
theorem dX7_forget_22 : decode cX7_forget 22 = .ok (.iload_n 1, 1) := by decide +kernel
theorem dX7_forget_23 : decode cX7_forget 23 = .ok (.ireturn, 1) := by decide +kernel
theorem dX7_drawn_0 : decode cX7_drawn 0 = .ok (.iload_n 1, 1) := by decide +kernel
theorem dX7_drawn_1 : decode cX7_drawn 1 = .ok (.iconst 1, 1) := by decide +kernel
theorem dX7_drawn_2 : decode cX7_drawn 2 = .ok (.if_icmp .lt 22, 3) := by decide +kernel
theorem dX7_drawn_5 : decode cX7_drawn 5 = .ok (.iload_n 1, 1) := by decide +kernel
theorem dX7_drawn_6 : decode cX7_drawn 6 = .ok (.bipush 20, 2) := by decide +kernel
theorem dX7_drawn_8 : decode cX7_drawn 8 = .ok (.if_icmp .gt 16, 3) := by decide +kernel
theorem dX7_drawn_11 : decode cX7_drawn 11 = .ok (.iload_n 2, 1) := by decide +kernel
theorem dX7_drawn_12 : decode cX7_drawn 12 = .ok (.ifCond .lt 12, 3) := by decide +kernel
theorem dX7_drawn_15 : decode cX7_drawn 15 = .ok (.iload_n 3, 1) := by decide +kernel
theorem dX7_drawn_16 : decode cX7_drawn 16 = .ok (.ifCond .lt 8, 3) := by decide +kernel
theorem dX7_drawn_19 : decode cX7_drawn 19 = .ok (.iload_n 3, 1) := by decide +kernel
theorem dX7_drawn_20 : decode cX7_drawn 20 = .ok (.iconst 3, 1) := by decide +kernel
theorem dX7_drawn_21 : decode cX7_drawn 21 = .ok (.if_icmp .lt 6, 3) := by decide +kernel
theorem dX7_drawn_24 : decode cX7_drawn 24 = .ok (.bipush (-102), 2) := by decide +kernel
theorem dX7_drawn_26 : decode cX7_drawn 26 = .ok (.ireturn, 1) := by decide +kernel
theorem dX7_drawn_27 : decode cX7_drawn 27 = .ok (.aload_n 0, 1) := by decide +kernel
theorem dX7_drawn_28 : decode cX7_drawn 28 = .ok (.invokevirtual 93, 3) := by decide +kernel
theorem dX7_drawn_31 : decode cX7_drawn 31 = .ok (.ifCond .ne 6, 3) := by decide +kernel
theorem dX7_drawn_34 : decode cX7_drawn 34 = .ok (.bipush (-103), 2) := by decide +kernel
theorem dX7_drawn_36 : decode cX7_drawn 36 = .ok (.ireturn, 1) := by decide +kernel
theorem dX7_drawn_37 : decode cX7_drawn 37 = .ok (.iconst 0, 1) := by decide +kernel
theorem dX7_drawn_38 : decode cX7_drawn 38 = .ok (.istore 4, 2) := by decide +kernel
theorem dX7_drawn_40 : decode cX7_drawn 40 = .ok (.iconst 0, 1) := by decide +kernel
theorem dX7_drawn_41 : decode cX7_drawn 41 = .ok (.istore 5, 2) := by decide +kernel
theorem dX7_drawn_43 : decode cX7_drawn 43 = .ok (.iload_n 2, 1) := by decide +kernel
theorem dX7_drawn_44 : decode cX7_drawn 44 = .ok (.istore 6, 2) := by decide +kernel
theorem dX7_drawn_46 : decode cX7_drawn 46 = .ok (.iconst 0, 1) := by decide +kernel
theorem dX7_drawn_47 : decode cX7_drawn 47 = .ok (.istore 7, 2) := by decide +kernel
theorem dX7_drawn_49 : decode cX7_drawn 49 = .ok (.iload 7, 2) := by decide +kernel
theorem dX7_drawn_51 : decode cX7_drawn 51 = .ok (.iload_n 1, 1) := by decide +kernel
theorem dX7_drawn_52 : decode cX7_drawn 52 = .ok (.if_icmp .ge 44, 3) := by decide +kernel
theorem dX7_drawn_55 : decode cX7_drawn 55 = .ok (.aload_n 0, 1) := by decide +kernel
theorem dX7_drawn_56 : decode cX7_drawn 56 = .ok (.getfield 35, 3) := by decide +kernel
theorem dX7_drawn_59 : decode cX7_drawn 59 = .ok (.iload 6, 2) := by decide +kernel
theorem dX7_drawn_61 : decode cX7_drawn 61 = .ok (.invokevirtual 192, 3) := by decide +kernel
theorem dX7_drawn_64 : decode cX7_drawn 64 = .ok (.istore 6, 2) := by decide +kernel
theorem dX7_drawn_66 : decode cX7_drawn 66 = .ok (.iload 4, 2) := by decide +kernel
theorem dX7_drawn_68 : decode cX7_drawn 68 = .ok (.aload_n 0, 1) := by decide +kernel
theorem dX7_drawn_69 : decode cX7_drawn 69 = .ok (.getfield 35, 3) := by decide +kernel
theorem dX7_drawn_72 : decode cX7_drawn 72 = .ok (.getfield 136, 3) := by decide +kernel
theorem dX7_drawn_75 : decode cX7_drawn 75 = .ok (.iadd, 1) := by decide +kernel
theorem dX7_drawn_76 : decode cX7_drawn 76 = .ok (.istore 4, 2) := by decide +kernel
theorem dX7_drawn_78 : decode cX7_drawn 78 = .ok (.iload 5, 2) := by decide +kernel
theorem dX7_drawn_80 : decode cX7_drawn 80 = .ok (.aload_n 0, 1) := by decide +kernel
theorem dX7_drawn_81 : decode cX7_drawn 81 = .ok (.getfield 35, 3) := by decide +kernel
theorem dX7_drawn_84 : decode cX7_drawn 84 = .ok (.getfield 195, 3) := by decide +kernel
theorem dX7_drawn_87 : decode cX7_drawn 87 = .ok (.iadd, 1) := by decide +kernel
theorem dX7_drawn_88 : decode cX7_drawn 88 = .ok (.istore 5, 2) := by decide +kernel
theorem dX7_drawn_90 : decode cX7_drawn 90 = .ok (.iinc 7 1, 3) := by decide +kernel
theorem dX7_drawn_93 : decode cX7_drawn 93 = .ok (.goto (-44), 3) := by decide +kernel
theorem dX7_drawn_96 : decode cX7_drawn 96 = .ok (.iload_n 3, 1) := by decide +kernel
theorem dX7_drawn_97 : decode cX7_drawn 97 = .ok (.ifCond .ne 6, 3) := by decide +kernel
theorem dX7_drawn_100 : decode cX7_drawn 100 = .ok (.iload 4, 2) := by decide +kernel
theorem dX7_drawn_102 : decode cX7_drawn 102 = .ok (.ireturn, 1) := by decide +kernel
theorem dX7_drawn_103 : decode cX7_drawn 103 = .ok (.iload_n 3, 1) := by decide +kernel
theorem dX7_drawn_104 : decode cX7_drawn 104 = .ok (.iconst 1, 1) := by decide +kernel
theorem dX7_drawn_105 : decode cX7_drawn 105 = .ok (.if_icmp .ne 8, 3) := by decide +kernel
theorem dX7_drawn_108 : decode cX7_drawn 108 = .ok (.iload 5, 2) := by decide +kernel
theorem dX7_drawn_110 : decode cX7_drawn 110 = .ok (.goto 5, 3) := by decide +kernel
theorem dX7_drawn_113 : decode cX7_drawn 113 = .ok (.iload 6, 2) := by decide +kernel
theorem dX7_drawn_115 : decode cX7_drawn 115 = .ok (.ireturn, 1) := by decide +kernel
theorem dX7_image_0 : decode cX7_image 0 = .ok (.aload_n 0, 1) := by decide +kernel
theorem dX7_image_1 : decode cX7_image 1 = .ok (.invokevirtual 93, 3) := by decide +kernel
theorem dX7_image_4 : decode cX7_image 4 = .ok (.ifCond .ne 6, 3) := by decide +kernel
theorem dX7_image_7 : decode cX7_image 7 = .ok (.bipush (-103), 2) := by decide +kernel
theorem dX7_image_9 : decode cX7_image 9 = .ok (.ireturn, 1) := by decide +kernel
theorem dX7_image_10 : decode cX7_image 10 = .ok (.aload_n 0, 1) := by decide +kernel
theorem dX7_image_11 : decode cX7_image 11 = .ok (.getfield 23, 3) := by decide +kernel
theorem dX7_image_14 : decode cX7_image 14 = .ok (.aload_n 0, 1) := by decide +kernel
theorem dX7_image_15 : decode cX7_image 15 = .ok (.getfield 19, 3) := by decide +kernel
theorem dX7_image_18 : decode cX7_image 18 = .ok (.invokevirtual 196, 3) := by decide +kernel
theorem dX7_image_21 : decode cX7_image 21 = .ok (.aload_n 0, 1) := by decide +kernel
theorem dX7_image_22 : decode cX7_image 22 = .ok (.iconst 1, 1) := by decide +kernel
theorem dX7_image_23 : decode cX7_image 23 = .ok (.putfield 85, 3) := by decide +kernel
theorem dX7_image_26 : decode cX7_image 26 = .ok (.aload_n 0, 1) := by decide +kernel
theorem dX7_image_27 : decode cX7_image 27 = .ok (.getfield 19, 3) := by decide +kernel
theorem dX7_image_30 : decode cX7_image 30 = .ok (.getfield 28, 3) := by decide +kernel
theorem dX7_image_33 : decode cX7_image 33 = .ok (.getfield 92, 3) := by decide +kernel
theorem dX7_image_36 : decode cX7_image 36 = .ok (.ireturn, 1) := by decide +kernel
theorem dX7_restore_0 : decode cX7_restore 0 = .ok (.aload_n 0, 1) := by decide +kernel
theorem dX7_restore_1 : decode cX7_restore 1 = .ok (.getfield 85, 3) := by decide +kernel
theorem dX7_restore_4 : decode cX7_restore 4 = .ok (.ifCond .ne 6, 3) := by decide +kernel
theorem dX7_restore_7 : decode cX7_restore 7 = .ok (.bipush (-103), 2) := by decide +kernel
theorem dX7_restore_9 : decode cX7_restore 9 = .ok (.ireturn, 1) := by decide +kernel
theorem dX7_restore_10 : decode cX7_restore 10 = .ok (.aload_n 0, 1) := by decide +kernel
theorem dX7_restore_11 : decode cX7_restore 11 = .ok (.getfield 19, 3) := by decide +kernel
theorem dX7_restore_14 : decode cX7_restore 14 = .ok (.aload_n 0, 1) := by decide +kernel
theorem dX7_restore_15 : decode cX7_restore 15 = .ok (.getfield 23, 3) := by decide +kernel
theorem dX7_restore_18 : decode cX7_restore 18 = .ok (.invokevirtual 196, 3) := by decide +kernel
theorem dX7_restore_21 : decode cX7_restore 21 = .ok (.aload_n 0, 1) := by decide +kernel
theorem dX7_restore_22 : decode cX7_restore 22 = .ok (.getfield 19, 3) := by decide +kernel
theorem dX7_restore_25 : decode cX7_restore 25 = .ok (.getfield 28, 3) := by decide +kernel
theorem dX7_restore_28 : decode cX7_restore 28 = .ok (.getfield 92, 3) := by decide +kernel
theorem dX7_restore_31 : decode cX7_restore 31 = .ok (.ireturn, 1) := by decide +kernel
theorem dX7_count_0 : decode cX7_count 0 = .ok (.iload_n 1, 1) := by decide +kernel
theorem dX7_count_1 : decode cX7_count 1 = .ok (.tableswitch 150 0 9 #[55, 66, 77, 88, 99, 110, 121, 132, 140, 145], 55) := by decide +kernel
theorem dX7_count_56 : decode cX7_count 56 = .ok (.aload_n 0, 1) := by decide +kernel
theorem dX7_count_57 : decode cX7_count 57 = .ok (.getfield 19, 3) := by decide +kernel
theorem dX7_count_60 : decode cX7_count 60 = .ok (.getfield 28, 3) := by decide +kernel
theorem dX7_count_63 : decode cX7_count 63 = .ok (.getfield 92, 3) := by decide +kernel
theorem dX7_count_66 : decode cX7_count 66 = .ok (.ireturn, 1) := by decide +kernel
theorem dX7_count_67 : decode cX7_count 67 = .ok (.aload_n 0, 1) := by decide +kernel
theorem dX7_count_68 : decode cX7_count 68 = .ok (.getfield 19, 3) := by decide +kernel
theorem dX7_count_71 : decode cX7_count 71 = .ok (.getfield 70, 3) := by decide +kernel
theorem dX7_count_74 : decode cX7_count 74 = .ok (.invokevirtual 101, 3) := by decide +kernel
theorem dX7_count_77 : decode cX7_count 77 = .ok (.ireturn, 1) := by decide +kernel
theorem dX7_count_78 : decode cX7_count 78 = .ok (.aload_n 0, 1) := by decide +kernel
theorem dX7_count_79 : decode cX7_count 79 = .ok (.getfield 19, 3) := by decide +kernel
theorem dX7_count_82 : decode cX7_count 82 = .ok (.getfield 70, 3) := by decide +kernel
theorem dX7_count_85 : decode cX7_count 85 = .ok (.getfield 136, 3) := by decide +kernel
theorem dX7_count_88 : decode cX7_count 88 = .ok (.ireturn, 1) := by decide +kernel
theorem dX7_count_89 : decode cX7_count 89 = .ok (.aload_n 0, 1) := by decide +kernel
theorem dX7_count_90 : decode cX7_count 90 = .ok (.getfield 19, 3) := by decide +kernel
theorem dX7_count_93 : decode cX7_count 93 = .ok (.getfield 70, 3) := by decide +kernel
theorem dX7_count_96 : decode cX7_count 96 = .ok (.getfield 200, 3) := by decide +kernel
theorem dX7_count_99 : decode cX7_count 99 = .ok (.ireturn, 1) := by decide +kernel
theorem dX7_count_100 : decode cX7_count 100 = .ok (.aload_n 0, 1) := by decide +kernel
theorem dX7_count_101 : decode cX7_count 101 = .ok (.getfield 19, 3) := by decide +kernel
theorem dX7_count_104 : decode cX7_count 104 = .ok (.getfield 70, 3) := by decide +kernel
theorem dX7_count_107 : decode cX7_count 107 = .ok (.getfield 195, 3) := by decide +kernel
theorem dX7_count_110 : decode cX7_count 110 = .ok (.ireturn, 1) := by decide +kernel
theorem dX7_count_111 : decode cX7_count 111 = .ok (.aload_n 0, 1) := by decide +kernel
theorem dX7_count_112 : decode cX7_count 112 = .ok (.getfield 19, 3) := by decide +kernel
theorem dX7_count_115 : decode cX7_count 115 = .ok (.getfield 70, 3) := by decide +kernel
theorem dX7_count_118 : decode cX7_count 118 = .ok (.invokevirtual 201, 3) := by decide +kernel
theorem dX7_count_121 : decode cX7_count 121 = .ok (.ireturn, 1) := by decide +kernel
end
section
theorem dX7_count_122 : decode cX7_count 122 = .ok (.aload_n 0, 1) := by decide +kernel
theorem dX7_count_123 : decode cX7_count 123 = .ok (.getfield 19, 3) := by decide +kernel
theorem dX7_count_126 : decode cX7_count 126 = .ok (.getfield 76, 3) := by decide +kernel
theorem dX7_count_129 : decode cX7_count 129 = .ok (.getfield 80, 3) := by decide +kernel
theorem dX7_count_132 : decode cX7_count 132 = .ok (.ireturn, 1) := by decide +kernel
theorem dX7_count_133 : decode cX7_count 133 = .ok (.aload_n 0, 1) := by decide +kernel
theorem dX7_count_134 : decode cX7_count 134 = .ok (.getfield 10, 3) := by decide +kernel
theorem dX7_count_137 : decode cX7_count 137 = .ok (.getfield 48, 3) := by decide +kernel
theorem dX7_count_140 : decode cX7_count 140 = .ok (.ireturn, 1) := by decide +kernel
theorem dX7_count_141 : decode cX7_count 141 = .ok (.aload_n 0, 1) := by decide +kernel
theorem dX7_count_142 : decode cX7_count 142 = .ok (.getfield 89, 3) := by decide +kernel
theorem dX7_count_145 : decode cX7_count 145 = .ok (.ireturn, 1) := by decide +kernel
theorem dX7_count_146 : decode cX7_count 146 = .ok (.aload_n 0, 1) := by decide +kernel
theorem dX7_count_147 : decode cX7_count 147 = .ok (.getfield 159, 3) := by decide +kernel
theorem dX7_count_150 : decode cX7_count 150 = .ok (.ireturn, 1) := by decide +kernel
theorem dX7_count_151 : decode cX7_count 151 = .ok (.bipush (-102), 2) := by decide +kernel
theorem dX7_count_153 : decode cX7_count 153 = .ok (.ireturn, 1) := by decide +kernel
theorem dX7_digest_0 : decode cX7_digest 0 = .ok (.ldc2_w 204, 3) := by decide +kernel
theorem dX7_digest_3 : decode cX7_digest 3 = .ok (.lstore_n 1, 1) := by decide +kernel
theorem dX7_digest_4 : decode cX7_digest 4 = .ok (.iconst 0, 1) := by decide +kernel
theorem dX7_digest_5 : decode cX7_digest 5 = .ok (.istore_n 3, 1) := by decide +kernel
theorem dX7_digest_6 : decode cX7_digest 6 = .ok (.iload_n 3, 1) := by decide +kernel
theorem dX7_digest_7 : decode cX7_digest 7 = .ok (.aload_n 0, 1) := by decide +kernel
theorem dX7_digest_8 : decode cX7_digest 8 = .ok (.getfield 19, 3) := by decide +kernel
theorem dX7_digest_11 : decode cX7_digest 11 = .ok (.getfield 28, 3) := by decide +kernel
theorem dX7_digest_14 : decode cX7_digest 14 = .ok (.getfield 92, 3) := by decide +kernel
theorem dX7_digest_17 : decode cX7_digest 17 = .ok (.if_icmp .ge 40, 3) := by decide +kernel
theorem dX7_digest_20 : decode cX7_digest 20 = .ok (.iconst 0, 1) := by decide +kernel
theorem dX7_digest_21 : decode cX7_digest 21 = .ok (.istore 4, 2) := by decide +kernel
theorem dX7_digest_23 : decode cX7_digest 23 = .ok (.iload 4, 2) := by decide +kernel
theorem dX7_digest_25 : decode cX7_digest 25 = .ok (.bipush 9, 2) := by decide +kernel
theorem dX7_digest_27 : decode cX7_digest 27 = .ok (.if_icmp .ge 24, 3) := by decide +kernel
theorem dX7_digest_30 : decode cX7_digest 30 = .ok (.ldc2_w 206, 3) := by decide +kernel
theorem dX7_digest_33 : decode cX7_digest 33 = .ok (.lload_n 1, 1) := by decide +kernel
theorem dX7_digest_34 : decode cX7_digest 34 = .ok (.lmul, 1) := by decide +kernel
theorem dX7_digest_35 : decode cX7_digest 35 = .ok (.aload_n 0, 1) := by decide +kernel
theorem dX7_digest_36 : decode cX7_digest 36 = .ok (.iload_n 3, 1) := by decide +kernel
theorem dX7_digest_37 : decode cX7_digest 37 = .ok (.iload 4, 2) := by decide +kernel
theorem dX7_digest_39 : decode cX7_digest 39 = .ok (.invokevirtual 107, 3) := by decide +kernel
theorem dX7_digest_42 : decode cX7_digest 42 = .ok (.i2l, 1) := by decide +kernel
theorem dX7_digest_43 : decode cX7_digest 43 = .ok (.ladd, 1) := by decide +kernel
theorem dX7_digest_44 : decode cX7_digest 44 = .ok (.lstore_n 1, 1) := by decide +kernel
theorem dX7_digest_45 : decode cX7_digest 45 = .ok (.iinc 4 1, 3) := by decide +kernel
theorem dX7_digest_48 : decode cX7_digest 48 = .ok (.goto (-25), 3) := by decide +kernel
theorem dX7_digest_51 : decode cX7_digest 51 = .ok (.iinc 3 1, 3) := by decide +kernel
theorem dX7_digest_54 : decode cX7_digest 54 = .ok (.goto (-48), 3) := by decide +kernel
theorem dX7_digest_57 : decode cX7_digest 57 = .ok (.aload_n 0, 1) := by decide +kernel
theorem dX7_digest_58 : decode cX7_digest 58 = .ok (.invokevirtual 93, 3) := by decide +kernel
theorem dX7_digest_61 : decode cX7_digest 61 = .ok (.ifCond .eq 47, 3) := by decide +kernel
theorem dX7_digest_64 : decode cX7_digest 64 = .ok (.iconst 0, 1) := by decide +kernel
theorem dX7_digest_65 : decode cX7_digest 65 = .ok (.istore_n 3, 1) := by decide +kernel
theorem dX7_digest_66 : decode cX7_digest 66 = .ok (.iload_n 3, 1) := by decide +kernel
theorem dX7_digest_67 : decode cX7_digest 67 = .ok (.bipush 12, 2) := by decide +kernel
theorem dX7_digest_69 : decode cX7_digest 69 = .ok (.if_icmp .ge 39, 3) := by decide +kernel
theorem dX7_digest_72 : decode cX7_digest 72 = .ok (.iconst 0, 1) := by decide +kernel
theorem dX7_digest_73 : decode cX7_digest 73 = .ok (.istore 4, 2) := by decide +kernel
theorem dX7_digest_75 : decode cX7_digest 75 = .ok (.iload 4, 2) := by decide +kernel
theorem dX7_digest_77 : decode cX7_digest 77 = .ok (.iconst 3, 1) := by decide +kernel
theorem dX7_digest_78 : decode cX7_digest 78 = .ok (.if_icmp .ge 24, 3) := by decide +kernel
theorem dX7_digest_81 : decode cX7_digest 81 = .ok (.ldc2_w 206, 3) := by decide +kernel
theorem dX7_digest_84 : decode cX7_digest 84 = .ok (.lload_n 1, 1) := by decide +kernel
theorem dX7_digest_85 : decode cX7_digest 85 = .ok (.lmul, 1) := by decide +kernel
theorem dX7_digest_86 : decode cX7_digest 86 = .ok (.aload_n 0, 1) := by decide +kernel
theorem dX7_digest_87 : decode cX7_digest 87 = .ok (.iload_n 3, 1) := by decide +kernel
theorem dX7_digest_88 : decode cX7_digest 88 = .ok (.iload 4, 2) := by decide +kernel
theorem dX7_digest_90 : decode cX7_digest 90 = .ok (.invokevirtual 126, 3) := by decide +kernel
theorem dX7_digest_93 : decode cX7_digest 93 = .ok (.i2l, 1) := by decide +kernel
theorem dX7_digest_94 : decode cX7_digest 94 = .ok (.ladd, 1) := by decide +kernel
theorem dX7_digest_95 : decode cX7_digest 95 = .ok (.lstore_n 1, 1) := by decide +kernel
theorem dX7_digest_96 : decode cX7_digest 96 = .ok (.iinc 4 1, 3) := by decide +kernel
theorem dX7_digest_99 : decode cX7_digest 99 = .ok (.goto (-24), 3) := by decide +kernel
theorem dX7_digest_102 : decode cX7_digest 102 = .ok (.iinc 3 1, 3) := by decide +kernel
theorem dX7_digest_105 : decode cX7_digest 105 = .ok (.goto (-39), 3) := by decide +kernel
theorem dX7_digest_108 : decode cX7_digest 108 = .ok (.iconst 0, 1) := by decide +kernel
theorem dX7_digest_109 : decode cX7_digest 109 = .ok (.istore_n 3, 1) := by decide +kernel
theorem dX7_digest_110 : decode cX7_digest 110 = .ok (.iload_n 3, 1) := by decide +kernel
theorem dX7_digest_111 : decode cX7_digest 111 = .ok (.aload_n 0, 1) := by decide +kernel
theorem dX7_digest_112 : decode cX7_digest 112 = .ok (.getfield 19, 3) := by decide +kernel
theorem dX7_digest_115 : decode cX7_digest 115 = .ok (.getfield 28, 3) := by decide +kernel
theorem dX7_digest_118 : decode cX7_digest 118 = .ok (.getfield 92, 3) := by decide +kernel
theorem dX7_digest_121 : decode cX7_digest 121 = .ok (.if_icmp .ge 22, 3) := by decide +kernel
theorem dX7_digest_124 : decode cX7_digest 124 = .ok (.ldc2_w 206, 3) := by decide +kernel
theorem dX7_digest_127 : decode cX7_digest 127 = .ok (.lload_n 1, 1) := by decide +kernel
theorem dX7_digest_128 : decode cX7_digest 128 = .ok (.lmul, 1) := by decide +kernel
theorem dX7_digest_129 : decode cX7_digest 129 = .ok (.aload_n 0, 1) := by decide +kernel
theorem dX7_digest_130 : decode cX7_digest 130 = .ok (.iload_n 3, 1) := by decide +kernel
theorem dX7_digest_131 : decode cX7_digest 131 = .ok (.invokevirtual 208, 3) := by decide +kernel
theorem dX7_digest_134 : decode cX7_digest 134 = .ok (.i2l, 1) := by decide +kernel
theorem dX7_digest_135 : decode cX7_digest 135 = .ok (.ladd, 1) := by decide +kernel
theorem dX7_digest_136 : decode cX7_digest 136 = .ok (.lstore_n 1, 1) := by decide +kernel
theorem dX7_digest_137 : decode cX7_digest 137 = .ok (.iinc 3 1, 3) := by decide +kernel
theorem dX7_digest_140 : decode cX7_digest 140 = .ok (.goto (-30), 3) := by decide +kernel
theorem dX7_digest_143 : decode cX7_digest 143 = .ok (.iconst 0, 1) := by decide +kernel
theorem dX7_digest_144 : decode cX7_digest 144 = .ok (.istore_n 3, 1) := by decide +kernel
theorem dX7_digest_145 : decode cX7_digest 145 = .ok (.iload_n 3, 1) := by decide +kernel
theorem dX7_digest_146 : decode cX7_digest 146 = .ok (.aload_n 0, 1) := by decide +kernel
theorem dX7_digest_147 : decode cX7_digest 147 = .ok (.getfield 10, 3) := by decide +kernel
theorem dX7_digest_150 : decode cX7_digest 150 = .ok (.getfield 48, 3) := by decide +kernel
theorem dX7_digest_153 : decode cX7_digest 153 = .ok (.if_icmp .ge 26, 3) := by decide +kernel
theorem dX7_digest_156 : decode cX7_digest 156 = .ok (.ldc2_w 206, 3) := by decide +kernel
theorem dX7_digest_159 : decode cX7_digest 159 = .ok (.lload_n 1, 1) := by decide +kernel
theorem dX7_digest_160 : decode cX7_digest 160 = .ok (.lmul, 1) := by decide +kernel
theorem dX7_digest_161 : decode cX7_digest 161 = .ok (.aload_n 0, 1) := by decide +kernel
theorem dX7_digest_162 : decode cX7_digest 162 = .ok (.getfield 10, 3) := by decide +kernel
theorem dX7_digest_165 : decode cX7_digest 165 = .ok (.getfield 211, 3) := by decide +kernel
theorem dX7_digest_168 : decode cX7_digest 168 = .ok (.iload_n 3, 1) := by decide +kernel
theorem dX7_digest_169 : decode cX7_digest 169 = .ok (.iaload, 1) := by decide +kernel
theorem dX7_digest_170 : decode cX7_digest 170 = .ok (.i2l, 1) := by decide +kernel
theorem dX7_digest_171 : decode cX7_digest 171 = .ok (.ladd, 1) := by decide +kernel
theorem dX7_digest_172 : decode cX7_digest 172 = .ok (.lstore_n 1, 1) := by decide +kernel
theorem dX7_digest_173 : decode cX7_digest 173 = .ok (.iinc 3 1, 3) := by decide +kernel
theorem dX7_digest_176 : decode cX7_digest 176 = .ok (.goto (-31), 3) := by decide +kernel
theorem dX7_digest_179 : decode cX7_digest 179 = .ok (.iconst 0, 1) := by decide +kernel
theorem dX7_digest_180 : decode cX7_digest 180 = .ok (.istore_n 3, 1) := by decide +kernel
theorem dX7_digest_181 : decode cX7_digest 181 = .ok (.iload_n 3, 1) := by decide +kernel
theorem dX7_digest_182 : decode cX7_digest 182 = .ok (.bipush 10, 2) := by decide +kernel
theorem dX7_digest_184 : decode cX7_digest 184 = .ok (.if_icmp .ge 22, 3) := by decide +kernel
theorem dX7_digest_187 : decode cX7_digest 187 = .ok (.ldc2_w 206, 3) := by decide +kernel
theorem dX7_digest_190 : decode cX7_digest 190 = .ok (.lload_n 1, 1) := by decide +kernel
theorem dX7_digest_191 : decode cX7_digest 191 = .ok (.lmul, 1) := by decide +kernel
theorem dX7_digest_192 : decode cX7_digest 192 = .ok (.aload_n 0, 1) := by decide +kernel
theorem dX7_digest_193 : decode cX7_digest 193 = .ok (.iload_n 3, 1) := by decide +kernel
theorem dX7_digest_194 : decode cX7_digest 194 = .ok (.invokevirtual 214, 3) := by decide +kernel
theorem dX7_digest_197 : decode cX7_digest 197 = .ok (.i2l, 1) := by decide +kernel
theorem dX7_digest_198 : decode cX7_digest 198 = .ok (.ladd, 1) := by decide +kernel
theorem dX7_digest_199 : decode cX7_digest 199 = .ok (.lstore_n 1, 1) := by decide +kernel
theorem dX7_digest_200 : decode cX7_digest 200 = .ok (.iinc 3 1, 3) := by decide +kernel
theorem dX7_digest_203 : decode cX7_digest 203 = .ok (.goto (-22), 3) := by decide +kernel
theorem dX7_digest_206 : decode cX7_digest 206 = .ok (.lload_n 1, 1) := by decide +kernel
theorem dX7_digest_207 : decode cX7_digest 207 = .ok (.lreturn, 1) := by decide +kernel
theorem dX7_hasHouse_0 : decode cX7_hasHouse 0 = .ok (.aload_n 0, 1) := by decide +kernel
theorem dX7_hasHouse_1 : decode cX7_hasHouse 1 = .ok (.getfield 19, 3) := by decide +kernel
theorem dX7_hasHouse_4 : decode cX7_hasHouse 4 = .ok (.getfield 28, 3) := by decide +kernel
theorem dX7_hasHouse_7 : decode cX7_hasHouse 7 = .ok (.getfield 92, 3) := by decide +kernel
theorem dX7_hasHouse_10 : decode cX7_hasHouse 10 = .ok (.ifCond .le 7, 3) := by decide +kernel
theorem dX7_hasHouse_13 : decode cX7_hasHouse 13 = .ok (.iconst 1, 1) := by decide +kernel
theorem dX7_hasHouse_14 : decode cX7_hasHouse 14 = .ok (.goto 4, 3) := by decide +kernel
theorem dX7_hasHouse_17 : decode cX7_hasHouse 17 = .ok (.iconst 0, 1) := by decide +kernel
theorem dX7_hasHouse_18 : decode cX7_hasHouse 18 = .ok (.ireturn, 1) := by decide +kernel
theorem dX7_isNight_0 : decode cX7_isNight 0 = .ok (.iload_n 0, 1) := by decide +kernel
theorem dX7_isNight_1 : decode cX7_isNight 1 = .ok (.ifCond .lt 13, 3) := by decide +kernel
theorem dX7_isNight_4 : decode cX7_isNight 4 = .ok (.iload_n 0, 1) := by decide +kernel
theorem dX7_isNight_5 : decode cX7_isNight 5 = .ok (.bipush 12, 2) := by decide +kernel
theorem dX7_isNight_7 : decode cX7_isNight 7 = .ok (.if_icmp .ge 7, 3) := by decide +kernel
theorem dX7_isNight_10 : decode cX7_isNight 10 = .ok (.iconst 1, 1) := by decide +kernel
theorem dX7_isNight_11 : decode cX7_isNight 11 = .ok (.goto 4, 3) := by decide +kernel
theorem dX7_isNight_14 : decode cX7_isNight 14 = .ok (.iconst 0, 1) := by decide +kernel
theorem dX7_isNight_15 : decode cX7_isNight 15 = .ok (.ireturn, 1) := by decide +kernel
theorem dX7_isSpan_0 : decode cX7_isSpan 0 = .ok (.iload_n 0, 1) := by decide +kernel
theorem dX7_isSpan_1 : decode cX7_isSpan 1 = .ok (.invokestatic 123, 3) := by decide +kernel
theorem dX7_isSpan_4 : decode cX7_isSpan 4 = .ok (.ifCond .eq 19, 3) := by decide +kernel
theorem dX7_isSpan_7 : decode cX7_isSpan 7 = .ok (.iload_n 1, 1) := by decide +kernel
theorem dX7_isSpan_8 : decode cX7_isSpan 8 = .ok (.invokestatic 123, 3) := by decide +kernel
theorem dX7_isSpan_11 : decode cX7_isSpan 11 = .ok (.ifCond .eq 12, 3) := by decide +kernel
theorem dX7_isSpan_14 : decode cX7_isSpan 14 = .ok (.iload_n 0, 1) := by decide +kernel
theorem dX7_isSpan_15 : decode cX7_isSpan 15 = .ok (.iload_n 1, 1) := by decide +kernel
theorem dX7_isSpan_16 : decode cX7_isSpan 16 = .ok (.if_icmp .gt 7, 3) := by decide +kernel
theorem dX7_isSpan_19 : decode cX7_isSpan 19 = .ok (.iconst 1, 1) := by decide +kernel
theorem dX7_isSpan_20 : decode cX7_isSpan 20 = .ok (.goto 4, 3) := by decide +kernel
theorem dX7_isSpan_23 : decode cX7_isSpan 23 = .ok (.iconst 0, 1) := by decide +kernel
theorem dX7_isSpan_24 : decode cX7_isSpan 24 = .ok (.ireturn, 1) := by decide +kernel
theorem dX7_isKind_0 : decode cX7_isKind 0 = .ok (.iload_n 0, 1) := by decide +kernel
theorem dX7_isKind_1 : decode cX7_isKind 1 = .ok (.ifCond .lt 12, 3) := by decide +kernel
theorem dX7_isKind_4 : decode cX7_isKind 4 = .ok (.iload_n 0, 1) := by decide +kernel
theorem dX7_isKind_5 : decode cX7_isKind 5 = .ok (.iconst 5, 1) := by decide +kernel
theorem dX7_isKind_6 : decode cX7_isKind 6 = .ok (.if_icmp .ge 7, 3) := by decide +kernel
theorem dX7_isKind_9 : decode cX7_isKind 9 = .ok (.iconst 1, 1) := by decide +kernel
theorem dX7_isKind_10 : decode cX7_isKind 10 = .ok (.goto 4, 3) := by decide +kernel
theorem dX7_isKind_13 : decode cX7_isKind 13 = .ok (.iconst 0, 1) := by decide +kernel
theorem dX7_isKind_14 : decode cX7_isKind 14 = .ok (.ireturn, 1) := by decide +kernel
theorem dX7_ofTitle_0 : decode cX7_ofTitle 0 = .ok (.aload_n 0, 1) := by decide +kernel
theorem dX7_ofTitle_1 : decode cX7_ofTitle 1 = .ok (.getfield 19, 3) := by decide +kernel
theorem dX7_ofTitle_4 : decode cX7_ofTitle 4 = .ok (.getfield 28, 3) := by decide +kernel
theorem dX7_ofTitle_7 : decode cX7_ofTitle 7 = .ok (.iload_n 1, 1) := by decide +kernel
theorem dX7_ofTitle_8 : decode cX7_ofTitle 8 = .ok (.invokevirtual 114, 3) := by decide +kernel
theorem dX7_ofTitle_11 : decode cX7_ofTitle 11 = .ok (.astore_n 3, 1) := by decide +kernel
theorem dX7_ofTitle_12 : decode cX7_ofTitle 12 = .ok (.iload_n 2, 1) := by decide +kernel
theorem dX7_ofTitle_13 : decode cX7_ofTitle 13 = .ok (.tableswitch 101 0 7 #[47, 52, 57, 62, 67, 72, 77, 89], 47) := by decide +kernel
theorem dX7_ofTitle_60 : decode cX7_ofTitle 60 = .ok (.aload_n 3, 1) := by decide +kernel
theorem dX7_ofTitle_61 : decode cX7_ofTitle 61 = .ok (.getfield 156, 3) := by decide +kernel
theorem dX7_ofTitle_64 : decode cX7_ofTitle 64 = .ok (.ireturn, 1) := by decide +kernel
theorem dX7_ofTitle_65 : decode cX7_ofTitle 65 = .ok (.aload_n 3, 1) := by decide +kernel
theorem dX7_ofTitle_66 : decode cX7_ofTitle 66 = .ok (.getfield 217, 3) := by decide +kernel
theorem dX7_ofTitle_69 : decode cX7_ofTitle 69 = .ok (.ireturn, 1) := by decide +kernel
theorem dX7_ofTitle_70 : decode cX7_ofTitle 70 = .ok (.aload_n 3, 1) := by decide +kernel
theorem dX7_ofTitle_71 : decode cX7_ofTitle 71 = .ok (.getfield 220, 3) := by decide +kernel
theorem dX7_ofTitle_74 : decode cX7_ofTitle 74 = .ok (.ireturn, 1) := by decide +kernel
theorem dX7_ofTitle_75 : decode cX7_ofTitle 75 = .ok (.aload_n 3, 1) := by decide +kernel
theorem dX7_ofTitle_76 : decode cX7_ofTitle 76 = .ok (.getfield 150, 3) := by decide +kernel
theorem dX7_ofTitle_79 : decode cX7_ofTitle 79 = .ok (.ireturn, 1) := by decide +kernel
theorem dX7_ofTitle_80 : decode cX7_ofTitle 80 = .ok (.aload_n 3, 1) := by decide +kernel
theorem dX7_ofTitle_81 : decode cX7_ofTitle 81 = .ok (.getfield 153, 3) := by decide +kernel
theorem dX7_ofTitle_84 : decode cX7_ofTitle 84 = .ok (.ireturn, 1) := by decide +kernel
theorem dX7_ofTitle_85 : decode cX7_ofTitle 85 = .ok (.aload_n 3, 1) := by decide +kernel
theorem dX7_ofTitle_86 : decode cX7_ofTitle 86 = .ok (.getfield 223, 3) := by decide +kernel
theorem dX7_ofTitle_89 : decode cX7_ofTitle 89 = .ok (.ireturn, 1) := by decide +kernel
theorem dX7_ofTitle_90 : decode cX7_ofTitle 90 = .ok (.aload_n 0, 1) := by decide +kernel
theorem dX7_ofTitle_91 : decode cX7_ofTitle 91 = .ok (.getfield 19, 3) := by decide +kernel
theorem dX7_ofTitle_94 : decode cX7_ofTitle 94 = .ok (.getfield 70, 3) := by decide +kernel
theorem dX7_ofTitle_97 : decode cX7_ofTitle 97 = .ok (.iload_n 1, 1) := by decide +kernel
theorem dX7_ofTitle_98 : decode cX7_ofTitle 98 = .ok (.invokevirtual 226, 3) := by decide +kernel
theorem dX7_ofTitle_101 : decode cX7_ofTitle 101 = .ok (.ireturn, 1) := by decide +kernel
theorem dX7_ofTitle_102 : decode cX7_ofTitle 102 = .ok (.aload_n 0, 1) := by decide +kernel
theorem dX7_ofTitle_103 : decode cX7_ofTitle 103 = .ok (.getfield 19, 3) := by decide +kernel
theorem dX7_ofTitle_106 : decode cX7_ofTitle 106 = .ok (.getfield 76, 3) := by decide +kernel
theorem dX7_ofTitle_109 : decode cX7_ofTitle 109 = .ok (.iload_n 1, 1) := by decide +kernel
theorem dX7_ofTitle_110 : decode cX7_ofTitle 110 = .ok (.invokevirtual 229, 3) := by decide +kernel
theorem dX7_ofTitle_113 : decode cX7_ofTitle 113 = .ok (.ireturn, 1) := by decide +kernel
theorem dX7_ofTitle_114 : decode cX7_ofTitle 114 = .ok (.aload_n 0, 1) := by decide +kernel
theorem dX7_ofTitle_115 : decode cX7_ofTitle 115 = .ok (.getfield 19, 3) := by decide +kernel
theorem dX7_ofTitle_118 : decode cX7_ofTitle 118 = .ok (.getfield 76, 3) := by decide +kernel
theorem dX7_ofTitle_121 : decode cX7_ofTitle 121 = .ok (.iload_n 1, 1) := by decide +kernel
theorem dX7_ofTitle_122 : decode cX7_ofTitle 122 = .ok (.invokevirtual 229, 3) := by decide +kernel
theorem dX7_ofTitle_125 : decode cX7_ofTitle 125 = .ok (.invokestatic 232, 3) := by decide +kernel
theorem dX7_ofTitle_128 : decode cX7_ofTitle 128 = .ok (.ireturn, 1) := by decide +kernel
theorem dX7_ofNight_0 : decode cX7_ofNight 0 = .ok (.iload_n 2, 1) := by decide +kernel
theorem dX7_ofNight_1 : decode cX7_ofNight 1 = .ok (.ifCond .ne 16, 3) := by decide +kernel
theorem dX7_ofNight_4 : decode cX7_ofNight 4 = .ok (.aload_n 0, 1) := by decide +kernel
theorem dX7_ofNight_5 : decode cX7_ofNight 5 = .ok (.getfield 19, 3) := by decide +kernel
theorem dX7_ofNight_8 : decode cX7_ofNight 8 = .ok (.getfield 70, 3) := by decide +kernel
theorem dX7_ofNight_11 : decode cX7_ofNight 11 = .ok (.getfield 129, 3) := by decide +kernel
theorem dX7_ofNight_14 : decode cX7_ofNight 14 = .ok (.iload_n 1, 1) := by decide +kernel
theorem dX7_ofNight_15 : decode cX7_ofNight 15 = .ok (.iaload, 1) := by decide +kernel
theorem dX7_ofNight_16 : decode cX7_ofNight 16 = .ok (.ireturn, 1) := by decide +kernel
theorem dX7_ofNight_17 : decode cX7_ofNight 17 = .ok (.iload_n 2, 1) := by decide +kernel
theorem dX7_ofNight_18 : decode cX7_ofNight 18 = .ok (.iconst 1, 1) := by decide +kernel
theorem dX7_ofNight_19 : decode cX7_ofNight 19 = .ok (.if_icmp .ne 18, 3) := by decide +kernel
theorem dX7_ofNight_22 : decode cX7_ofNight 22 = .ok (.aload_n 0, 1) := by decide +kernel
theorem dX7_ofNight_23 : decode cX7_ofNight 23 = .ok (.getfield 19, 3) := by decide +kernel
theorem dX7_ofNight_26 : decode cX7_ofNight 26 = .ok (.getfield 70, 3) := by decide +kernel
theorem dX7_ofNight_29 : decode cX7_ofNight 29 = .ok (.getfield 235, 3) := by decide +kernel
theorem dX7_ofNight_32 : decode cX7_ofNight 32 = .ok (.iload_n 1, 1) := by decide +kernel
theorem dX7_ofNight_33 : decode cX7_ofNight 33 = .ok (.iaload, 1) := by decide +kernel
theorem dX7_ofNight_34 : decode cX7_ofNight 34 = .ok (.goto 15, 3) := by decide +kernel
theorem dX7_ofNight_37 : decode cX7_ofNight 37 = .ok (.aload_n 0, 1) := by decide +kernel
theorem dX7_ofNight_38 : decode cX7_ofNight 38 = .ok (.getfield 19, 3) := by decide +kernel
theorem dX7_ofNight_41 : decode cX7_ofNight 41 = .ok (.getfield 70, 3) := by decide +kernel
theorem dX7_ofNight_44 : decode cX7_ofNight 44 = .ok (.getfield 238, 3) := by decide +kernel
theorem dX7_ofNight_47 : decode cX7_ofNight 47 = .ok (.iload_n 1, 1) := by decide +kernel
theorem dX7_ofNight_48 : decode cX7_ofNight 48 = .ok (.iaload, 1) := by decide +kernel
theorem dX7_ofNight_49 : decode cX7_ofNight 49 = .ok (.ireturn, 1) := by decide +kernel
theorem dX7_kindsLeft_0 : decode cX7_kindsLeft 0 = .ok (.iload_n 1, 1) := by decide +kernel
theorem dX7_kindsLeft_1 : decode cX7_kindsLeft 1 = .ok (.ifCond .eq 11, 3) := by decide +kernel
theorem dX7_kindsLeft_4 : decode cX7_kindsLeft 4 = .ok (.getstatic 241, 3) := by decide +kernel
theorem dX7_kindsLeft_7 : decode cX7_kindsLeft 7 = .ok (.iload_n 0, 1) := by decide +kernel
theorem dX7_kindsLeft_8 : decode cX7_kindsLeft 8 = .ok (.iaload, 1) := by decide +kernel
theorem dX7_kindsLeft_9 : decode cX7_kindsLeft 9 = .ok (.goto 13, 3) := by decide +kernel
theorem dX7_kindsLeft_12 : decode cX7_kindsLeft 12 = .ok (.bipush 31, 2) := by decide +kernel
theorem dX7_kindsLeft_14 : decode cX7_kindsLeft 14 = .ok (.getstatic 241, 3) := by decide +kernel
theorem dX7_kindsLeft_17 : decode cX7_kindsLeft 17 = .ok (.iload_n 0, 1) := by decide +kernel
theorem dX7_kindsLeft_18 : decode cX7_kindsLeft 18 = .ok (.iaload, 1) := by decide +kernel
theorem dX7_kindsLeft_19 : decode cX7_kindsLeft 19 = .ok (.iconst (-1), 1) := by decide +kernel
theorem dX7_kindsLeft_20 : decode cX7_kindsLeft 20 = .ok (.ixor, 1) := by decide +kernel
theorem dX7_kindsLeft_21 : decode cX7_kindsLeft 21 = .ok (.iand, 1) := by decide +kernel
theorem dX7_kindsLeft_22 : decode cX7_kindsLeft 22 = .ok (.ireturn, 1) := by decide +kernel
theorem dX7_ask_0 : decode cX7_ask 0 = .ok (.iload_n 0, 1) := by decide +kernel
theorem dX7_ask_1 : decode cX7_ask 1 = .ok (.ifCond .ne 5, 3) := by decide +kernel
theorem dX7_ask_4 : decode cX7_ask 4 = .ok (.iconst (-1), 1) := by decide +kernel
theorem dX7_ask_5 : decode cX7_ask 5 = .ok (.ireturn, 1) := by decide +kernel
theorem dX7_ask_6 : decode cX7_ask 6 = .ok (.iconst (-1), 1) := by decide +kernel
theorem dX7_ask_7 : decode cX7_ask 7 = .ok (.istore_n 1, 1) := by decide +kernel
theorem dX7_ask_8 : decode cX7_ask 8 = .ok (.bipush 6, 2) := by decide +kernel
theorem dX7_ask_10 : decode cX7_ask 10 = .ok (.istore_n 2, 1) := by decide +kernel
theorem dX7_ask_11 : decode cX7_ask 11 = .ok (.iconst 0, 1) := by decide +kernel
theorem dX7_ask_12 : decode cX7_ask 12 = .ok (.istore_n 3, 1) := by decide +kernel
theorem dX7_ask_13 : decode cX7_ask 13 = .ok (.iload_n 3, 1) := by decide +kernel
theorem dX7_ask_14 : decode cX7_ask 14 = .ok (.iconst 4, 1) := by decide +kernel
theorem dX7_ask_15 : decode cX7_ask 15 = .ok (.if_icmp .ge 53, 3) := by decide +kernel
theorem dX7_ask_18 : decode cX7_ask 18 = .ok (.iload_n 0, 1) := by decide +kernel
theorem dX7_ask_19 : decode cX7_ask 19 = .ok (.iload_n 3, 1) := by decide +kernel
theorem dX7_ask_20 : decode cX7_ask 20 = .ok (.iconst 1, 1) := by decide +kernel
theorem dX7_ask_21 : decode cX7_ask 21 = .ok (.invokestatic 184, 3) := by decide +kernel
theorem dX7_ask_24 : decode cX7_ask 24 = .ok (.iand, 1) := by decide +kernel
theorem dX7_ask_25 : decode cX7_ask 25 = .ok (.invokestatic 244, 3) := by decide +kernel
theorem dX7_ask_28 : decode cX7_ask 28 = .ok (.istore 4, 2) := by decide +kernel
theorem dX7_ask_30 : decode cX7_ask 30 = .ok (.iload_n 0, 1) := by decide +kernel
theorem dX7_ask_31 : decode cX7_ask 31 = .ok (.iload_n 3, 1) := by decide +kernel
theorem dX7_ask_32 : decode cX7_ask 32 = .ok (.iconst 0, 1) := by decide +kernel
theorem dX7_ask_33 : decode cX7_ask 33 = .ok (.invokestatic 184, 3) := by decide +kernel
theorem dX7_ask_36 : decode cX7_ask 36 = .ok (.iand, 1) := by decide +kernel
theorem dX7_ask_37 : decode cX7_ask 37 = .ok (.invokestatic 244, 3) := by decide +kernel
theorem dX7_ask_40 : decode cX7_ask 40 = .ok (.istore 5, 2) := by decide +kernel
theorem dX7_ask_42 : decode cX7_ask 42 = .ok (.iload 4, 2) := by decide +kernel
theorem dX7_ask_44 : decode cX7_ask 44 = .ok (.iload 5, 2) := by decide +kernel
theorem dX7_ask_46 : decode cX7_ask 46 = .ok (.invokestatic 249, 3) := by decide +kernel
theorem dX7_ask_49 : decode cX7_ask 49 = .ok (.istore 6, 2) := by decide +kernel
theorem dX7_ask_51 : decode cX7_ask 51 = .ok (.iload 6, 2) := by decide +kernel
theorem dX7_ask_53 : decode cX7_ask 53 = .ok (.iload_n 2, 1) := by decide +kernel
theorem dX7_ask_54 : decode cX7_ask 54 = .ok (.if_icmp .ge 8, 3) := by decide +kernel
theorem dX7_ask_57 : decode cX7_ask 57 = .ok (.iload 6, 2) := by decide +kernel
theorem dX7_ask_59 : decode cX7_ask 59 = .ok (.istore_n 2, 1) := by decide +kernel
theorem dX7_ask_60 : decode cX7_ask 60 = .ok (.iload_n 3, 1) := by decide +kernel
theorem dX7_ask_61 : decode cX7_ask 61 = .ok (.istore_n 1, 1) := by decide +kernel
theorem dX7_ask_62 : decode cX7_ask 62 = .ok (.iinc 3 1, 3) := by decide +kernel
theorem dX7_ask_65 : decode cX7_ask 65 = .ok (.goto (-52), 3) := by decide +kernel
theorem dX7_ask_68 : decode cX7_ask 68 = .ok (.iload_n 1, 1) := by decide +kernel
theorem dX7_ask_69 : decode cX7_ask 69 = .ok (.ireturn, 1) := by decide +kernel
theorem dX8_init_0 : decode cX8_init 0 = .ok (.aload_n 0, 1) := by decide +kernel
theorem dX8_init_1 : decode cX8_init 1 = .ok (.invokespecial 1, 3) := by decide +kernel
theorem dX8_init_4 : decode cX8_init 4 = .ok (.aload_n 0, 1) := by decide +kernel
theorem dX8_init_5 : decode cX8_init 5 = .ok (.iconst 5, 1) := by decide +kernel
theorem dX8_init_6 : decode cX8_init 6 = .ok (.newarray .int, 2) := by decide +kernel
theorem dX8_init_8 : decode cX8_init 8 = .ok (.putfield 7, 3) := by decide +kernel
theorem dX8_init_11 : decode cX8_init 11 = .ok (.aload_n 0, 1) := by decide +kernel
theorem dX8_init_12 : decode cX8_init 12 = .ok (.iconst 5, 1) := by decide +kernel
theorem dX8_init_13 : decode cX8_init 13 = .ok (.newarray .int, 2) := by decide +kernel
theorem dX8_init_15 : decode cX8_init 15 = .ok (.putfield 13, 3) := by decide +kernel
theorem dX8_init_18 : decode cX8_init 18 = .ok (.aload_n 0, 1) := by decide +kernel
theorem dX8_init_19 : decode cX8_init 19 = .ok (.iconst 5, 1) := by decide +kernel
theorem dX8_init_20 : decode cX8_init 20 = .ok (.newarray .int, 2) := by decide +kernel
theorem dX8_init_22 : decode cX8_init 22 = .ok (.putfield 16, 3) := by decide +kernel
theorem dX8_init_25 : decode cX8_init 25 = .ok (.aload_n 0, 1) := by decide +kernel
theorem dX8_init_26 : decode cX8_init 26 = .ok (.iconst 5, 1) := by decide +kernel
theorem dX8_init_27 : decode cX8_init 27 = .ok (.newarray .int, 2) := by decide +kernel
theorem dX8_init_29 : decode cX8_init 29 = .ok (.putfield 19, 3) := by decide +kernel
theorem dX8_init_32 : decode cX8_init 32 = .ok (.aload_n 0, 1) := by decide +kernel
theorem dX8_init_33 : decode cX8_init 33 = .ok (.iconst 5, 1) := by decide +kernel
theorem dX8_init_34 : decode cX8_init 34 = .ok (.newarray .int, 2) := by decide +kernel
theorem dX8_init_36 : decode cX8_init 36 = .ok (.putfield 22, 3) := by decide +kernel
theorem dX8_init_39 : decode cX8_init 39 = .ok (.aload_n 0, 1) := by decide +kernel
theorem dX8_init_40 : decode cX8_init 40 = .ok (.iconst 5, 1) := by decide +kernel
theorem dX8_init_41 : decode cX8_init 41 = .ok (.newarray .int, 2) := by decide +kernel
theorem dX8_init_43 : decode cX8_init 43 = .ok (.putfield 25, 3) := by decide +kernel
theorem dX8_init_46 : decode cX8_init 46 = .ok (.aload_n 0, 1) := by decide +kernel
theorem dX8_init_47 : decode cX8_init 47 = .ok (.bipush 12, 2) := by decide +kernel
theorem dX8_init_49 : decode cX8_init 49 = .ok (.newarray .int, 2) := by decide +kernel
theorem dX8_init_51 : decode cX8_init 51 = .ok (.putfield 28, 3) := by decide +kernel
theorem dX8_init_54 : decode cX8_init 54 = .ok (.aload_n 0, 1) := by decide +kernel
theorem dX8_init_55 : decode cX8_init 55 = .ok (.bipush 6, 2) := by decide +kernel
theorem dX8_init_57 : decode cX8_init 57 = .ok (.newarray .int, 2) := by decide +kernel
theorem dX8_init_59 : decode cX8_init 59 = .ok (.putfield 31, 3) := by decide +kernel
theorem dX8_init_62 : decode cX8_init 62 = .ok (.aload_n 0, 1) := by decide +kernel
theorem dX8_init_63 : decode cX8_init 63 = .ok (.bipush 6, 2) := by decide +kernel
theorem dX8_init_65 : decode cX8_init 65 = .ok (.newarray .int, 2) := by decide +kernel
theorem dX8_init_67 : decode cX8_init 67 = .ok (.putfield 34, 3) := by decide +kernel
theorem dX8_init_70 : decode cX8_init 70 = .ok (.aload_n 0, 1) := by decide +kernel
theorem dX8_init_71 : decode cX8_init 71 = .ok (.bipush 6, 2) := by decide +kernel
theorem dX8_init_73 : decode cX8_init 73 = .ok (.newarray .int, 2) := by decide +kernel
theorem dX8_init_75 : decode cX8_init 75 = .ok (.putfield 37, 3) := by decide +kernel
theorem dX8_init_78 : decode cX8_init 78 = .ok (.aload_n 0, 1) := by decide +kernel
theorem dX8_init_79 : decode cX8_init 79 = .ok (.bipush 40, 2) := by decide +kernel
theorem dX8_init_81 : decode cX8_init 81 = .ok (.newarray .byte, 2) := by decide +kernel
theorem dX8_init_83 : decode cX8_init 83 = .ok (.putfield 40, 3) := by decide +kernel
theorem dX8_init_86 : decode cX8_init 86 = .ok (.aload_n 0, 1) := by decide +kernel
theorem dX8_init_87 : decode cX8_init 87 = .ok (.bipush 30, 2) := by decide +kernel
theorem dX8_init_89 : decode cX8_init 89 = .ok (.newarray .int, 2) := by decide +kernel
theorem dX8_init_91 : decode cX8_init 91 = .ok (.putfield 44, 3) := by decide +kernel
theorem dX8_init_94 : decode cX8_init 94 = .ok (.aload_n 0, 1) := by decide +kernel
theorem dX8_init_95 : decode cX8_init 95 = .ok (.iconst 4, 1) := by decide +kernel
theorem dX8_init_96 : decode cX8_init 96 = .ok (.newarray .int, 2) := by decide +kernel
theorem dX8_init_98 : decode cX8_init 98 = .ok (.putfield 47, 3) := by decide +kernel
theorem dX8_init_101 : decode cX8_init 101 = .ok (.aload_n 0, 1) := by decide +kernel
theorem dX8_init_102 : decode cX8_init 102 = .ok (.bipush 12, 2) := by decide +kernel
theorem dX8_init_104 : decode cX8_init 104 = .ok (.newarray .int, 2) := by decide +kernel
theorem dX8_init_106 : decode cX8_init 106 = .ok (.putfield 50, 3) := by decide +kernel
theorem dX8_init_109 : decode cX8_init 109 = .ok (.aload_n 0, 1) := by decide +kernel
theorem dX8_init_110 : decode cX8_init 110 = .ok (.iconst 5, 1) := by decide +kernel
theorem dX8_init_111 : decode cX8_init 111 = .ok (.newarray .int, 2) := by decide +kernel
theorem dX8_init_113 : decode cX8_init 113 = .ok (.putfield 53, 3) := by decide +kernel
theorem dX8_init_116 : decode cX8_init 116 = .ok (.aload_n 0, 1) := by decide +kernel
theorem dX8_init_117 : decode cX8_init 117 = .ok (.iconst 5, 1) := by decide +kernel
theorem dX8_init_118 : decode cX8_init 118 = .ok (.newarray .int, 2) := by decide +kernel
theorem dX8_init_120 : decode cX8_init 120 = .ok (.putfield 56, 3) := by decide +kernel
theorem dX8_init_123 : decode cX8_init 123 = .ok (.aload_n 0, 1) := by decide +kernel
theorem dX8_init_124 : decode cX8_init 124 = .ok (.iconst 5, 1) := by decide +kernel
theorem dX8_init_125 : decode cX8_init 125 = .ok (.newarray .int, 2) := by decide +kernel
theorem dX8_init_127 : decode cX8_init 127 = .ok (.putfield 59, 3) := by decide +kernel
theorem dX8_init_130 : decode cX8_init 130 = .ok (.aload_n 0, 1) := by decide +kernel
theorem dX8_init_131 : decode cX8_init 131 = .ok (.iconst 5, 1) := by decide +kernel
theorem dX8_init_132 : decode cX8_init 132 = .ok (.newarray .int, 2) := by decide +kernel
theorem dX8_init_134 : decode cX8_init 134 = .ok (.putfield 62, 3) := by decide +kernel
theorem dX8_init_137 : decode cX8_init 137 = .ok (.aload_n 0, 1) := by decide +kernel
theorem dX8_init_138 : decode cX8_init 138 = .ok (.iconst 5, 1) := by decide +kernel
theorem dX8_init_139 : decode cX8_init 139 = .ok (.newarray .int, 2) := by decide +kernel
theorem dX8_init_141 : decode cX8_init 141 = .ok (.putfield 65, 3) := by decide +kernel
theorem dX8_init_144 : decode cX8_init 144 = .ok (.aload_n 0, 1) := by decide +kernel
theorem dX8_init_145 : decode cX8_init 145 = .ok (.iconst 5, 1) := by decide +kernel
theorem dX8_init_146 : decode cX8_init 146 = .ok (.newarray .int, 2) := by decide +kernel
theorem dX8_init_148 : decode cX8_init 148 = .ok (.putfield 68, 3) := by decide +kernel
theorem dX8_init_151 : decode cX8_init 151 = .ok (.aload_n 0, 1) := by decide +kernel
theorem dX8_init_152 : decode cX8_init 152 = .ok (.bipush 12, 2) := by decide +kernel
theorem dX8_init_154 : decode cX8_init 154 = .ok (.newarray .int, 2) := by decide +kernel
theorem dX8_init_156 : decode cX8_init 156 = .ok (.putfield 71, 3) := by decide +kernel
theorem dX8_init_159 : decode cX8_init 159 = .ok (.aload_n 0, 1) := by decide +kernel
theorem dX8_init_160 : decode cX8_init 160 = .ok (.bipush 6, 2) := by decide +kernel
theorem dX8_init_162 : decode cX8_init 162 = .ok (.newarray .int, 2) := by decide +kernel
theorem dX8_init_164 : decode cX8_init 164 = .ok (.putfield 74, 3) := by decide +kernel
theorem dX8_init_167 : decode cX8_init 167 = .ok (.aload_n 0, 1) := by decide +kernel
theorem dX8_init_168 : decode cX8_init 168 = .ok (.bipush 6, 2) := by decide +kernel
theorem dX8_init_170 : decode cX8_init 170 = .ok (.newarray .int, 2) := by decide +kernel
theorem dX8_init_172 : decode cX8_init 172 = .ok (.putfield 77, 3) := by decide +kernel
theorem dX8_init_175 : decode cX8_init 175 = .ok (.aload_n 0, 1) := by decide +kernel
theorem dX8_init_176 : decode cX8_init 176 = .ok (.bipush 6, 2) := by decide +kernel
theorem dX8_init_178 : decode cX8_init 178 = .ok (.newarray .int, 2) := by decide +kernel
theorem dX8_init_180 : decode cX8_init 180 = .ok (.putfield 80, 3) := by decide +kernel
theorem dX8_init_183 : decode cX8_init 183 = .ok (.aload_n 0, 1) := by decide +kernel
theorem dX8_init_184 : decode cX8_init 184 = .ok (.invokevirtual 83, 3) := by decide +kernel
theorem dX8_init_187 : decode cX8_init 187 = .ok (.return_, 1) := by decide +kernel
theorem dX8_within_0 : decode cX8_within 0 = .ok (.iload_n 0, 1) := by decide +kernel
theorem dX8_within_1 : decode cX8_within 1 = .ok (.iload_n 1, 1) := by decide +kernel
theorem dX8_within_2 : decode cX8_within 2 = .ok (.if_icmp .lt 12, 3) := by decide +kernel
theorem dX8_within_5 : decode cX8_within 5 = .ok (.iload_n 0, 1) := by decide +kernel
theorem dX8_within_6 : decode cX8_within 6 = .ok (.iload_n 2, 1) := by decide +kernel
theorem dX8_within_7 : decode cX8_within 7 = .ok (.if_icmp .gt 7, 3) := by decide +kernel
theorem dX8_within_10 : decode cX8_within 10 = .ok (.iconst 1, 1) := by decide +kernel
theorem dX8_within_11 : decode cX8_within 11 = .ok (.goto 4, 3) := by decide +kernel
theorem dX8_within_14 : decode cX8_within 14 = .ok (.iconst 0, 1) := by decide +kernel
theorem dX8_within_15 : decode cX8_within 15 = .ok (.ireturn, 1) := by decide +kernel
theorem dX8_isIn_0 : decode cX8_isIn 0 = .ok (.iload_n 0, 1) := by decide +kernel
theorem dX8_isIn_1 : decode cX8_isIn 1 = .ok (.iload_n 1, 1) := by decide +kernel
theorem dX8_isIn_2 : decode cX8_isIn 2 = .ok (.ishr, 1) := by decide +kernel
theorem dX8_isIn_3 : decode cX8_isIn 3 = .ok (.iconst 1, 1) := by decide +kernel
theorem dX8_isIn_4 : decode cX8_isIn 4 = .ok (.iand, 1) := by decide +kernel
theorem dX8_isIn_5 : decode cX8_isIn 5 = .ok (.iconst 1, 1) := by decide +kernel
theorem dX8_isIn_6 : decode cX8_isIn 6 = .ok (.if_icmp .ne 7, 3) := by decide +kernel
theorem dX8_isIn_9 : decode cX8_isIn 9 = .ok (.iconst 1, 1) := by decide +kernel
theorem dX8_isIn_10 : decode cX8_isIn 10 = .ok (.goto 4, 3) := by decide +kernel
theorem dX8_isIn_13 : decode cX8_isIn 13 = .ok (.iconst 0, 1) := by decide +kernel
theorem dX8_isIn_14 : decode cX8_isIn 14 = .ok (.ireturn, 1) := by decide +kernel
theorem dX8_size_0 : decode cX8_size 0 = .ok (.iconst 0, 1) := by decide +kernel
theorem dX8_size_1 : decode cX8_size 1 = .ok (.istore_n 1, 1) := by decide +kernel
theorem dX8_size_2 : decode cX8_size 2 = .ok (.iconst 0, 1) := by decide +kernel
theorem dX8_size_3 : decode cX8_size 3 = .ok (.istore_n 2, 1) := by decide +kernel
theorem dX8_size_4 : decode cX8_size 4 = .ok (.iload_n 2, 1) := by decide +kernel
theorem dX8_size_5 : decode cX8_size 5 = .ok (.bipush 16, 2) := by decide +kernel
theorem dX8_size_7 : decode cX8_size 7 = .ok (.if_icmp .ge 17, 3) := by decide +kernel
theorem dX8_size_10 : decode cX8_size 10 = .ok (.iload_n 1, 1) := by decide +kernel
theorem dX8_size_11 : decode cX8_size 11 = .ok (.iload_n 0, 1) := by decide +kernel
theorem dX8_size_12 : decode cX8_size 12 = .ok (.iload_n 2, 1) := by decide +kernel
theorem dX8_size_13 : decode cX8_size 13 = .ok (.ishr, 1) := by decide +kernel
theorem dX8_size_14 : decode cX8_size 14 = .ok (.iconst 1, 1) := by decide +kernel
theorem dX8_size_15 : decode cX8_size 15 = .ok (.iand, 1) := by decide +kernel
theorem dX8_size_16 : decode cX8_size 16 = .ok (.iadd, 1) := by decide +kernel
theorem dX8_size_17 : decode cX8_size 17 = .ok (.istore_n 1, 1) := by decide +kernel
theorem dX8_size_18 : decode cX8_size 18 = .ok (.iinc 2 1, 3) := by decide +kernel
theorem dX8_size_21 : decode cX8_size 21 = .ok (.goto (-17), 3) := by decide +kernel
theorem dX8_size_24 : decode cX8_size 24 = .ok (.iload_n 1, 1) := by decide +kernel
theorem dX8_size_25 : decode cX8_size 25 = .ok (.ireturn, 1) := by decide +kernel
theorem dX8_darken_0 : decode cX8_darken 0 = .ok (.iconst 0, 1) := by decide +kernel
theorem dX8_darken_1 : decode cX8_darken 1 = .ok (.istore_n 1, 1) := by decide +kernel
theorem dX8_darken_2 : decode cX8_darken 2 = .ok (.iload_n 1, 1) := by decide +kernel
theorem dX8_darken_3 : decode cX8_darken 3 = .ok (.bipush 12, 2) := by decide +kernel
theorem dX8_darken_5 : decode cX8_darken 5 = .ok (.if_icmp .ge 16, 3) := by decide +kernel
theorem dX8_darken_8 : decode cX8_darken 8 = .ok (.aload_n 0, 1) := by decide +kernel
theorem dX8_darken_9 : decode cX8_darken 9 = .ok (.getfield 28, 3) := by decide +kernel
theorem dX8_darken_12 : decode cX8_darken 12 = .ok (.iload_n 1, 1) := by decide +kernel
theorem dX8_darken_13 : decode cX8_darken 13 = .ok (.iconst (-1), 1) := by decide +kernel
theorem dX8_darken_14 : decode cX8_darken 14 = .ok (.iastore, 1) := by decide +kernel
theorem dX8_darken_15 : decode cX8_darken 15 = .ok (.iinc 1 1, 3) := by decide +kernel
theorem dX8_darken_18 : decode cX8_darken 18 = .ok (.goto (-16), 3) := by decide +kernel
theorem dX8_darken_21 : decode cX8_darken 21 = .ok (.return_, 1) := by decide +kernel
theorem dX8_letter_0 : decode cX8_letter 0 = .ok (.iload_n 1, 1) := by decide +kernel
theorem dX8_letter_1 : decode cX8_letter 1 = .ok (.bipush 32, 2) := by decide +kernel
theorem dX8_letter_3 : decode cX8_letter 3 = .ok (.bipush 126, 2) := by decide +kernel
theorem dX8_letter_5 : decode cX8_letter 5 = .ok (.invokestatic 86, 3) := by decide +kernel
theorem dX8_letter_8 : decode cX8_letter 8 = .ok (.ifCond .ne 6, 3) := by decide +kernel
theorem dX8_letter_11 : decode cX8_letter 11 = .ok (.bipush (-102), 2) := by decide +kernel
theorem dX8_letter_13 : decode cX8_letter 13 = .ok (.ireturn, 1) := by decide +kernel
theorem dX8_letter_14 : decode cX8_letter 14 = .ok (.aload_n 0, 1) := by decide +kernel
theorem dX8_letter_15 : decode cX8_letter 15 = .ok (.getfield 90, 3) := by decide +kernel
theorem dX8_letter_18 : decode cX8_letter 18 = .ok (.bipush 40, 2) := by decide +kernel
theorem dX8_letter_20 : decode cX8_letter 20 = .ok (.if_icmp .ne 6, 3) := by decide +kernel
theorem dX8_letter_23 : decode cX8_letter 23 = .ok (.bipush (-104), 2) := by decide +kernel
theorem dX8_letter_25 : decode cX8_letter 25 = .ok (.ireturn, 1) := by decide +kernel
theorem dX8_letter_26 : decode cX8_letter 26 = .ok (.aload_n 0, 1) := by decide +kernel
theorem dX8_letter_27 : decode cX8_letter 27 = .ok (.getfield 40, 3) := by decide +kernel
theorem dX8_letter_30 : decode cX8_letter 30 = .ok (.aload_n 0, 1) := by decide +kernel
theorem dX8_letter_31 : decode cX8_letter 31 = .ok (.getfield 90, 3) := by decide +kernel
theorem dX8_letter_34 : decode cX8_letter 34 = .ok (.iload_n 1, 1) := by decide +kernel
theorem dX8_letter_35 : decode cX8_letter 35 = .ok (.i2b, 1) := by decide +kernel
theorem dX8_letter_36 : decode cX8_letter 36 = .ok (.bastore, 1) := by decide +kernel
theorem dX8_letter_37 : decode cX8_letter 37 = .ok (.aload_n 0, 1) := by decide +kernel
theorem dX8_letter_38 : decode cX8_letter 38 = .ok (.dup, 1) := by decide +kernel
theorem dX8_letter_39 : decode cX8_letter 39 = .ok (.getfield 90, 3) := by decide +kernel
theorem dX8_letter_42 : decode cX8_letter 42 = .ok (.iconst 1, 1) := by decide +kernel
theorem dX8_letter_43 : decode cX8_letter 43 = .ok (.iadd, 1) := by decide +kernel
theorem dX8_letter_44 : decode cX8_letter 44 = .ok (.putfield 90, 3) := by decide +kernel
theorem dX8_letter_47 : decode cX8_letter 47 = .ok (.aload_n 0, 1) := by decide +kernel
theorem dX8_letter_48 : decode cX8_letter 48 = .ok (.getfield 90, 3) := by decide +kernel
theorem dX8_letter_51 : decode cX8_letter 51 = .ok (.ireturn, 1) := by decide +kernel
theorem dX8_blank_0 : decode cX8_blank 0 = .ok (.aload_n 0, 1) := by decide +kernel
theorem dX8_blank_1 : decode cX8_blank 1 = .ok (.getfield 90, 3) := by decide +kernel
theorem dX8_blank_4 : decode cX8_blank 4 = .ok (.istore_n 1, 1) := by decide +kernel
theorem dX8_blank_5 : decode cX8_blank 5 = .ok (.aload_n 0, 1) := by decide +kernel
theorem dX8_blank_6 : decode cX8_blank 6 = .ok (.iconst 0, 1) := by decide +kernel
theorem dX8_blank_7 : decode cX8_blank 7 = .ok (.putfield 90, 3) := by decide +kernel
theorem dX8_blank_10 : decode cX8_blank 10 = .ok (.iload_n 1, 1) := by decide +kernel
theorem dX8_blank_11 : decode cX8_blank 11 = .ok (.ireturn, 1) := by decide +kernel
theorem dX8_kindBy_0 : decode cX8_kindBy 0 = .ok (.iload_n 0, 1) := by decide +kernel
theorem dX8_kindBy_1 : decode cX8_kindBy 1 = .ok (.lookupswitch 61 #[(100, 59), (102, 55), (103, 53), (114, 57), (116, 51)], 51) := by decide +kernel
theorem dX8_kindBy_52 : decode cX8_kindBy 52 = .ok (.iconst 0, 1) := by decide +kernel
theorem dX8_kindBy_53 : decode cX8_kindBy 53 = .ok (.ireturn, 1) := by decide +kernel
theorem dX8_kindBy_54 : decode cX8_kindBy 54 = .ok (.iconst 1, 1) := by decide +kernel
theorem dX8_kindBy_55 : decode cX8_kindBy 55 = .ok (.ireturn, 1) := by decide +kernel
theorem dX8_kindBy_56 : decode cX8_kindBy 56 = .ok (.iconst 2, 1) := by decide +kernel
theorem dX8_kindBy_57 : decode cX8_kindBy 57 = .ok (.ireturn, 1) := by decide +kernel
theorem dX8_kindBy_58 : decode cX8_kindBy 58 = .ok (.iconst 3, 1) := by decide +kernel
theorem dX8_kindBy_59 : decode cX8_kindBy 59 = .ok (.ireturn, 1) := by decide +kernel
theorem dX8_kindBy_60 : decode cX8_kindBy 60 = .ok (.iconst 4, 1) := by decide +kernel
theorem dX8_kindBy_61 : decode cX8_kindBy 61 = .ok (.ireturn, 1) := by decide +kernel
theorem dX8_kindBy_62 : decode cX8_kindBy 62 = .ok (.iconst (-1), 1) := by decide +kernel
theorem dX8_kindBy_63 : decode cX8_kindBy 63 = .ok (.ireturn, 1) := by decide +kernel
theorem dX8_at_0 : decode cX8_at 0 = .ok (.iload_n 1, 1) := by decide +kernel
theorem dX8_at_1 : decode cX8_at 1 = .ok (.aload_n 0, 1) := by decide +kernel
theorem dX8_at_2 : decode cX8_at 2 = .ok (.getfield 90, 3) := by decide +kernel
theorem dX8_at_5 : decode cX8_at 5 = .ok (.if_icmp .ge 12, 3) := by decide +kernel
theorem dX8_at_8 : decode cX8_at 8 = .ok (.aload_n 0, 1) := by decide +kernel
theorem dX8_at_9 : decode cX8_at 9 = .ok (.getfield 40, 3) := by decide +kernel
theorem dX8_at_12 : decode cX8_at 12 = .ok (.iload_n 1, 1) := by decide +kernel
theorem dX8_at_13 : decode cX8_at 13 = .ok (.baload, 1) := by decide +kernel
theorem dX8_at_14 : decode cX8_at 14 = .ok (.goto 4, 3) := by decide +kernel
theorem dX8_at_17 : decode cX8_at 17 = .ok (.iconst 0, 1) := by decide +kernel
theorem dX8_at_18 : decode cX8_at 18 = .ok (.ireturn, 1) := by decide +kernel
theorem dX8_least_0 : decode cX8_least 0 = .ok (.iload_n 1, 1) := by decide +kernel
theorem dX8_least_1 : decode cX8_least 1 = .ok (.tableswitch 55 1 4 #[31, 31, 34, 37], 31) := by decide +kernel
theorem dX8_least_32 : decode cX8_least 32 = .ok (.bipush 48, 2) := by decide +kernel
theorem dX8_least_34 : decode cX8_least 34 = .ok (.ireturn, 1) := by decide +kernel
theorem dX8_least_35 : decode cX8_least 35 = .ok (.bipush 97, 2) := by decide +kernel
theorem dX8_least_37 : decode cX8_least 37 = .ok (.ireturn, 1) := by decide +kernel
theorem dX8_least_38 : decode cX8_least 38 = .ok (.bipush 97, 2) := by decide +kernel
theorem dX8_least_40 : decode cX8_least 40 = .ok (.aload_n 0, 1) := by decide +kernel
theorem dX8_least_41 : decode cX8_least 41 = .ok (.getfield 44, 3) := by decide +kernel
theorem dX8_least_44 : decode cX8_least 44 = .ok (.bipush 6, 2) := by decide +kernel
theorem dX8_least_46 : decode cX8_least 46 = .ok (.aload_n 0, 1) := by decide +kernel
theorem dX8_least_47 : decode cX8_least 47 = .ok (.getfield 94, 3) := by decide +kernel
theorem dX8_least_50 : decode cX8_least 50 = .ok (.imul, 1) := by decide +kernel
theorem dX8_least_51 : decode cX8_least 51 = .ok (.iconst 3, 1) := by decide +kernel
theorem dX8_least_52 : decode cX8_least 52 = .ok (.iadd, 1) := by decide +kernel
theorem dX8_least_53 : decode cX8_least 53 = .ok (.iaload, 1) := by decide +kernel
theorem dX8_least_54 : decode cX8_least 54 = .ok (.iadd, 1) := by decide +kernel
theorem dX8_least_55 : decode cX8_least 55 = .ok (.ireturn, 1) := by decide +kernel
theorem dX8_least_56 : decode cX8_least 56 = .ok (.bipush 49, 2) := by decide +kernel
theorem dX8_least_58 : decode cX8_least 58 = .ok (.ireturn, 1) := by decide +kernel
theorem dX8_most_0 : decode cX8_most 0 = .ok (.iload_n 0, 1) := by decide +kernel
theorem dX8_most_1 : decode cX8_most 1 = .ok (.iconst 3, 1) := by decide +kernel
theorem dX8_most_2 : decode cX8_most 2 = .ok (.if_icmp .ge 8, 3) := by decide +kernel
theorem dX8_most_5 : decode cX8_most 5 = .ok (.bipush 52, 2) := by decide +kernel
theorem dX8_most_7 : decode cX8_most 7 = .ok (.goto 15, 3) := by decide +kernel
theorem dX8_most_10 : decode cX8_most 10 = .ok (.iload_n 0, 1) := by decide +kernel
theorem dX8_most_11 : decode cX8_most 11 = .ok (.iconst 5, 1) := by decide +kernel
theorem dX8_most_12 : decode cX8_most 12 = .ok (.if_icmp .ge 8, 3) := by decide +kernel
theorem dX8_most_15 : decode cX8_most 15 = .ok (.bipush 108, 2) := by decide +kernel
theorem dX8_most_17 : decode cX8_most 17 = .ok (.goto 5, 3) := by decide +kernel
theorem dX8_most_20 : decode cX8_most 20 = .ok (.bipush 57, 2) := by decide +kernel
theorem dX8_most_22 : decode cX8_most 22 = .ok (.ireturn, 1) := by decide +kernel
theorem dX8_readTitle_0 : decode cX8_readTitle 0 = .ok (.aload_n 0, 1) := by decide +kernel
theorem dX8_readTitle_1 : decode cX8_readTitle 1 = .ok (.getfield 44, 3) := by decide +kernel
theorem dX8_readTitle_4 : decode cX8_readTitle 4 = .ok (.bipush 6, 2) := by decide +kernel
theorem dX8_readTitle_6 : decode cX8_readTitle 6 = .ok (.aload_n 0, 1) := by decide +kernel
theorem dX8_readTitle_7 : decode cX8_readTitle 7 = .ok (.getfield 94, 3) := by decide +kernel
theorem dX8_readTitle_10 : decode cX8_readTitle 10 = .ok (.imul, 1) := by decide +kernel
theorem dX8_readTitle_11 : decode cX8_readTitle 11 = .ok (.aload_n 0, 1) := by decide +kernel
theorem dX8_readTitle_12 : decode cX8_readTitle 12 = .ok (.iload_n 1, 1) := by decide +kernel
theorem dX8_readTitle_13 : decode cX8_readTitle 13 = .ok (.invokevirtual 97, 3) := by decide +kernel
theorem dX8_readTitle_16 : decode cX8_readTitle 16 = .ok (.invokestatic 101, 3) := by decide +kernel
theorem dX8_readTitle_19 : decode cX8_readTitle 19 = .ok (.iastore, 1) := by decide +kernel
theorem dX8_readTitle_20 : decode cX8_readTitle 20 = .ok (.aload_n 0, 1) := by decide +kernel
theorem dX8_readTitle_21 : decode cX8_readTitle 21 = .ok (.getfield 44, 3) := by decide +kernel
theorem dX8_readTitle_24 : decode cX8_readTitle 24 = .ok (.bipush 6, 2) := by decide +kernel
theorem dX8_readTitle_26 : decode cX8_readTitle 26 = .ok (.aload_n 0, 1) := by decide +kernel
theorem dX8_readTitle_27 : decode cX8_readTitle 27 = .ok (.getfield 94, 3) := by decide +kernel
theorem dX8_readTitle_30 : decode cX8_readTitle 30 = .ok (.imul, 1) := by decide +kernel
theorem dX8_readTitle_31 : decode cX8_readTitle 31 = .ok (.iaload, 1) := by decide +kernel
theorem dX8_readTitle_32 : decode cX8_readTitle 32 = .ok (.iconst (-1), 1) := by decide +kernel
theorem dX8_readTitle_33 : decode cX8_readTitle 33 = .ok (.if_icmp .ne 10, 3) := by decide +kernel
theorem dX8_readTitle_36 : decode cX8_readTitle 36 = .ok (.aload_n 0, 1) := by decide +kernel
theorem dX8_readTitle_37 : decode cX8_readTitle 37 = .ok (.iconst 1, 1) := by decide +kernel
theorem dX8_readTitle_38 : decode cX8_readTitle 38 = .ok (.putfield 104, 3) := by decide +kernel
theorem dX8_readTitle_41 : decode cX8_readTitle 41 = .ok (.iload_n 1, 1) := by decide +kernel
theorem dX8_readTitle_42 : decode cX8_readTitle 42 = .ok (.ireturn, 1) := by decide +kernel
theorem dX8_readTitle_43 : decode cX8_readTitle 43 = .ok (.iconst 1, 1) := by decide +kernel
theorem dX8_readTitle_44 : decode cX8_readTitle 44 = .ok (.istore_n 2, 1) := by decide +kernel
theorem dX8_readTitle_45 : decode cX8_readTitle 45 = .ok (.iload_n 2, 1) := by decide +kernel
theorem dX8_readTitle_46 : decode cX8_readTitle 46 = .ok (.bipush 6, 2) := by decide +kernel
theorem dX8_readTitle_48 : decode cX8_readTitle 48 = .ok (.if_icmp .ge 77, 3) := by decide +kernel
theorem dX8_readTitle_51 : decode cX8_readTitle 51 = .ok (.aload_n 0, 1) := by decide +kernel
theorem dX8_readTitle_52 : decode cX8_readTitle 52 = .ok (.iload_n 1, 1) := by decide +kernel
theorem dX8_readTitle_53 : decode cX8_readTitle 53 = .ok (.iload_n 2, 1) := by decide +kernel
theorem dX8_readTitle_54 : decode cX8_readTitle 54 = .ok (.iadd, 1) := by decide +kernel
theorem dX8_readTitle_55 : decode cX8_readTitle 55 = .ok (.invokevirtual 97, 3) := by decide +kernel
theorem dX8_readTitle_58 : decode cX8_readTitle 58 = .ok (.istore_n 3, 1) := by decide +kernel
theorem dX8_readTitle_59 : decode cX8_readTitle 59 = .ok (.iload_n 3, 1) := by decide +kernel
theorem dX8_readTitle_60 : decode cX8_readTitle 60 = .ok (.aload_n 0, 1) := by decide +kernel
theorem dX8_readTitle_61 : decode cX8_readTitle 61 = .ok (.iload_n 2, 1) := by decide +kernel
theorem dX8_readTitle_62 : decode cX8_readTitle 62 = .ok (.invokevirtual 108, 3) := by decide +kernel
theorem dX8_readTitle_65 : decode cX8_readTitle 65 = .ok (.iload_n 2, 1) := by decide +kernel
theorem dX8_readTitle_66 : decode cX8_readTitle 66 = .ok (.invokestatic 111, 3) := by decide +kernel
theorem dX8_readTitle_69 : decode cX8_readTitle 69 = .ok (.invokestatic 86, 3) := by decide +kernel
theorem dX8_readTitle_72 : decode cX8_readTitle 72 = .ok (.ifCond .ne 12, 3) := by decide +kernel
theorem dX8_readTitle_75 : decode cX8_readTitle 75 = .ok (.aload_n 0, 1) := by decide +kernel
theorem dX8_readTitle_76 : decode cX8_readTitle 76 = .ok (.iconst 1, 1) := by decide +kernel
theorem dX8_readTitle_77 : decode cX8_readTitle 77 = .ok (.putfield 104, 3) := by decide +kernel
theorem dX8_readTitle_80 : decode cX8_readTitle 80 = .ok (.iload_n 1, 1) := by decide +kernel
theorem dX8_readTitle_81 : decode cX8_readTitle 81 = .ok (.iload_n 2, 1) := by decide +kernel
theorem dX8_readTitle_82 : decode cX8_readTitle 82 = .ok (.iadd, 1) := by decide +kernel
theorem dX8_readTitle_83 : decode cX8_readTitle 83 = .ok (.ireturn, 1) := by decide +kernel
theorem dX8_readTitle_84 : decode cX8_readTitle 84 = .ok (.aload_n 0, 1) := by decide +kernel
theorem dX8_readTitle_85 : decode cX8_readTitle 85 = .ok (.getfield 44, 3) := by decide +kernel
theorem dX8_readTitle_88 : decode cX8_readTitle 88 = .ok (.bipush 6, 2) := by decide +kernel
theorem dX8_readTitle_90 : decode cX8_readTitle 90 = .ok (.aload_n 0, 1) := by decide +kernel
theorem dX8_readTitle_91 : decode cX8_readTitle 91 = .ok (.getfield 94, 3) := by decide +kernel
theorem dX8_readTitle_94 : decode cX8_readTitle 94 = .ok (.imul, 1) := by decide +kernel
theorem dX8_readTitle_95 : decode cX8_readTitle 95 = .ok (.iload_n 2, 1) := by decide +kernel
theorem dX8_readTitle_96 : decode cX8_readTitle 96 = .ok (.iadd, 1) := by decide +kernel
theorem dX8_readTitle_97 : decode cX8_readTitle 97 = .ok (.iload_n 2, 1) := by decide +kernel
theorem dX8_readTitle_98 : decode cX8_readTitle 98 = .ok (.iconst 3, 1) := by decide +kernel
theorem dX8_readTitle_99 : decode cX8_readTitle 99 = .ok (.if_icmp .eq 8, 3) := by decide +kernel
theorem dX8_readTitle_102 : decode cX8_readTitle 102 = .ok (.iload_n 2, 1) := by decide +kernel
theorem dX8_readTitle_103 : decode cX8_readTitle 103 = .ok (.iconst 4, 1) := by decide +kernel
theorem dX8_readTitle_104 : decode cX8_readTitle 104 = .ok (.if_icmp .ne 10, 3) := by decide +kernel
theorem dX8_readTitle_107 : decode cX8_readTitle 107 = .ok (.iload_n 3, 1) := by decide +kernel
theorem dX8_readTitle_108 : decode cX8_readTitle 108 = .ok (.bipush 97, 2) := by decide +kernel
theorem dX8_readTitle_110 : decode cX8_readTitle 110 = .ok (.isub, 1) := by decide +kernel
theorem dX8_readTitle_111 : decode cX8_readTitle 111 = .ok (.goto 7, 3) := by decide +kernel
theorem dX8_readTitle_114 : decode cX8_readTitle 114 = .ok (.iload_n 3, 1) := by decide +kernel
theorem dX8_readTitle_115 : decode cX8_readTitle 115 = .ok (.bipush 48, 2) := by decide +kernel
theorem dX8_readTitle_117 : decode cX8_readTitle 117 = .ok (.isub, 1) := by decide +kernel
theorem dX8_readTitle_118 : decode cX8_readTitle 118 = .ok (.iastore, 1) := by decide +kernel
theorem dX8_readTitle_119 : decode cX8_readTitle 119 = .ok (.iinc 2 1, 3) := by decide +kernel
theorem dX8_readTitle_122 : decode cX8_readTitle 122 = .ok (.goto (-77), 3) := by decide +kernel
theorem dX8_readTitle_125 : decode cX8_readTitle 125 = .ok (.aload_n 0, 1) := by decide +kernel
theorem dX8_readTitle_126 : decode cX8_readTitle 126 = .ok (.dup, 1) := by decide +kernel
theorem dX8_readTitle_127 : decode cX8_readTitle 127 = .ok (.getfield 94, 3) := by decide +kernel
theorem dX8_readTitle_130 : decode cX8_readTitle 130 = .ok (.iconst 1, 1) := by decide +kernel
theorem dX8_readTitle_131 : decode cX8_readTitle 131 = .ok (.iadd, 1) := by decide +kernel
theorem dX8_readTitle_132 : decode cX8_readTitle 132 = .ok (.putfield 94, 3) := by decide +kernel
theorem dX8_readTitle_135 : decode cX8_readTitle 135 = .ok (.iload_n 1, 1) := by decide +kernel
theorem dX8_readTitle_136 : decode cX8_readTitle 136 = .ok (.bipush 6, 2) := by decide +kernel
theorem dX8_readTitle_138 : decode cX8_readTitle 138 = .ok (.iadd, 1) := by decide +kernel
theorem dX8_readTitle_139 : decode cX8_readTitle 139 = .ok (.ireturn, 1) := by decide +kernel
theorem dX8_read_0 : decode cX8_read 0 = .ok (.aload_n 0, 1) := by decide +kernel
theorem dX8_read_1 : decode cX8_read 1 = .ok (.iconst 0, 1) := by decide +kernel
theorem dX8_read_2 : decode cX8_read 2 = .ok (.putfield 114, 3) := by decide +kernel
theorem dX8_read_5 : decode cX8_read 5 = .ok (.aload_n 0, 1) := by decide +kernel
theorem dX8_read_6 : decode cX8_read 6 = .ok (.iconst 0, 1) := by decide +kernel
theorem dX8_read_7 : decode cX8_read 7 = .ok (.putfield 104, 3) := by decide +kernel
theorem dX8_read_10 : decode cX8_read 10 = .ok (.aload_n 0, 1) := by decide +kernel
theorem dX8_read_11 : decode cX8_read 11 = .ok (.iconst 0, 1) := by decide +kernel
theorem dX8_read_12 : decode cX8_read 12 = .ok (.putfield 94, 3) := by decide +kernel
theorem dX8_read_15 : decode cX8_read 15 = .ok (.aload_n 0, 1) := by decide +kernel
theorem dX8_read_16 : decode cX8_read 16 = .ok (.iconst 0, 1) := by decide +kernel
theorem dX8_read_17 : decode cX8_read 17 = .ok (.invokevirtual 117, 3) := by decide +kernel
theorem dX8_read_20 : decode cX8_read 20 = .ok (.istore_n 1, 1) := by decide +kernel
theorem dX8_read_21 : decode cX8_read 21 = .ok (.aload_n 0, 1) := by decide +kernel
theorem dX8_read_22 : decode cX8_read 22 = .ok (.getfield 104, 3) := by decide +kernel
theorem dX8_read_25 : decode cX8_read 25 = .ok (.ifCond .ne 32, 3) := by decide +kernel
theorem dX8_read_28 : decode cX8_read 28 = .ok (.aload_n 0, 1) := by decide +kernel
theorem dX8_read_29 : decode cX8_read 29 = .ok (.getfield 94, 3) := by decide +kernel
theorem dX8_read_32 : decode cX8_read 32 = .ok (.iconst 5, 1) := by decide +kernel
theorem dX8_read_33 : decode cX8_read 33 = .ok (.if_icmp .ge 24, 3) := by decide +kernel
theorem dX8_read_36 : decode cX8_read 36 = .ok (.aload_n 0, 1) := by decide +kernel
theorem dX8_read_37 : decode cX8_read 37 = .ok (.iload_n 1, 1) := by decide +kernel
theorem dX8_read_38 : decode cX8_read 38 = .ok (.invokevirtual 97, 3) := by decide +kernel
theorem dX8_read_41 : decode cX8_read 41 = .ok (.bipush 44, 2) := by decide +kernel
theorem dX8_read_43 : decode cX8_read 43 = .ok (.if_icmp .ne 14, 3) := by decide +kernel
theorem dX8_read_46 : decode cX8_read 46 = .ok (.aload_n 0, 1) := by decide +kernel
theorem dX8_read_47 : decode cX8_read 47 = .ok (.iload_n 1, 1) := by decide +kernel
theorem dX8_read_48 : decode cX8_read 48 = .ok (.iconst 1, 1) := by decide +kernel
theorem dX8_read_49 : decode cX8_read 49 = .ok (.iadd, 1) := by decide +kernel
theorem dX8_read_50 : decode cX8_read 50 = .ok (.invokevirtual 117, 3) := by decide +kernel
theorem dX8_read_53 : decode cX8_read 53 = .ok (.istore_n 1, 1) := by decide +kernel
theorem dX8_read_54 : decode cX8_read 54 = .ok (.goto (-33), 3) := by decide +kernel
theorem dX8_read_57 : decode cX8_read 57 = .ok (.aload_n 0, 1) := by decide +kernel
theorem dX8_read_58 : decode cX8_read 58 = .ok (.aload_n 0, 1) := by decide +kernel
theorem dX8_read_59 : decode cX8_read 59 = .ok (.getfield 104, 3) := by decide +kernel
theorem dX8_read_62 : decode cX8_read 62 = .ok (.ifCond .ne 15, 3) := by decide +kernel
theorem dX8_read_65 : decode cX8_read 65 = .ok (.iload_n 1, 1) := by decide +kernel
theorem dX8_read_66 : decode cX8_read 66 = .ok (.aload_n 0, 1) := by decide +kernel
theorem dX8_read_67 : decode cX8_read 67 = .ok (.getfield 90, 3) := by decide +kernel
theorem dX8_read_70 : decode cX8_read 70 = .ok (.if_icmp .ne 7, 3) := by decide +kernel
theorem dX8_read_73 : decode cX8_read 73 = .ok (.iconst 1, 1) := by decide +kernel
theorem dX8_read_74 : decode cX8_read 74 = .ok (.goto 4, 3) := by decide +kernel
theorem dX8_read_77 : decode cX8_read 77 = .ok (.iconst 0, 1) := by decide +kernel
theorem dX8_read_78 : decode cX8_read 78 = .ok (.putfield 114, 3) := by decide +kernel
theorem dX8_read_81 : decode cX8_read 81 = .ok (.iload_n 1, 1) := by decide +kernel
theorem dX8_read_82 : decode cX8_read 82 = .ok (.ireturn, 1) := by decide +kernel
theorem dX8_fault_0 : decode cX8_fault 0 = .ok (.aload_n 0, 1) := by decide +kernel
theorem dX8_fault_1 : decode cX8_fault 1 = .ok (.invokevirtual 120, 3) := by decide +kernel
theorem dX8_fault_4 : decode cX8_fault 4 = .ok (.ireturn, 1) := by decide +kernel
theorem dX8_house_0 : decode cX8_house 0 = .ok (.aload_n 0, 1) := by decide +kernel
theorem dX8_house_1 : decode cX8_house 1 = .ok (.invokevirtual 120, 3) := by decide +kernel
theorem dX8_house_4 : decode cX8_house 4 = .ok (.pop, 1) := by decide +kernel
theorem dX8_house_5 : decode cX8_house 5 = .ok (.aload_n 0, 1) := by decide +kernel
theorem dX8_house_6 : decode cX8_house 6 = .ok (.getfield 114, 3) := by decide +kernel
theorem dX8_house_9 : decode cX8_house 9 = .ok (.ifCond .ne 6, 3) := by decide +kernel
theorem dX8_house_12 : decode cX8_house 12 = .ok (.bipush (-103), 2) := by decide +kernel
theorem dX8_house_14 : decode cX8_house 14 = .ok (.ireturn, 1) := by decide +kernel
theorem dX8_house_15 : decode cX8_house 15 = .ok (.aload_n 0, 1) := by decide +kernel
theorem dX8_house_16 : decode cX8_house 16 = .ok (.aload_n 0, 1) := by decide +kernel
theorem dX8_house_17 : decode cX8_house 17 = .ok (.getfield 94, 3) := by decide +kernel
theorem dX8_house_20 : decode cX8_house 20 = .ok (.putfield 124, 3) := by decide +kernel
theorem dX8_house_23 : decode cX8_house 23 = .ok (.iconst 0, 1) := by decide +kernel
theorem dX8_house_24 : decode cX8_house 24 = .ok (.istore_n 1, 1) := by decide +kernel
theorem dX8_house_25 : decode cX8_house 25 = .ok (.iload_n 1, 1) := by decide +kernel
theorem dX8_house_26 : decode cX8_house 26 = .ok (.aload_n 0, 1) := by decide +kernel
theorem dX8_house_27 : decode cX8_house 27 = .ok (.getfield 124, 3) := by decide +kernel
theorem dX8_house_30 : decode cX8_house 30 = .ok (.if_icmp .ge 109, 3) := by decide +kernel
theorem dX8_house_33 : decode cX8_house 33 = .ok (.aload_n 0, 1) := by decide +kernel
theorem dX8_house_34 : decode cX8_house 34 = .ok (.getfield 7, 3) := by decide +kernel
theorem dX8_house_37 : decode cX8_house 37 = .ok (.iload_n 1, 1) := by decide +kernel
theorem dX8_house_38 : decode cX8_house 38 = .ok (.aload_n 0, 1) := by decide +kernel
theorem dX8_house_39 : decode cX8_house 39 = .ok (.getfield 44, 3) := by decide +kernel
theorem dX8_house_42 : decode cX8_house 42 = .ok (.bipush 6, 2) := by decide +kernel
theorem dX8_house_44 : decode cX8_house 44 = .ok (.iload_n 1, 1) := by decide +kernel
theorem dX8_house_45 : decode cX8_house 45 = .ok (.imul, 1) := by decide +kernel
theorem dX8_house_46 : decode cX8_house 46 = .ok (.iaload, 1) := by decide +kernel
theorem dX8_house_47 : decode cX8_house 47 = .ok (.iastore, 1) := by decide +kernel
theorem dX8_house_48 : decode cX8_house 48 = .ok (.aload_n 0, 1) := by decide +kernel
theorem dX8_house_49 : decode cX8_house 49 = .ok (.getfield 13, 3) := by decide +kernel
theorem dX8_house_52 : decode cX8_house 52 = .ok (.iload_n 1, 1) := by decide +kernel
theorem dX8_house_53 : decode cX8_house 53 = .ok (.aload_n 0, 1) := by decide +kernel
theorem dX8_house_54 : decode cX8_house 54 = .ok (.getfield 44, 3) := by decide +kernel
theorem dX8_house_57 : decode cX8_house 57 = .ok (.bipush 6, 2) := by decide +kernel
theorem dX8_house_59 : decode cX8_house 59 = .ok (.iload_n 1, 1) := by decide +kernel
theorem dX8_house_60 : decode cX8_house 60 = .ok (.imul, 1) := by decide +kernel
theorem dX8_house_61 : decode cX8_house 61 = .ok (.iconst 1, 1) := by decide +kernel
theorem dX8_house_62 : decode cX8_house 62 = .ok (.iadd, 1) := by decide +kernel
theorem dX8_house_63 : decode cX8_house 63 = .ok (.iaload, 1) := by decide +kernel
theorem dX8_house_64 : decode cX8_house 64 = .ok (.iastore, 1) := by decide +kernel
theorem dX8_house_65 : decode cX8_house 65 = .ok (.aload_n 0, 1) := by decide +kernel
theorem dX8_house_66 : decode cX8_house 66 = .ok (.getfield 16, 3) := by decide +kernel
theorem dX8_house_69 : decode cX8_house 69 = .ok (.iload_n 1, 1) := by decide +kernel
theorem dX8_house_70 : decode cX8_house 70 = .ok (.aload_n 0, 1) := by decide +kernel
theorem dX8_house_71 : decode cX8_house 71 = .ok (.getfield 44, 3) := by decide +kernel
theorem dX8_house_74 : decode cX8_house 74 = .ok (.bipush 6, 2) := by decide +kernel
theorem dX8_house_76 : decode cX8_house 76 = .ok (.iload_n 1, 1) := by decide +kernel
theorem dX8_house_77 : decode cX8_house 77 = .ok (.imul, 1) := by decide +kernel
theorem dX8_house_78 : decode cX8_house 78 = .ok (.iconst 2, 1) := by decide +kernel
theorem dX8_house_79 : decode cX8_house 79 = .ok (.iadd, 1) := by decide +kernel
theorem dX8_house_80 : decode cX8_house 80 = .ok (.iaload, 1) := by decide +kernel
theorem dX8_house_81 : decode cX8_house 81 = .ok (.iastore, 1) := by decide +kernel
theorem dX8_house_82 : decode cX8_house 82 = .ok (.aload_n 0, 1) := by decide +kernel
theorem dX8_house_83 : decode cX8_house 83 = .ok (.getfield 19, 3) := by decide +kernel
theorem dX8_house_86 : decode cX8_house 86 = .ok (.iload_n 1, 1) := by decide +kernel
theorem dX8_house_87 : decode cX8_house 87 = .ok (.aload_n 0, 1) := by decide +kernel
theorem dX8_house_88 : decode cX8_house 88 = .ok (.getfield 44, 3) := by decide +kernel
theorem dX8_house_91 : decode cX8_house 91 = .ok (.bipush 6, 2) := by decide +kernel
theorem dX8_house_93 : decode cX8_house 93 = .ok (.iload_n 1, 1) := by decide +kernel
theorem dX8_house_94 : decode cX8_house 94 = .ok (.imul, 1) := by decide +kernel
theorem dX8_house_95 : decode cX8_house 95 = .ok (.iconst 3, 1) := by decide +kernel
theorem dX8_house_96 : decode cX8_house 96 = .ok (.iadd, 1) := by decide +kernel
theorem dX8_house_97 : decode cX8_house 97 = .ok (.iaload, 1) := by decide +kernel
theorem dX8_house_98 : decode cX8_house 98 = .ok (.iastore, 1) := by decide +kernel
theorem dX8_house_99 : decode cX8_house 99 = .ok (.aload_n 0, 1) := by decide +kernel
theorem dX8_house_100 : decode cX8_house 100 = .ok (.getfield 22, 3) := by decide +kernel
theorem dX8_house_103 : decode cX8_house 103 = .ok (.iload_n 1, 1) := by decide +kernel
theorem dX8_house_104 : decode cX8_house 104 = .ok (.aload_n 0, 1) := by decide +kernel
theorem dX8_house_105 : decode cX8_house 105 = .ok (.getfield 44, 3) := by decide +kernel
theorem dX8_house_108 : decode cX8_house 108 = .ok (.bipush 6, 2) := by decide +kernel
theorem dX8_house_110 : decode cX8_house 110 = .ok (.iload_n 1, 1) := by decide +kernel
theorem dX8_house_111 : decode cX8_house 111 = .ok (.imul, 1) := by decide +kernel
theorem dX8_house_112 : decode cX8_house 112 = .ok (.iconst 4, 1) := by decide +kernel
theorem dX8_house_113 : decode cX8_house 113 = .ok (.iadd, 1) := by decide +kernel
theorem dX8_house_114 : decode cX8_house 114 = .ok (.iaload, 1) := by decide +kernel
theorem dX8_house_115 : decode cX8_house 115 = .ok (.iastore, 1) := by decide +kernel
theorem dX8_house_116 : decode cX8_house 116 = .ok (.aload_n 0, 1) := by decide +kernel
theorem dX8_house_117 : decode cX8_house 117 = .ok (.getfield 25, 3) := by decide +kernel
theorem dX8_house_120 : decode cX8_house 120 = .ok (.iload_n 1, 1) := by decide +kernel
theorem dX8_house_121 : decode cX8_house 121 = .ok (.aload_n 0, 1) := by decide +kernel
theorem dX8_house_122 : decode cX8_house 122 = .ok (.getfield 44, 3) := by decide +kernel
theorem dX8_house_125 : decode cX8_house 125 = .ok (.bipush 6, 2) := by decide +kernel
theorem dX8_house_127 : decode cX8_house 127 = .ok (.iload_n 1, 1) := by decide +kernel
theorem dX8_house_128 : decode cX8_house 128 = .ok (.imul, 1) := by decide +kernel
theorem dX8_house_129 : decode cX8_house 129 = .ok (.iconst 5, 1) := by decide +kernel
theorem dX8_house_130 : decode cX8_house 130 = .ok (.iadd, 1) := by decide +kernel
theorem dX8_house_131 : decode cX8_house 131 = .ok (.iaload, 1) := by decide +kernel
theorem dX8_house_132 : decode cX8_house 132 = .ok (.iastore, 1) := by decide +kernel
theorem dX8_house_133 : decode cX8_house 133 = .ok (.iinc 1 1, 3) := by decide +kernel
theorem dX8_house_136 : decode cX8_house 136 = .ok (.goto (-111), 3) := by decide +kernel
theorem dX8_house_139 : decode cX8_house 139 = .ok (.aload_n 0, 1) := by decide +kernel
theorem dX8_house_140 : decode cX8_house 140 = .ok (.invokevirtual 83, 3) := by decide +kernel
theorem dX8_house_143 : decode cX8_house 143 = .ok (.aload_n 0, 1) := by decide +kernel
theorem dX8_house_144 : decode cX8_house 144 = .ok (.dup, 1) := by decide +kernel
theorem dX8_house_145 : decode cX8_house 145 = .ok (.getfield 127, 3) := by decide +kernel
theorem dX8_house_148 : decode cX8_house 148 = .ok (.iconst 1, 1) := by decide +kernel
theorem dX8_house_149 : decode cX8_house 149 = .ok (.iadd, 1) := by decide +kernel
theorem dX8_house_150 : decode cX8_house 150 = .ok (.putfield 127, 3) := by decide +kernel
theorem dX8_house_153 : decode cX8_house 153 = .ok (.aload_n 0, 1) := by decide +kernel
theorem dX8_house_154 : decode cX8_house 154 = .ok (.iconst 0, 1) := by decide +kernel
theorem dX8_house_155 : decode cX8_house 155 = .ok (.putfield 130, 3) := by decide +kernel
theorem dX8_house_158 : decode cX8_house 158 = .ok (.aload_n 0, 1) := by decide +kernel
theorem dX8_house_159 : decode cX8_house 159 = .ok (.iconst 0, 1) := by decide +kernel
theorem dX8_house_160 : decode cX8_house 160 = .ok (.putfield 90, 3) := by decide +kernel
theorem dX8_house_163 : decode cX8_house 163 = .ok (.aload_n 0, 1) := by decide +kernel
theorem dX8_house_164 : decode cX8_house 164 = .ok (.getfield 124, 3) := by decide +kernel
theorem dX8_house_167 : decode cX8_house 167 = .ok (.ireturn, 1) := by decide +kernel
theorem dX8_isTitle_0 : decode cX8_isTitle 0 = .ok (.iload_n 1, 1) := by decide +kernel
theorem dX8_isTitle_1 : decode cX8_isTitle 1 = .ok (.iconst 0, 1) := by decide +kernel
theorem dX8_isTitle_2 : decode cX8_isTitle 2 = .ok (.aload_n 0, 1) := by decide +kernel
theorem dX8_isTitle_3 : decode cX8_isTitle 3 = .ok (.getfield 124, 3) := by decide +kernel
theorem dX8_isTitle_6 : decode cX8_isTitle 6 = .ok (.iconst 1, 1) := by decide +kernel
theorem dX8_isTitle_7 : decode cX8_isTitle 7 = .ok (.isub, 1) := by decide +kernel
theorem dX8_isTitle_8 : decode cX8_isTitle 8 = .ok (.invokestatic 86, 3) := by decide +kernel
theorem dX8_isTitle_11 : decode cX8_isTitle 11 = .ok (.ireturn, 1) := by decide +kernel
theorem dX8_isNight_0 : decode cX8_isNight 0 = .ok (.iload_n 0, 1) := by decide +kernel
theorem dX8_isNight_1 : decode cX8_isNight 1 = .ok (.iconst 0, 1) := by decide +kernel
theorem dX8_isNight_2 : decode cX8_isNight 2 = .ok (.bipush 11, 2) := by decide +kernel
theorem dX8_isNight_4 : decode cX8_isNight 4 = .ok (.invokestatic 86, 3) := by decide +kernel
theorem dX8_isNight_7 : decode cX8_isNight 7 = .ok (.ireturn, 1) := by decide +kernel
theorem dX8_plan_0 : decode cX8_plan 0 = .ok (.aload_n 0, 1) := by decide +kernel
theorem dX8_plan_1 : decode cX8_plan 1 = .ok (.getfield 124, 3) := by decide +kernel
theorem dX8_plan_4 : decode cX8_plan 4 = .ok (.ifCond .le 16, 3) := by decide +kernel
theorem dX8_plan_7 : decode cX8_plan 7 = .ok (.aload_n 0, 1) := by decide +kernel
theorem dX8_plan_8 : decode cX8_plan 8 = .ok (.getfield 90, 3) := by decide +kernel
theorem dX8_plan_11 : decode cX8_plan 11 = .ok (.bipush 12, 2) := by decide +kernel
theorem dX8_plan_13 : decode cX8_plan 13 = .ok (.if_icmp .ne 7, 3) := by decide +kernel
theorem dX8_plan_16 : decode cX8_plan 16 = .ok (.iconst 1, 1) := by decide +kernel
theorem dX8_plan_17 : decode cX8_plan 17 = .ok (.goto 4, 3) := by decide +kernel
theorem dX8_plan_20 : decode cX8_plan 20 = .ok (.iconst 0, 1) := by decide +kernel
theorem dX8_plan_21 : decode cX8_plan 21 = .ok (.istore_n 1, 1) := by decide +kernel
theorem dX8_plan_22 : decode cX8_plan 22 = .ok (.iconst 0, 1) := by decide +kernel
theorem dX8_plan_23 : decode cX8_plan 23 = .ok (.istore_n 2, 1) := by decide +kernel
theorem dX8_plan_24 : decode cX8_plan 24 = .ok (.iload_n 2, 1) := by decide +kernel
theorem dX8_plan_25 : decode cX8_plan 25 = .ok (.bipush 12, 2) := by decide +kernel
theorem dX8_plan_27 : decode cX8_plan 27 = .ok (.if_icmp .ge 46, 3) := by decide +kernel
theorem dX8_plan_30 : decode cX8_plan 30 = .ok (.iload_n 1, 1) := by decide +kernel
theorem dX8_plan_31 : decode cX8_plan 31 = .ok (.ifCond .eq 42, 3) := by decide +kernel
theorem dX8_plan_34 : decode cX8_plan 34 = .ok (.aload_n 0, 1) := by decide +kernel
theorem dX8_plan_35 : decode cX8_plan 35 = .ok (.getfield 40, 3) := by decide +kernel
theorem dX8_plan_38 : decode cX8_plan 38 = .ok (.iload_n 2, 1) := by decide +kernel
theorem dX8_plan_39 : decode cX8_plan 39 = .ok (.baload, 1) := by decide +kernel
theorem dX8_plan_40 : decode cX8_plan 40 = .ok (.bipush 46, 2) := by decide +kernel
theorem dX8_plan_42 : decode cX8_plan 42 = .ok (.if_icmp .eq 19, 3) := by decide +kernel
theorem dX8_plan_45 : decode cX8_plan 45 = .ok (.aload_n 0, 1) := by decide +kernel
theorem dX8_plan_46 : decode cX8_plan 46 = .ok (.aload_n 0, 1) := by decide +kernel
theorem dX8_plan_47 : decode cX8_plan 47 = .ok (.getfield 40, 3) := by decide +kernel
theorem dX8_plan_50 : decode cX8_plan 50 = .ok (.iload_n 2, 1) := by decide +kernel
theorem dX8_plan_51 : decode cX8_plan 51 = .ok (.baload, 1) := by decide +kernel
theorem dX8_plan_52 : decode cX8_plan 52 = .ok (.bipush 48, 2) := by decide +kernel
theorem dX8_plan_54 : decode cX8_plan 54 = .ok (.isub, 1) := by decide +kernel
theorem dX8_plan_55 : decode cX8_plan 55 = .ok (.invokevirtual 133, 3) := by decide +kernel
theorem dX8_plan_58 : decode cX8_plan 58 = .ok (.ifCond .eq 7, 3) := by decide +kernel
theorem dX8_plan_61 : decode cX8_plan 61 = .ok (.iconst 1, 1) := by decide +kernel
theorem dX8_plan_62 : decode cX8_plan 62 = .ok (.goto 4, 3) := by decide +kernel
theorem dX8_plan_65 : decode cX8_plan 65 = .ok (.iconst 0, 1) := by decide +kernel
theorem dX8_plan_66 : decode cX8_plan 66 = .ok (.istore_n 1, 1) := by decide +kernel
theorem dX8_plan_67 : decode cX8_plan 67 = .ok (.iinc 2 1, 3) := by decide +kernel
theorem dX8_plan_70 : decode cX8_plan 70 = .ok (.goto (-46), 3) := by decide +kernel
theorem dX8_plan_73 : decode cX8_plan 73 = .ok (.iload_n 1, 1) := by decide +kernel
theorem dX8_plan_74 : decode cX8_plan 74 = .ok (.ifCond .ne 6, 3) := by decide +kernel
theorem dX8_plan_77 : decode cX8_plan 77 = .ok (.bipush (-103), 2) := by decide +kernel
theorem dX8_plan_79 : decode cX8_plan 79 = .ok (.ireturn, 1) := by decide +kernel
theorem dX8_plan_80 : decode cX8_plan 80 = .ok (.iconst 0, 1) := by decide +kernel
theorem dX8_plan_81 : decode cX8_plan 81 = .ok (.istore_n 2, 1) := by decide +kernel
theorem dX8_plan_82 : decode cX8_plan 82 = .ok (.iload_n 2, 1) := by decide +kernel
theorem dX8_plan_83 : decode cX8_plan 83 = .ok (.bipush 12, 2) := by decide +kernel
theorem dX8_plan_85 : decode cX8_plan 85 = .ok (.if_icmp .ge 39, 3) := by decide +kernel
theorem dX8_plan_88 : decode cX8_plan 88 = .ok (.aload_n 0, 1) := by decide +kernel
theorem dX8_plan_89 : decode cX8_plan 89 = .ok (.getfield 28, 3) := by decide +kernel
theorem dX8_plan_92 : decode cX8_plan 92 = .ok (.iload_n 2, 1) := by decide +kernel
theorem dX8_plan_93 : decode cX8_plan 93 = .ok (.aload_n 0, 1) := by decide +kernel
theorem dX8_plan_94 : decode cX8_plan 94 = .ok (.getfield 40, 3) := by decide +kernel
theorem dX8_plan_97 : decode cX8_plan 97 = .ok (.iload_n 2, 1) := by decide +kernel
theorem dX8_plan_98 : decode cX8_plan 98 = .ok (.baload, 1) := by decide +kernel
theorem dX8_plan_99 : decode cX8_plan 99 = .ok (.bipush 46, 2) := by decide +kernel
theorem dX8_plan_101 : decode cX8_plan 101 = .ok (.if_icmp .ne 7, 3) := by decide +kernel
theorem dX8_plan_104 : decode cX8_plan 104 = .ok (.iconst (-1), 1) := by decide +kernel
theorem dX8_plan_105 : decode cX8_plan 105 = .ok (.goto 12, 3) := by decide +kernel
theorem dX8_plan_108 : decode cX8_plan 108 = .ok (.aload_n 0, 1) := by decide +kernel
theorem dX8_plan_109 : decode cX8_plan 109 = .ok (.getfield 40, 3) := by decide +kernel
theorem dX8_plan_112 : decode cX8_plan 112 = .ok (.iload_n 2, 1) := by decide +kernel
theorem dX8_plan_113 : decode cX8_plan 113 = .ok (.baload, 1) := by decide +kernel
theorem dX8_plan_114 : decode cX8_plan 114 = .ok (.bipush 48, 2) := by decide +kernel
theorem dX8_plan_116 : decode cX8_plan 116 = .ok (.isub, 1) := by decide +kernel
theorem dX8_plan_117 : decode cX8_plan 117 = .ok (.iastore, 1) := by decide +kernel
theorem dX8_plan_118 : decode cX8_plan 118 = .ok (.iinc 2 1, 3) := by decide +kernel
theorem dX8_plan_121 : decode cX8_plan 121 = .ok (.goto (-39), 3) := by decide +kernel
theorem dX8_plan_124 : decode cX8_plan 124 = .ok (.aload_n 0, 1) := by decide +kernel
theorem dX8_plan_125 : decode cX8_plan 125 = .ok (.iconst 0, 1) := by decide +kernel
theorem dX8_plan_126 : decode cX8_plan 126 = .ok (.putfield 90, 3) := by decide +kernel
theorem dX8_plan_129 : decode cX8_plan 129 = .ok (.aload_n 0, 1) := by decide +kernel
theorem dX8_plan_130 : decode cX8_plan 130 = .ok (.invokevirtual 137, 3) := by decide +kernel
theorem dX8_plan_133 : decode cX8_plan 133 = .ok (.ireturn, 1) := by decide +kernel
theorem dX8_on_0 : decode cX8_on 0 = .ok (.iload_n 1, 1) := by decide +kernel
theorem dX8_on_1 : decode cX8_on 1 = .ok (.invokestatic 140, 3) := by decide +kernel
theorem dX8_on_4 : decode cX8_on 4 = .ok (.ifCond .eq 12, 3) := by decide +kernel
theorem dX8_on_7 : decode cX8_on 7 = .ok (.aload_n 0, 1) := by decide +kernel
theorem dX8_on_8 : decode cX8_on 8 = .ok (.getfield 28, 3) := by decide +kernel
theorem dX8_on_11 : decode cX8_on 11 = .ok (.iload_n 1, 1) := by decide +kernel
theorem dX8_on_12 : decode cX8_on 12 = .ok (.iaload, 1) := by decide +kernel
theorem dX8_on_13 : decode cX8_on 13 = .ok (.goto 4, 3) := by decide +kernel
theorem dX8_on_16 : decode cX8_on 16 = .ok (.iconst (-1), 1) := by decide +kernel
theorem dX8_on_17 : decode cX8_on 17 = .ok (.ireturn, 1) := by decide +kernel
theorem dX8_nightsOn_0 : decode cX8_nightsOn 0 = .ok (.iconst 0, 1) := by decide +kernel
theorem dX8_nightsOn_1 : decode cX8_nightsOn 1 = .ok (.istore_n 1, 1) := by decide +kernel
theorem dX8_nightsOn_2 : decode cX8_nightsOn 2 = .ok (.iconst 0, 1) := by decide +kernel
theorem dX8_nightsOn_3 : decode cX8_nightsOn 3 = .ok (.istore_n 2, 1) := by decide +kernel
theorem dX8_nightsOn_4 : decode cX8_nightsOn 4 = .ok (.iload_n 2, 1) := by decide +kernel
theorem dX8_nightsOn_5 : decode cX8_nightsOn 5 = .ok (.bipush 12, 2) := by decide +kernel
theorem dX8_nightsOn_7 : decode cX8_nightsOn 7 = .ok (.if_icmp .ge 27, 3) := by decide +kernel
theorem dX8_nightsOn_10 : decode cX8_nightsOn 10 = .ok (.iload_n 1, 1) := by decide +kernel
theorem dX8_nightsOn_11 : decode cX8_nightsOn 11 = .ok (.aload_n 0, 1) := by decide +kernel
theorem dX8_nightsOn_12 : decode cX8_nightsOn 12 = .ok (.getfield 28, 3) := by decide +kernel
theorem dX8_nightsOn_15 : decode cX8_nightsOn 15 = .ok (.iload_n 2, 1) := by decide +kernel
theorem dX8_nightsOn_16 : decode cX8_nightsOn 16 = .ok (.iaload, 1) := by decide +kernel
theorem dX8_nightsOn_17 : decode cX8_nightsOn 17 = .ok (.iconst (-1), 1) := by decide +kernel
theorem dX8_nightsOn_18 : decode cX8_nightsOn 18 = .ok (.if_icmp .ne 7, 3) := by decide +kernel
theorem dX8_nightsOn_21 : decode cX8_nightsOn 21 = .ok (.iconst 0, 1) := by decide +kernel
theorem dX8_nightsOn_22 : decode cX8_nightsOn 22 = .ok (.goto 4, 3) := by decide +kernel
theorem dX8_nightsOn_25 : decode cX8_nightsOn 25 = .ok (.iconst 1, 1) := by decide +kernel
theorem dX8_nightsOn_26 : decode cX8_nightsOn 26 = .ok (.iadd, 1) := by decide +kernel
theorem dX8_nightsOn_27 : decode cX8_nightsOn 27 = .ok (.istore_n 1, 1) := by decide +kernel
theorem dX8_nightsOn_28 : decode cX8_nightsOn 28 = .ok (.iinc 2 1, 3) := by decide +kernel
theorem dX8_nightsOn_31 : decode cX8_nightsOn 31 = .ok (.goto (-27), 3) := by decide +kernel
theorem dX8_nightsOn_34 : decode cX8_nightsOn 34 = .ok (.iload_n 1, 1) := by decide +kernel
theorem dX8_nightsOn_35 : decode cX8_nightsOn 35 = .ok (.ireturn, 1) := by decide +kernel
theorem dX8_nightsOf_0 : decode cX8_nightsOf 0 = .ok (.iconst 0, 1) := by decide +kernel
theorem dX8_nightsOf_1 : decode cX8_nightsOf 1 = .ok (.istore_n 3, 1) := by decide +kernel
theorem dX8_nightsOf_2 : decode cX8_nightsOf 2 = .ok (.iconst 0, 1) := by decide +kernel
theorem dX8_nightsOf_3 : decode cX8_nightsOf 3 = .ok (.istore 4, 2) := by decide +kernel
theorem dX8_nightsOf_5 : decode cX8_nightsOf 5 = .ok (.iload 4, 2) := by decide +kernel
theorem dX8_nightsOf_7 : decode cX8_nightsOf 7 = .ok (.iload_n 2, 1) := by decide +kernel
theorem dX8_nightsOf_8 : decode cX8_nightsOf 8 = .ok (.if_icmp .ge 28, 3) := by decide +kernel
theorem dX8_nightsOf_11 : decode cX8_nightsOf 11 = .ok (.iload_n 3, 1) := by decide +kernel
theorem dX8_nightsOf_12 : decode cX8_nightsOf 12 = .ok (.aload_n 0, 1) := by decide +kernel
theorem dX8_nightsOf_13 : decode cX8_nightsOf 13 = .ok (.getfield 28, 3) := by decide +kernel
theorem dX8_nightsOf_16 : decode cX8_nightsOf 16 = .ok (.iload 4, 2) := by decide +kernel
theorem dX8_nightsOf_18 : decode cX8_nightsOf 18 = .ok (.iaload, 1) := by decide +kernel
theorem dX8_nightsOf_19 : decode cX8_nightsOf 19 = .ok (.iload_n 1, 1) := by decide +kernel
theorem dX8_nightsOf_20 : decode cX8_nightsOf 20 = .ok (.if_icmp .ne 7, 3) := by decide +kernel
theorem dX8_nightsOf_23 : decode cX8_nightsOf 23 = .ok (.iconst 1, 1) := by decide +kernel
theorem dX8_nightsOf_24 : decode cX8_nightsOf 24 = .ok (.goto 4, 3) := by decide +kernel
theorem dX8_nightsOf_27 : decode cX8_nightsOf 27 = .ok (.iconst 0, 1) := by decide +kernel
theorem dX8_nightsOf_28 : decode cX8_nightsOf 28 = .ok (.iadd, 1) := by decide +kernel
theorem dX8_nightsOf_29 : decode cX8_nightsOf 29 = .ok (.istore_n 3, 1) := by decide +kernel
theorem dX8_nightsOf_30 : decode cX8_nightsOf 30 = .ok (.iinc 4 1, 3) := by decide +kernel
theorem dX8_nightsOf_33 : decode cX8_nightsOf 33 = .ok (.goto (-28), 3) := by decide +kernel
theorem dX8_nightsOf_36 : decode cX8_nightsOf 36 = .ok (.iload_n 3, 1) := by decide +kernel
theorem dX8_nightsOf_37 : decode cX8_nightsOf 37 = .ok (.ireturn, 1) := by decide +kernel
theorem dX8_hasCast_0 : decode cX8_hasCast 0 = .ok (.aload_n 0, 1) := by decide +kernel
theorem dX8_hasCast_1 : decode cX8_hasCast 1 = .ok (.iload_n 1, 1) := by decide +kernel
theorem dX8_hasCast_2 : decode cX8_hasCast 2 = .ok (.invokevirtual 143, 3) := by decide +kernel
theorem dX8_hasCast_5 : decode cX8_hasCast 5 = .ok (.iconst (-1), 1) := by decide +kernel
theorem dX8_hasCast_6 : decode cX8_hasCast 6 = .ok (.if_icmp .eq 21, 3) := by decide +kernel
theorem dX8_hasCast_9 : decode cX8_hasCast 9 = .ok (.aload_n 0, 1) := by decide +kernel
theorem dX8_hasCast_10 : decode cX8_hasCast 10 = .ok (.getfield 16, 3) := by decide +kernel
theorem dX8_hasCast_13 : decode cX8_hasCast 13 = .ok (.aload_n 0, 1) := by decide +kernel
theorem dX8_hasCast_14 : decode cX8_hasCast 14 = .ok (.iload_n 1, 1) := by decide +kernel
theorem dX8_hasCast_15 : decode cX8_hasCast 15 = .ok (.invokevirtual 143, 3) := by decide +kernel
theorem dX8_hasCast_18 : decode cX8_hasCast 18 = .ok (.iaload, 1) := by decide +kernel
theorem dX8_hasCast_19 : decode cX8_hasCast 19 = .ok (.iload_n 2, 1) := by decide +kernel
theorem dX8_hasCast_20 : decode cX8_hasCast 20 = .ok (.if_icmp .ne 7, 3) := by decide +kernel
theorem dX8_hasCast_23 : decode cX8_hasCast 23 = .ok (.iconst 1, 1) := by decide +kernel
theorem dX8_hasCast_24 : decode cX8_hasCast 24 = .ok (.goto 4, 3) := by decide +kernel
theorem dX8_hasCast_27 : decode cX8_hasCast 27 = .ok (.iconst 0, 1) := by decide +kernel
theorem dX8_hasCast_28 : decode cX8_hasCast 28 = .ok (.ireturn, 1) := by decide +kernel
theorem dX8_isCastBehind_0 : decode cX8_isCastBehind 0 = .ok (.iconst 0, 1) := by decide +kernel
theorem dX8_isCastBehind_1 : decode cX8_isCastBehind 1 = .ok (.istore_n 3, 1) := by decide +kernel
theorem dX8_isCastBehind_2 : decode cX8_isCastBehind 2 = .ok (.iload_n 1, 1) := by decide +kernel
theorem dX8_isCastBehind_3 : decode cX8_isCastBehind 3 = .ok (.iconst 1, 1) := by decide +kernel
theorem dX8_isCastBehind_4 : decode cX8_isCastBehind 4 = .ok (.iadd, 1) := by decide +kernel
theorem dX8_isCastBehind_5 : decode cX8_isCastBehind 5 = .ok (.istore 4, 2) := by decide +kernel
theorem dX8_isCastBehind_7 : decode cX8_isCastBehind 7 = .ok (.iload 4, 2) := by decide +kernel
theorem dX8_isCastBehind_9 : decode cX8_isCastBehind 9 = .ok (.bipush 12, 2) := by decide +kernel
theorem dX8_isCastBehind_11 : decode cX8_isCastBehind 11 = .ok (.if_icmp .ge 29, 3) := by decide +kernel
theorem dX8_isCastBehind_14 : decode cX8_isCastBehind 14 = .ok (.iload_n 3, 1) := by decide +kernel
theorem dX8_isCastBehind_15 : decode cX8_isCastBehind 15 = .ok (.ifCond .ne 13, 3) := by decide +kernel
theorem dX8_isCastBehind_18 : decode cX8_isCastBehind 18 = .ok (.aload_n 0, 1) := by decide +kernel
theorem dX8_isCastBehind_19 : decode cX8_isCastBehind 19 = .ok (.iload 4, 2) := by decide +kernel
theorem dX8_isCastBehind_21 : decode cX8_isCastBehind 21 = .ok (.iload_n 2, 1) := by decide +kernel
theorem dX8_isCastBehind_22 : decode cX8_isCastBehind 22 = .ok (.invokevirtual 146, 3) := by decide +kernel
theorem dX8_isCastBehind_25 : decode cX8_isCastBehind 25 = .ok (.ifCond .eq 7, 3) := by decide +kernel
theorem dX8_isCastBehind_28 : decode cX8_isCastBehind 28 = .ok (.iconst 1, 1) := by decide +kernel
theorem dX8_isCastBehind_29 : decode cX8_isCastBehind 29 = .ok (.goto 4, 3) := by decide +kernel
theorem dX8_isCastBehind_32 : decode cX8_isCastBehind 32 = .ok (.iconst 0, 1) := by decide +kernel
theorem dX8_isCastBehind_33 : decode cX8_isCastBehind 33 = .ok (.istore_n 3, 1) := by decide +kernel
theorem dX8_isCastBehind_34 : decode cX8_isCastBehind 34 = .ok (.iinc 4 1, 3) := by decide +kernel
theorem dX8_isCastBehind_37 : decode cX8_isCastBehind 37 = .ok (.goto (-30), 3) := by decide +kernel
theorem dX8_isCastBehind_40 : decode cX8_isCastBehind 40 = .ok (.iload_n 3, 1) := by decide +kernel
theorem dX8_isCastBehind_41 : decode cX8_isCastBehind 41 = .ok (.ireturn, 1) := by decide +kernel
theorem dX8_isGala_0 : decode cX8_isGala 0 = .ok (.aload_n 0, 1) := by decide +kernel
theorem dX8_isGala_1 : decode cX8_isGala 1 = .ok (.getfield 7, 3) := by decide +kernel
theorem dX8_isGala_4 : decode cX8_isGala 4 = .ok (.iload_n 1, 1) := by decide +kernel
theorem dX8_isGala_5 : decode cX8_isGala 5 = .ok (.iaload, 1) := by decide +kernel
theorem dX8_isGala_6 : decode cX8_isGala 6 = .ok (.iconst 1, 1) := by decide +kernel
theorem dX8_isGala_7 : decode cX8_isGala 7 = .ok (.if_icmp .eq 13, 3) := by decide +kernel
theorem dX8_isGala_10 : decode cX8_isGala 10 = .ok (.aload_n 0, 1) := by decide +kernel
theorem dX8_isGala_11 : decode cX8_isGala 11 = .ok (.getfield 7, 3) := by decide +kernel
theorem dX8_isGala_14 : decode cX8_isGala 14 = .ok (.iload_n 1, 1) := by decide +kernel
theorem dX8_isGala_15 : decode cX8_isGala 15 = .ok (.iaload, 1) := by decide +kernel
theorem dX8_isGala_16 : decode cX8_isGala 16 = .ok (.iconst 2, 1) := by decide +kernel
theorem dX8_isGala_17 : decode cX8_isGala 17 = .ok (.if_icmp .ne 7, 3) := by decide +kernel
theorem dX8_isGala_20 : decode cX8_isGala 20 = .ok (.iconst 1, 1) := by decide +kernel
theorem dX8_isGala_21 : decode cX8_isGala 21 = .ok (.goto 4, 3) := by decide +kernel
theorem dX8_isGala_24 : decode cX8_isGala 24 = .ok (.iconst 0, 1) := by decide +kernel
theorem dX8_isGala_25 : decode cX8_isGala 25 = .ok (.ireturn, 1) := by decide +kernel
theorem dX8_breaksAt_0 : decode cX8_breaksAt 0 = .ok (.aload_n 0, 1) := by decide +kernel
theorem dX8_breaksAt_1 : decode cX8_breaksAt 1 = .ok (.getfield 28, 3) := by decide +kernel
theorem dX8_breaksAt_4 : decode cX8_breaksAt 4 = .ok (.iload_n 1, 1) := by decide +kernel
theorem dX8_breaksAt_5 : decode cX8_breaksAt 5 = .ok (.iaload, 1) := by decide +kernel
theorem dX8_breaksAt_6 : decode cX8_breaksAt 6 = .ok (.istore_n 2, 1) := by decide +kernel
theorem dX8_breaksAt_7 : decode cX8_breaksAt 7 = .ok (.iload_n 2, 1) := by decide +kernel
theorem dX8_breaksAt_8 : decode cX8_breaksAt 8 = .ok (.iconst (-1), 1) := by decide +kernel
theorem dX8_breaksAt_9 : decode cX8_breaksAt 9 = .ok (.if_icmp .ne 5, 3) := by decide +kernel
theorem dX8_breaksAt_12 : decode cX8_breaksAt 12 = .ok (.iconst 0, 1) := by decide +kernel
theorem dX8_breaksAt_13 : decode cX8_breaksAt 13 = .ok (.ireturn, 1) := by decide +kernel
theorem dX8_breaksAt_14 : decode cX8_breaksAt 14 = .ok (.iload_n 1, 1) := by decide +kernel
theorem dX8_breaksAt_15 : decode cX8_breaksAt 15 = .ok (.aload_n 0, 1) := by decide +kernel
theorem dX8_breaksAt_16 : decode cX8_breaksAt 16 = .ok (.getfield 19, 3) := by decide +kernel
theorem dX8_breaksAt_19 : decode cX8_breaksAt 19 = .ok (.iload_n 2, 1) := by decide +kernel
end
section
theorem dX8_breaksAt_20 : decode cX8_breaksAt 20 = .ok (.iaload, 1) := by decide +kernel
theorem dX8_breaksAt_21 : decode cX8_breaksAt 21 = .ok (.aload_n 0, 1) := by decide +kernel
theorem dX8_breaksAt_22 : decode cX8_breaksAt 22 = .ok (.getfield 22, 3) := by decide +kernel
theorem dX8_breaksAt_25 : decode cX8_breaksAt 25 = .ok (.iload_n 2, 1) := by decide +kernel
theorem dX8_breaksAt_26 : decode cX8_breaksAt 26 = .ok (.iaload, 1) := by decide +kernel
theorem dX8_breaksAt_27 : decode cX8_breaksAt 27 = .ok (.invokestatic 86, 3) := by decide +kernel
theorem dX8_breaksAt_30 : decode cX8_breaksAt 30 = .ok (.ifCond .ne 5, 3) := by decide +kernel
theorem dX8_breaksAt_33 : decode cX8_breaksAt 33 = .ok (.iconst 1, 1) := by decide +kernel
theorem dX8_breaksAt_34 : decode cX8_breaksAt 34 = .ok (.ireturn, 1) := by decide +kernel
theorem dX8_breaksAt_35 : decode cX8_breaksAt 35 = .ok (.aload_n 0, 1) := by decide +kernel
theorem dX8_breaksAt_36 : decode cX8_breaksAt 36 = .ok (.iload_n 1, 1) := by decide +kernel
theorem dX8_breaksAt_37 : decode cX8_breaksAt 37 = .ok (.iconst 1, 1) := by decide +kernel
theorem dX8_breaksAt_38 : decode cX8_breaksAt 38 = .ok (.isub, 1) := by decide +kernel
theorem dX8_breaksAt_39 : decode cX8_breaksAt 39 = .ok (.invokevirtual 143, 3) := by decide +kernel
theorem dX8_breaksAt_42 : decode cX8_breaksAt 42 = .ok (.iconst (-1), 1) := by decide +kernel
theorem dX8_breaksAt_43 : decode cX8_breaksAt 43 = .ok (.if_icmp .eq 26, 3) := by decide +kernel
theorem dX8_breaksAt_46 : decode cX8_breaksAt 46 = .ok (.aload_n 0, 1) := by decide +kernel
theorem dX8_breaksAt_47 : decode cX8_breaksAt 47 = .ok (.getfield 13, 3) := by decide +kernel
theorem dX8_breaksAt_50 : decode cX8_breaksAt 50 = .ok (.aload_n 0, 1) := by decide +kernel
theorem dX8_breaksAt_51 : decode cX8_breaksAt 51 = .ok (.iload_n 1, 1) := by decide +kernel
theorem dX8_breaksAt_52 : decode cX8_breaksAt 52 = .ok (.iconst 1, 1) := by decide +kernel
theorem dX8_breaksAt_53 : decode cX8_breaksAt 53 = .ok (.isub, 1) := by decide +kernel
theorem dX8_breaksAt_54 : decode cX8_breaksAt 54 = .ok (.invokevirtual 143, 3) := by decide +kernel
theorem dX8_breaksAt_57 : decode cX8_breaksAt 57 = .ok (.iaload, 1) := by decide +kernel
theorem dX8_breaksAt_58 : decode cX8_breaksAt 58 = .ok (.aload_n 0, 1) := by decide +kernel
theorem dX8_breaksAt_59 : decode cX8_breaksAt 59 = .ok (.getfield 13, 3) := by decide +kernel
theorem dX8_breaksAt_62 : decode cX8_breaksAt 62 = .ok (.iload_n 2, 1) := by decide +kernel
theorem dX8_breaksAt_63 : decode cX8_breaksAt 63 = .ok (.iaload, 1) := by decide +kernel
theorem dX8_breaksAt_64 : decode cX8_breaksAt 64 = .ok (.if_icmp .eq 5, 3) := by decide +kernel
theorem dX8_breaksAt_67 : decode cX8_breaksAt 67 = .ok (.iconst 2, 1) := by decide +kernel
theorem dX8_breaksAt_68 : decode cX8_breaksAt 68 = .ok (.ireturn, 1) := by decide +kernel
theorem dX8_breaksAt_69 : decode cX8_breaksAt 69 = .ok (.aload_n 0, 1) := by decide +kernel
theorem dX8_breaksAt_70 : decode cX8_breaksAt 70 = .ok (.iload_n 1, 1) := by decide +kernel
theorem dX8_breaksAt_71 : decode cX8_breaksAt 71 = .ok (.iconst 1, 1) := by decide +kernel
theorem dX8_breaksAt_72 : decode cX8_breaksAt 72 = .ok (.isub, 1) := by decide +kernel
theorem dX8_breaksAt_73 : decode cX8_breaksAt 73 = .ok (.aload_n 0, 1) := by decide +kernel
theorem dX8_breaksAt_74 : decode cX8_breaksAt 74 = .ok (.getfield 16, 3) := by decide +kernel
theorem dX8_breaksAt_77 : decode cX8_breaksAt 77 = .ok (.iload_n 2, 1) := by decide +kernel
theorem dX8_breaksAt_78 : decode cX8_breaksAt 78 = .ok (.iaload, 1) := by decide +kernel
theorem dX8_breaksAt_79 : decode cX8_breaksAt 79 = .ok (.invokevirtual 146, 3) := by decide +kernel
theorem dX8_breaksAt_82 : decode cX8_breaksAt 82 = .ok (.ifCond .eq 21, 3) := by decide +kernel
theorem dX8_breaksAt_85 : decode cX8_breaksAt 85 = .ok (.aload_n 0, 1) := by decide +kernel
theorem dX8_breaksAt_86 : decode cX8_breaksAt 86 = .ok (.iload_n 1, 1) := by decide +kernel
theorem dX8_breaksAt_87 : decode cX8_breaksAt 87 = .ok (.iconst 2, 1) := by decide +kernel
theorem dX8_breaksAt_88 : decode cX8_breaksAt 88 = .ok (.isub, 1) := by decide +kernel
theorem dX8_breaksAt_89 : decode cX8_breaksAt 89 = .ok (.aload_n 0, 1) := by decide +kernel
theorem dX8_breaksAt_90 : decode cX8_breaksAt 90 = .ok (.getfield 16, 3) := by decide +kernel
theorem dX8_breaksAt_93 : decode cX8_breaksAt 93 = .ok (.iload_n 2, 1) := by decide +kernel
theorem dX8_breaksAt_94 : decode cX8_breaksAt 94 = .ok (.iaload, 1) := by decide +kernel
theorem dX8_breaksAt_95 : decode cX8_breaksAt 95 = .ok (.invokevirtual 146, 3) := by decide +kernel
theorem dX8_breaksAt_98 : decode cX8_breaksAt 98 = .ok (.ifCond .eq 5, 3) := by decide +kernel
theorem dX8_breaksAt_101 : decode cX8_breaksAt 101 = .ok (.iconst 3, 1) := by decide +kernel
theorem dX8_breaksAt_102 : decode cX8_breaksAt 102 = .ok (.ireturn, 1) := by decide +kernel
theorem dX8_breaksAt_103 : decode cX8_breaksAt 103 = .ok (.aload_n 0, 1) := by decide +kernel
theorem dX8_breaksAt_104 : decode cX8_breaksAt 104 = .ok (.iload_n 2, 1) := by decide +kernel
theorem dX8_breaksAt_105 : decode cX8_breaksAt 105 = .ok (.invokevirtual 150, 3) := by decide +kernel
theorem dX8_breaksAt_108 : decode cX8_breaksAt 108 = .ok (.ifCond .eq 14, 3) := by decide +kernel
theorem dX8_breaksAt_111 : decode cX8_breaksAt 111 = .ok (.aload_n 0, 1) := by decide +kernel
theorem dX8_breaksAt_112 : decode cX8_breaksAt 112 = .ok (.iload_n 2, 1) := by decide +kernel
theorem dX8_breaksAt_113 : decode cX8_breaksAt 113 = .ok (.iload_n 1, 1) := by decide +kernel
theorem dX8_breaksAt_114 : decode cX8_breaksAt 114 = .ok (.invokevirtual 153, 3) := by decide +kernel
theorem dX8_breaksAt_117 : decode cX8_breaksAt 117 = .ok (.ifCond .le 5, 3) := by decide +kernel
theorem dX8_breaksAt_120 : decode cX8_breaksAt 120 = .ok (.iconst 4, 1) := by decide +kernel
theorem dX8_breaksAt_121 : decode cX8_breaksAt 121 = .ok (.ireturn, 1) := by decide +kernel
theorem dX8_breaksAt_122 : decode cX8_breaksAt 122 = .ok (.aload_n 0, 1) := by decide +kernel
theorem dX8_breaksAt_123 : decode cX8_breaksAt 123 = .ok (.getfield 7, 3) := by decide +kernel
theorem dX8_breaksAt_126 : decode cX8_breaksAt 126 = .ok (.iload_n 2, 1) := by decide +kernel
theorem dX8_breaksAt_127 : decode cX8_breaksAt 127 = .ok (.iaload, 1) := by decide +kernel
theorem dX8_breaksAt_128 : decode cX8_breaksAt 128 = .ok (.iconst 2, 1) := by decide +kernel
theorem dX8_breaksAt_129 : decode cX8_breaksAt 129 = .ok (.if_icmp .ne 19, 3) := by decide +kernel
theorem dX8_breaksAt_132 : decode cX8_breaksAt 132 = .ok (.aload_n 0, 1) := by decide +kernel
theorem dX8_breaksAt_133 : decode cX8_breaksAt 133 = .ok (.iload_n 1, 1) := by decide +kernel
theorem dX8_breaksAt_134 : decode cX8_breaksAt 134 = .ok (.aload_n 0, 1) := by decide +kernel
theorem dX8_breaksAt_135 : decode cX8_breaksAt 135 = .ok (.getfield 16, 3) := by decide +kernel
theorem dX8_breaksAt_138 : decode cX8_breaksAt 138 = .ok (.iload_n 2, 1) := by decide +kernel
theorem dX8_breaksAt_139 : decode cX8_breaksAt 139 = .ok (.iaload, 1) := by decide +kernel
theorem dX8_breaksAt_140 : decode cX8_breaksAt 140 = .ok (.invokevirtual 157, 3) := by decide +kernel
theorem dX8_breaksAt_143 : decode cX8_breaksAt 143 = .ok (.ifCond .eq 5, 3) := by decide +kernel
theorem dX8_breaksAt_146 : decode cX8_breaksAt 146 = .ok (.iconst 5, 1) := by decide +kernel
theorem dX8_breaksAt_147 : decode cX8_breaksAt 147 = .ok (.ireturn, 1) := by decide +kernel
theorem dX8_breaksAt_148 : decode cX8_breaksAt 148 = .ok (.aload_n 0, 1) := by decide +kernel
theorem dX8_breaksAt_149 : decode cX8_breaksAt 149 = .ok (.getfield 7, 3) := by decide +kernel
theorem dX8_breaksAt_152 : decode cX8_breaksAt 152 = .ok (.iload_n 2, 1) := by decide +kernel
theorem dX8_breaksAt_153 : decode cX8_breaksAt 153 = .ok (.iaload, 1) := by decide +kernel
theorem dX8_breaksAt_154 : decode cX8_breaksAt 154 = .ok (.iconst 3, 1) := by decide +kernel
theorem dX8_breaksAt_155 : decode cX8_breaksAt 155 = .ok (.if_icmp .ne 30, 3) := by decide +kernel
theorem dX8_breaksAt_158 : decode cX8_breaksAt 158 = .ok (.aload_n 0, 1) := by decide +kernel
theorem dX8_breaksAt_159 : decode cX8_breaksAt 159 = .ok (.iload_n 1, 1) := by decide +kernel
theorem dX8_breaksAt_160 : decode cX8_breaksAt 160 = .ok (.iconst 1, 1) := by decide +kernel
theorem dX8_breaksAt_161 : decode cX8_breaksAt 161 = .ok (.isub, 1) := by decide +kernel
theorem dX8_breaksAt_162 : decode cX8_breaksAt 162 = .ok (.invokevirtual 143, 3) := by decide +kernel
theorem dX8_breaksAt_165 : decode cX8_breaksAt 165 = .ok (.iload_n 2, 1) := by decide +kernel
theorem dX8_breaksAt_166 : decode cX8_breaksAt 166 = .ok (.if_icmp .eq 19, 3) := by decide +kernel
theorem dX8_breaksAt_169 : decode cX8_breaksAt 169 = .ok (.aload_n 0, 1) := by decide +kernel
theorem dX8_breaksAt_170 : decode cX8_breaksAt 170 = .ok (.iload_n 1, 1) := by decide +kernel
theorem dX8_breaksAt_171 : decode cX8_breaksAt 171 = .ok (.iconst 1, 1) := by decide +kernel
theorem dX8_breaksAt_172 : decode cX8_breaksAt 172 = .ok (.iadd, 1) := by decide +kernel
theorem dX8_breaksAt_173 : decode cX8_breaksAt 173 = .ok (.invokevirtual 143, 3) := by decide +kernel
theorem dX8_breaksAt_176 : decode cX8_breaksAt 176 = .ok (.iload_n 2, 1) := by decide +kernel
theorem dX8_breaksAt_177 : decode cX8_breaksAt 177 = .ok (.if_icmp .eq 8, 3) := by decide +kernel
theorem dX8_breaksAt_180 : decode cX8_breaksAt 180 = .ok (.bipush 6, 2) := by decide +kernel
theorem dX8_breaksAt_182 : decode cX8_breaksAt 182 = .ok (.goto 4, 3) := by decide +kernel
theorem dX8_breaksAt_185 : decode cX8_breaksAt 185 = .ok (.iconst 0, 1) := by decide +kernel
theorem dX8_breaksAt_186 : decode cX8_breaksAt 186 = .ok (.ireturn, 1) := by decide +kernel
theorem dX8_draws_0 : decode cX8_draws 0 = .ok (.aload_n 0, 1) := by decide +kernel
theorem dX8_draws_1 : decode cX8_draws 1 = .ok (.iload_n 1, 1) := by decide +kernel
theorem dX8_draws_2 : decode cX8_draws 2 = .ok (.invokevirtual 143, 3) := by decide +kernel
theorem dX8_draws_5 : decode cX8_draws 5 = .ok (.iconst (-1), 1) := by decide +kernel
theorem dX8_draws_6 : decode cX8_draws 6 = .ok (.if_icmp .eq 30, 3) := by decide +kernel
theorem dX8_draws_9 : decode cX8_draws 9 = .ok (.aload_n 0, 1) := by decide +kernel
theorem dX8_draws_10 : decode cX8_draws 10 = .ok (.iload_n 1, 1) := by decide +kernel
theorem dX8_draws_11 : decode cX8_draws 11 = .ok (.invokevirtual 143, 3) := by decide +kernel
theorem dX8_draws_14 : decode cX8_draws 14 = .ok (.iload_n 2, 1) := by decide +kernel
theorem dX8_draws_15 : decode cX8_draws 15 = .ok (.if_icmp .eq 21, 3) := by decide +kernel
theorem dX8_draws_18 : decode cX8_draws 18 = .ok (.aload_n 0, 1) := by decide +kernel
theorem dX8_draws_19 : decode cX8_draws 19 = .ok (.getfield 7, 3) := by decide +kernel
theorem dX8_draws_22 : decode cX8_draws 22 = .ok (.aload_n 0, 1) := by decide +kernel
theorem dX8_draws_23 : decode cX8_draws 23 = .ok (.iload_n 1, 1) := by decide +kernel
theorem dX8_draws_24 : decode cX8_draws 24 = .ok (.invokevirtual 143, 3) := by decide +kernel
theorem dX8_draws_27 : decode cX8_draws 27 = .ok (.iaload, 1) := by decide +kernel
theorem dX8_draws_28 : decode cX8_draws 28 = .ok (.iconst 4, 1) := by decide +kernel
theorem dX8_draws_29 : decode cX8_draws 29 = .ok (.if_icmp .ne 7, 3) := by decide +kernel
theorem dX8_draws_32 : decode cX8_draws 32 = .ok (.iconst 1, 1) := by decide +kernel
theorem dX8_draws_33 : decode cX8_draws 33 = .ok (.goto 4, 3) := by decide +kernel
theorem dX8_draws_36 : decode cX8_draws 36 = .ok (.iconst 0, 1) := by decide +kernel
theorem dX8_draws_37 : decode cX8_draws 37 = .ok (.ireturn, 1) := by decide +kernel
theorem dX8_seatsAt_0 : decode cX8_seatsAt 0 = .ok (.aload_n 0, 1) := by decide +kernel
theorem dX8_seatsAt_1 : decode cX8_seatsAt 1 = .ok (.getfield 28, 3) := by decide +kernel
theorem dX8_seatsAt_4 : decode cX8_seatsAt 4 = .ok (.iload_n 1, 1) := by decide +kernel
theorem dX8_seatsAt_5 : decode cX8_seatsAt 5 = .ok (.iaload, 1) := by decide +kernel
theorem dX8_seatsAt_6 : decode cX8_seatsAt 6 = .ok (.istore_n 2, 1) := by decide +kernel
theorem dX8_seatsAt_7 : decode cX8_seatsAt 7 = .ok (.iload_n 2, 1) := by decide +kernel
theorem dX8_seatsAt_8 : decode cX8_seatsAt 8 = .ok (.iconst (-1), 1) := by decide +kernel
theorem dX8_seatsAt_9 : decode cX8_seatsAt 9 = .ok (.if_icmp .ne 5, 3) := by decide +kernel
theorem dX8_seatsAt_12 : decode cX8_seatsAt 12 = .ok (.iconst 0, 1) := by decide +kernel
theorem dX8_seatsAt_13 : decode cX8_seatsAt 13 = .ok (.ireturn, 1) := by decide +kernel
theorem dX8_seatsAt_14 : decode cX8_seatsAt 14 = .ok (.bipush 100, 2) := by decide +kernel
theorem dX8_seatsAt_16 : decode cX8_seatsAt 16 = .ok (.aload_n 0, 1) := by decide +kernel
theorem dX8_seatsAt_17 : decode cX8_seatsAt 17 = .ok (.getfield 25, 3) := by decide +kernel
theorem dX8_seatsAt_20 : decode cX8_seatsAt 20 = .ok (.iload_n 2, 1) := by decide +kernel
theorem dX8_seatsAt_21 : decode cX8_seatsAt 21 = .ok (.iaload, 1) := by decide +kernel
theorem dX8_seatsAt_22 : decode cX8_seatsAt 22 = .ok (.imul, 1) := by decide +kernel
theorem dX8_seatsAt_23 : decode cX8_seatsAt 23 = .ok (.istore_n 3, 1) := by decide +kernel
theorem dX8_seatsAt_24 : decode cX8_seatsAt 24 = .ok (.aload_n 0, 1) := by decide +kernel
theorem dX8_seatsAt_25 : decode cX8_seatsAt 25 = .ok (.iload_n 2, 1) := by decide +kernel
theorem dX8_seatsAt_26 : decode cX8_seatsAt 26 = .ok (.iload_n 1, 1) := by decide +kernel
theorem dX8_seatsAt_27 : decode cX8_seatsAt 27 = .ok (.invokevirtual 153, 3) := by decide +kernel
theorem dX8_seatsAt_30 : decode cX8_seatsAt 30 = .ok (.istore 4, 2) := by decide +kernel
theorem dX8_seatsAt_32 : decode cX8_seatsAt 32 = .ok (.iconst 0, 1) := by decide +kernel
theorem dX8_seatsAt_33 : decode cX8_seatsAt 33 = .ok (.istore 5, 2) := by decide +kernel
theorem dX8_seatsAt_35 : decode cX8_seatsAt 35 = .ok (.iload 5, 2) := by decide +kernel
theorem dX8_seatsAt_37 : decode cX8_seatsAt 37 = .ok (.iload 4, 2) := by decide +kernel
theorem dX8_seatsAt_39 : decode cX8_seatsAt 39 = .ok (.if_icmp .ge 23, 3) := by decide +kernel
theorem dX8_seatsAt_42 : decode cX8_seatsAt 42 = .ok (.iload 5, 2) := by decide +kernel
theorem dX8_seatsAt_44 : decode cX8_seatsAt 44 = .ok (.iconst 3, 1) := by decide +kernel
theorem dX8_seatsAt_45 : decode cX8_seatsAt 45 = .ok (.if_icmp .ge 17, 3) := by decide +kernel
theorem dX8_seatsAt_48 : decode cX8_seatsAt 48 = .ok (.iload_n 3, 1) := by decide +kernel
theorem dX8_seatsAt_49 : decode cX8_seatsAt 49 = .ok (.bipush 70, 2) := by decide +kernel
theorem dX8_seatsAt_51 : decode cX8_seatsAt 51 = .ok (.imul, 1) := by decide +kernel
theorem dX8_seatsAt_52 : decode cX8_seatsAt 52 = .ok (.bipush 100, 2) := by decide +kernel
theorem dX8_seatsAt_54 : decode cX8_seatsAt 54 = .ok (.idiv, 1) := by decide +kernel
theorem dX8_seatsAt_55 : decode cX8_seatsAt 55 = .ok (.istore_n 3, 1) := by decide +kernel
theorem dX8_seatsAt_56 : decode cX8_seatsAt 56 = .ok (.iinc 5 1, 3) := by decide +kernel
theorem dX8_seatsAt_59 : decode cX8_seatsAt 59 = .ok (.goto (-24), 3) := by decide +kernel
theorem dX8_seatsAt_62 : decode cX8_seatsAt 62 = .ok (.aload_n 0, 1) := by decide +kernel
theorem dX8_seatsAt_63 : decode cX8_seatsAt 63 = .ok (.iload_n 2, 1) := by decide +kernel
theorem dX8_seatsAt_64 : decode cX8_seatsAt 64 = .ok (.invokevirtual 150, 3) := by decide +kernel
theorem dX8_seatsAt_67 : decode cX8_seatsAt 67 = .ok (.ifCond .eq 11, 3) := by decide +kernel
theorem dX8_seatsAt_70 : decode cX8_seatsAt 70 = .ok (.iconst 3, 1) := by decide +kernel
theorem dX8_seatsAt_71 : decode cX8_seatsAt 71 = .ok (.iload_n 3, 1) := by decide +kernel
theorem dX8_seatsAt_72 : decode cX8_seatsAt 72 = .ok (.imul, 1) := by decide +kernel
theorem dX8_seatsAt_73 : decode cX8_seatsAt 73 = .ok (.iconst 2, 1) := by decide +kernel
theorem dX8_seatsAt_74 : decode cX8_seatsAt 74 = .ok (.idiv, 1) := by decide +kernel
theorem dX8_seatsAt_75 : decode cX8_seatsAt 75 = .ok (.goto 4, 3) := by decide +kernel
theorem dX8_seatsAt_78 : decode cX8_seatsAt 78 = .ok (.iload_n 3, 1) := by decide +kernel
theorem dX8_seatsAt_79 : decode cX8_seatsAt 79 = .ok (.istore_n 3, 1) := by decide +kernel
theorem dX8_seatsAt_80 : decode cX8_seatsAt 80 = .ok (.aload_n 0, 1) := by decide +kernel
theorem dX8_seatsAt_81 : decode cX8_seatsAt 81 = .ok (.iload_n 1, 1) := by decide +kernel
theorem dX8_seatsAt_82 : decode cX8_seatsAt 82 = .ok (.iconst 1, 1) := by decide +kernel
theorem dX8_seatsAt_83 : decode cX8_seatsAt 83 = .ok (.isub, 1) := by decide +kernel
theorem dX8_seatsAt_84 : decode cX8_seatsAt 84 = .ok (.iload_n 2, 1) := by decide +kernel
theorem dX8_seatsAt_85 : decode cX8_seatsAt 85 = .ok (.invokevirtual 160, 3) := by decide +kernel
theorem dX8_seatsAt_88 : decode cX8_seatsAt 88 = .ok (.ifCond .ne 14, 3) := by decide +kernel
theorem dX8_seatsAt_91 : decode cX8_seatsAt 91 = .ok (.aload_n 0, 1) := by decide +kernel
theorem dX8_seatsAt_92 : decode cX8_seatsAt 92 = .ok (.iload_n 1, 1) := by decide +kernel
theorem dX8_seatsAt_93 : decode cX8_seatsAt 93 = .ok (.iconst 1, 1) := by decide +kernel
theorem dX8_seatsAt_94 : decode cX8_seatsAt 94 = .ok (.iadd, 1) := by decide +kernel
theorem dX8_seatsAt_95 : decode cX8_seatsAt 95 = .ok (.iload_n 2, 1) := by decide +kernel
theorem dX8_seatsAt_96 : decode cX8_seatsAt 96 = .ok (.invokevirtual 160, 3) := by decide +kernel
theorem dX8_seatsAt_99 : decode cX8_seatsAt 99 = .ok (.ifCond .eq 10, 3) := by decide +kernel
theorem dX8_seatsAt_102 : decode cX8_seatsAt 102 = .ok (.iload_n 3, 1) := by decide +kernel
theorem dX8_seatsAt_103 : decode cX8_seatsAt 103 = .ok (.bipush 50, 2) := by decide +kernel
theorem dX8_seatsAt_105 : decode cX8_seatsAt 105 = .ok (.iadd, 1) := by decide +kernel
theorem dX8_seatsAt_106 : decode cX8_seatsAt 106 = .ok (.goto 4, 3) := by decide +kernel
theorem dX8_seatsAt_109 : decode cX8_seatsAt 109 = .ok (.iload_n 3, 1) := by decide +kernel
theorem dX8_seatsAt_110 : decode cX8_seatsAt 110 = .ok (.ireturn, 1) := by decide +kernel
theorem dX8_breaks_0 : decode cX8_breaks 0 = .ok (.iconst 0, 1) := by decide +kernel
theorem dX8_breaks_1 : decode cX8_breaks 1 = .ok (.istore_n 1, 1) := by decide +kernel
theorem dX8_breaks_2 : decode cX8_breaks 2 = .ok (.iconst 0, 1) := by decide +kernel
theorem dX8_breaks_3 : decode cX8_breaks 3 = .ok (.istore_n 2, 1) := by decide +kernel
theorem dX8_breaks_4 : decode cX8_breaks 4 = .ok (.iload_n 2, 1) := by decide +kernel
theorem dX8_breaks_5 : decode cX8_breaks 5 = .ok (.bipush 12, 2) := by decide +kernel
theorem dX8_breaks_7 : decode cX8_breaks 7 = .ok (.if_icmp .ge 25, 3) := by decide +kernel
theorem dX8_breaks_10 : decode cX8_breaks 10 = .ok (.iload_n 1, 1) := by decide +kernel
theorem dX8_breaks_11 : decode cX8_breaks 11 = .ok (.aload_n 0, 1) := by decide +kernel
theorem dX8_breaks_12 : decode cX8_breaks 12 = .ok (.iload_n 2, 1) := by decide +kernel
theorem dX8_breaks_13 : decode cX8_breaks 13 = .ok (.invokevirtual 163, 3) := by decide +kernel
theorem dX8_breaks_16 : decode cX8_breaks 16 = .ok (.ifCond .le 7, 3) := by decide +kernel
theorem dX8_breaks_19 : decode cX8_breaks 19 = .ok (.iconst 1, 1) := by decide +kernel
theorem dX8_breaks_20 : decode cX8_breaks 20 = .ok (.goto 4, 3) := by decide +kernel
theorem dX8_breaks_23 : decode cX8_breaks 23 = .ok (.iconst 0, 1) := by decide +kernel
theorem dX8_breaks_24 : decode cX8_breaks 24 = .ok (.iadd, 1) := by decide +kernel
theorem dX8_breaks_25 : decode cX8_breaks 25 = .ok (.istore_n 1, 1) := by decide +kernel
theorem dX8_breaks_26 : decode cX8_breaks 26 = .ok (.iinc 2 1, 3) := by decide +kernel
theorem dX8_breaks_29 : decode cX8_breaks 29 = .ok (.goto (-25), 3) := by decide +kernel
theorem dX8_breaks_32 : decode cX8_breaks 32 = .ok (.iload_n 1, 1) := by decide +kernel
theorem dX8_breaks_33 : decode cX8_breaks 33 = .ok (.ireturn, 1) := by decide +kernel
theorem dX8_lost_0 : decode cX8_lost 0 = .ok (.bipush 12, 2) := by decide +kernel
theorem dX8_lost_2 : decode cX8_lost 2 = .ok (.aload_n 0, 1) := by decide +kernel
theorem dX8_lost_3 : decode cX8_lost 3 = .ok (.invokevirtual 137, 3) := by decide +kernel
theorem dX8_lost_6 : decode cX8_lost 6 = .ok (.isub, 1) := by decide +kernel
theorem dX8_lost_7 : decode cX8_lost 7 = .ok (.aload_n 0, 1) := by decide +kernel
theorem dX8_lost_8 : decode cX8_lost 8 = .ok (.invokevirtual 166, 3) := by decide +kernel
theorem dX8_lost_11 : decode cX8_lost 11 = .ok (.iadd, 1) := by decide +kernel
theorem dX8_lost_12 : decode cX8_lost 12 = .ok (.ireturn, 1) := by decide +kernel
theorem dX8_earned_0 : decode cX8_earned 0 = .ok (.iconst 0, 1) := by decide +kernel
theorem dX8_earned_1 : decode cX8_earned 1 = .ok (.istore_n 1, 1) := by decide +kernel
theorem dX8_earned_2 : decode cX8_earned 2 = .ok (.iconst 0, 1) := by decide +kernel
theorem dX8_earned_3 : decode cX8_earned 3 = .ok (.istore_n 2, 1) := by decide +kernel
theorem dX8_earned_4 : decode cX8_earned 4 = .ok (.iload_n 2, 1) := by decide +kernel
theorem dX8_earned_5 : decode cX8_earned 5 = .ok (.bipush 12, 2) := by decide +kernel
theorem dX8_earned_7 : decode cX8_earned 7 = .ok (.if_icmp .ge 29, 3) := by decide +kernel
theorem dX8_earned_10 : decode cX8_earned 10 = .ok (.iload_n 1, 1) := by decide +kernel
theorem dX8_earned_11 : decode cX8_earned 11 = .ok (.aload_n 0, 1) := by decide +kernel
theorem dX8_earned_12 : decode cX8_earned 12 = .ok (.iload_n 2, 1) := by decide +kernel
theorem dX8_earned_13 : decode cX8_earned 13 = .ok (.invokevirtual 163, 3) := by decide +kernel
theorem dX8_earned_16 : decode cX8_earned 16 = .ok (.ifCond .ne 11, 3) := by decide +kernel
theorem dX8_earned_19 : decode cX8_earned 19 = .ok (.aload_n 0, 1) := by decide +kernel
theorem dX8_earned_20 : decode cX8_earned 20 = .ok (.iload_n 2, 1) := by decide +kernel
theorem dX8_earned_21 : decode cX8_earned 21 = .ok (.invokevirtual 169, 3) := by decide +kernel
theorem dX8_earned_24 : decode cX8_earned 24 = .ok (.goto 4, 3) := by decide +kernel
theorem dX8_earned_27 : decode cX8_earned 27 = .ok (.iconst 0, 1) := by decide +kernel
theorem dX8_earned_28 : decode cX8_earned 28 = .ok (.iadd, 1) := by decide +kernel
theorem dX8_earned_29 : decode cX8_earned 29 = .ok (.istore_n 1, 1) := by decide +kernel
theorem dX8_earned_30 : decode cX8_earned 30 = .ok (.iinc 2 1, 3) := by decide +kernel
theorem dX8_earned_33 : decode cX8_earned 33 = .ok (.goto (-29), 3) := by decide +kernel
theorem dX8_earned_36 : decode cX8_earned 36 = .ok (.iload_n 1, 1) := by decide +kernel
theorem dX8_earned_37 : decode cX8_earned 37 = .ok (.ireturn, 1) := by decide +kernel
theorem dX8_titleNow_0 : decode cX8_titleNow 0 = .ok (.iload_n 2, 1) := by decide +kernel
theorem dX8_titleNow_1 : decode cX8_titleNow 1 = .ok (.tableswitch 103 0 7 #[47, 54, 61, 68, 75, 82, 89, 97], 47) := by decide +kernel
theorem dX8_titleNow_48 : decode cX8_titleNow 48 = .ok (.aload_n 0, 1) := by decide +kernel
theorem dX8_titleNow_49 : decode cX8_titleNow 49 = .ok (.getfield 7, 3) := by decide +kernel
theorem dX8_titleNow_52 : decode cX8_titleNow 52 = .ok (.iload_n 1, 1) := by decide +kernel
theorem dX8_titleNow_53 : decode cX8_titleNow 53 = .ok (.iaload, 1) := by decide +kernel
theorem dX8_titleNow_54 : decode cX8_titleNow 54 = .ok (.ireturn, 1) := by decide +kernel
theorem dX8_titleNow_55 : decode cX8_titleNow 55 = .ok (.aload_n 0, 1) := by decide +kernel
theorem dX8_titleNow_56 : decode cX8_titleNow 56 = .ok (.getfield 13, 3) := by decide +kernel
theorem dX8_titleNow_59 : decode cX8_titleNow 59 = .ok (.iload_n 1, 1) := by decide +kernel
theorem dX8_titleNow_60 : decode cX8_titleNow 60 = .ok (.iaload, 1) := by decide +kernel
theorem dX8_titleNow_61 : decode cX8_titleNow 61 = .ok (.ireturn, 1) := by decide +kernel
theorem dX8_titleNow_62 : decode cX8_titleNow 62 = .ok (.aload_n 0, 1) := by decide +kernel
theorem dX8_titleNow_63 : decode cX8_titleNow 63 = .ok (.getfield 16, 3) := by decide +kernel
theorem dX8_titleNow_66 : decode cX8_titleNow 66 = .ok (.iload_n 1, 1) := by decide +kernel
theorem dX8_titleNow_67 : decode cX8_titleNow 67 = .ok (.iaload, 1) := by decide +kernel
theorem dX8_titleNow_68 : decode cX8_titleNow 68 = .ok (.ireturn, 1) := by decide +kernel
theorem dX8_titleNow_69 : decode cX8_titleNow 69 = .ok (.aload_n 0, 1) := by decide +kernel
theorem dX8_titleNow_70 : decode cX8_titleNow 70 = .ok (.getfield 19, 3) := by decide +kernel
theorem dX8_titleNow_73 : decode cX8_titleNow 73 = .ok (.iload_n 1, 1) := by decide +kernel
theorem dX8_titleNow_74 : decode cX8_titleNow 74 = .ok (.iaload, 1) := by decide +kernel
theorem dX8_titleNow_75 : decode cX8_titleNow 75 = .ok (.ireturn, 1) := by decide +kernel
theorem dX8_titleNow_76 : decode cX8_titleNow 76 = .ok (.aload_n 0, 1) := by decide +kernel
theorem dX8_titleNow_77 : decode cX8_titleNow 77 = .ok (.getfield 22, 3) := by decide +kernel
theorem dX8_titleNow_80 : decode cX8_titleNow 80 = .ok (.iload_n 1, 1) := by decide +kernel
theorem dX8_titleNow_81 : decode cX8_titleNow 81 = .ok (.iaload, 1) := by decide +kernel
theorem dX8_titleNow_82 : decode cX8_titleNow 82 = .ok (.ireturn, 1) := by decide +kernel
theorem dX8_titleNow_83 : decode cX8_titleNow 83 = .ok (.aload_n 0, 1) := by decide +kernel
theorem dX8_titleNow_84 : decode cX8_titleNow 84 = .ok (.getfield 25, 3) := by decide +kernel
theorem dX8_titleNow_87 : decode cX8_titleNow 87 = .ok (.iload_n 1, 1) := by decide +kernel
theorem dX8_titleNow_88 : decode cX8_titleNow 88 = .ok (.iaload, 1) := by decide +kernel
theorem dX8_titleNow_89 : decode cX8_titleNow 89 = .ok (.ireturn, 1) := by decide +kernel
theorem dX8_titleNow_90 : decode cX8_titleNow 90 = .ok (.aload_n 0, 1) := by decide +kernel
theorem dX8_titleNow_91 : decode cX8_titleNow 91 = .ok (.iload_n 1, 1) := by decide +kernel
theorem dX8_titleNow_92 : decode cX8_titleNow 92 = .ok (.bipush 12, 2) := by decide +kernel
theorem dX8_titleNow_94 : decode cX8_titleNow 94 = .ok (.invokevirtual 153, 3) := by decide +kernel
theorem dX8_titleNow_97 : decode cX8_titleNow 97 = .ok (.ireturn, 1) := by decide +kernel
theorem dX8_titleNow_98 : decode cX8_titleNow 98 = .ok (.aload_n 0, 1) := by decide +kernel
theorem dX8_titleNow_99 : decode cX8_titleNow 99 = .ok (.iload_n 1, 1) := by decide +kernel
theorem dX8_titleNow_100 : decode cX8_titleNow 100 = .ok (.invokevirtual 172, 3) := by decide +kernel
theorem dX8_titleNow_103 : decode cX8_titleNow 103 = .ok (.ireturn, 1) := by decide +kernel
theorem dX8_titleNow_104 : decode cX8_titleNow 104 = .ok (.aload_n 0, 1) := by decide +kernel
theorem dX8_titleNow_105 : decode cX8_titleNow 105 = .ok (.iload_n 1, 1) := by decide +kernel
theorem dX8_titleNow_106 : decode cX8_titleNow 106 = .ok (.invokevirtual 175, 3) := by decide +kernel
theorem dX8_titleNow_109 : decode cX8_titleNow 109 = .ok (.ireturn, 1) := by decide +kernel
theorem dX8_title_0 : decode cX8_title 0 = .ok (.aload_n 0, 1) := by decide +kernel
theorem dX8_title_1 : decode cX8_title 1 = .ok (.iload_n 1, 1) := by decide +kernel
theorem dX8_title_2 : decode cX8_title 2 = .ok (.invokevirtual 133, 3) := by decide +kernel
theorem dX8_title_5 : decode cX8_title 5 = .ok (.ifCond .ne 8, 3) := by decide +kernel
theorem dX8_title_8 : decode cX8_title 8 = .ok (.bipush (-101), 2) := by decide +kernel
theorem dX8_title_10 : decode cX8_title 10 = .ok (.goto 24, 3) := by decide +kernel
theorem dX8_title_13 : decode cX8_title 13 = .ok (.iload_n 2, 1) := by decide +kernel
theorem dX8_title_14 : decode cX8_title 14 = .ok (.iconst 0, 1) := by decide +kernel
theorem dX8_title_15 : decode cX8_title 15 = .ok (.bipush 8, 2) := by decide +kernel
theorem dX8_title_17 : decode cX8_title 17 = .ok (.invokestatic 86, 3) := by decide +kernel
theorem dX8_title_20 : decode cX8_title 20 = .ok (.ifCond .eq 12, 3) := by decide +kernel
theorem dX8_title_23 : decode cX8_title 23 = .ok (.aload_n 0, 1) := by decide +kernel
theorem dX8_title_24 : decode cX8_title 24 = .ok (.iload_n 1, 1) := by decide +kernel
theorem dX8_title_25 : decode cX8_title 25 = .ok (.iload_n 2, 1) := by decide +kernel
theorem dX8_title_26 : decode cX8_title 26 = .ok (.invokevirtual 178, 3) := by decide +kernel
theorem dX8_title_29 : decode cX8_title 29 = .ok (.goto 5, 3) := by decide +kernel
theorem dX8_title_32 : decode cX8_title 32 = .ok (.bipush (-102), 2) := by decide +kernel
theorem dX8_title_34 : decode cX8_title 34 = .ok (.ireturn, 1) := by decide +kernel
theorem dX8_as_0 : decode cX8_as 0 = .ok (.aload_n 0, 1) := by decide +kernel
theorem dX8_as_1 : decode cX8_as 1 = .ok (.iload_n 1, 1) := by decide +kernel
theorem dX8_as_2 : decode cX8_as 2 = .ok (.invokevirtual 133, 3) := by decide +kernel
theorem dX8_as_5 : decode cX8_as 5 = .ok (.ifCond .ne 6, 3) := by decide +kernel
theorem dX8_as_8 : decode cX8_as 8 = .ok (.bipush (-101), 2) := by decide +kernel
theorem dX8_as_10 : decode cX8_as 10 = .ok (.ireturn, 1) := by decide +kernel
theorem dX8_as_11 : decode cX8_as 11 = .ok (.iload_n 2, 1) := by decide +kernel
theorem dX8_as_12 : decode cX8_as 12 = .ok (.iconst 0, 1) := by decide +kernel
theorem dX8_as_13 : decode cX8_as 13 = .ok (.iconst 4, 1) := by decide +kernel
theorem dX8_as_14 : decode cX8_as 14 = .ok (.invokestatic 86, 3) := by decide +kernel
theorem dX8_as_17 : decode cX8_as 17 = .ok (.ifCond .ne 6, 3) := by decide +kernel
theorem dX8_as_20 : decode cX8_as 20 = .ok (.bipush (-102), 2) := by decide +kernel
theorem dX8_as_22 : decode cX8_as 22 = .ok (.ireturn, 1) := by decide +kernel
theorem dX8_as_23 : decode cX8_as 23 = .ok (.aload_n 0, 1) := by decide +kernel
theorem dX8_as_24 : decode cX8_as 24 = .ok (.getfield 7, 3) := by decide +kernel
theorem dX8_as_27 : decode cX8_as 27 = .ok (.iload_n 1, 1) := by decide +kernel
theorem dX8_as_28 : decode cX8_as 28 = .ok (.iaload, 1) := by decide +kernel
theorem dX8_as_29 : decode cX8_as 29 = .ok (.istore_n 3, 1) := by decide +kernel
theorem dX8_as_30 : decode cX8_as 30 = .ok (.iload_n 2, 1) := by decide +kernel
theorem dX8_as_31 : decode cX8_as 31 = .ok (.ifCond .eq 18, 3) := by decide +kernel
theorem dX8_as_34 : decode cX8_as 34 = .ok (.iload_n 3, 1) := by decide +kernel
theorem dX8_as_35 : decode cX8_as 35 = .ok (.iload_n 2, 1) := by decide +kernel
theorem dX8_as_36 : decode cX8_as 36 = .ok (.if_icmp .eq 13, 3) := by decide +kernel
theorem dX8_as_39 : decode cX8_as 39 = .ok (.iload_n 2, 1) := by decide +kernel
theorem dX8_as_40 : decode cX8_as 40 = .ok (.iconst 1, 1) := by decide +kernel
theorem dX8_as_41 : decode cX8_as 41 = .ok (.if_icmp .ne 12, 3) := by decide +kernel
theorem dX8_as_44 : decode cX8_as 44 = .ok (.iload_n 3, 1) := by decide +kernel
theorem dX8_as_45 : decode cX8_as 45 = .ok (.iconst 2, 1) := by decide +kernel
theorem dX8_as_46 : decode cX8_as 46 = .ok (.if_icmp .ne 7, 3) := by decide +kernel
theorem dX8_as_49 : decode cX8_as 49 = .ok (.iload_n 1, 1) := by decide +kernel
theorem dX8_as_50 : decode cX8_as 50 = .ok (.goto 4, 3) := by decide +kernel
theorem dX8_as_53 : decode cX8_as 53 = .ok (.iconst (-1), 1) := by decide +kernel
theorem dX8_as_54 : decode cX8_as 54 = .ok (.ireturn, 1) := by decide +kernel
theorem dX8_nightNow_0 : decode cX8_nightNow 0 = .ok (.iload_n 2, 1) := by decide +kernel
theorem dX8_nightNow_1 : decode cX8_nightNow 1 = .ok (.ifCond .ne 12, 3) := by decide +kernel
theorem dX8_nightNow_4 : decode cX8_nightNow 4 = .ok (.aload_n 0, 1) := by decide +kernel
theorem dX8_nightNow_5 : decode cX8_nightNow 5 = .ok (.getfield 28, 3) := by decide +kernel
theorem dX8_nightNow_8 : decode cX8_nightNow 8 = .ok (.iload_n 1, 1) := by decide +kernel
theorem dX8_nightNow_9 : decode cX8_nightNow 9 = .ok (.iaload, 1) := by decide +kernel
theorem dX8_nightNow_10 : decode cX8_nightNow 10 = .ok (.goto 21, 3) := by decide +kernel
theorem dX8_nightNow_13 : decode cX8_nightNow 13 = .ok (.iload_n 2, 1) := by decide +kernel
theorem dX8_nightNow_14 : decode cX8_nightNow 14 = .ok (.iconst 1, 1) := by decide +kernel
theorem dX8_nightNow_15 : decode cX8_nightNow 15 = .ok (.if_icmp .ne 11, 3) := by decide +kernel
theorem dX8_nightNow_18 : decode cX8_nightNow 18 = .ok (.aload_n 0, 1) := by decide +kernel
theorem dX8_nightNow_19 : decode cX8_nightNow 19 = .ok (.iload_n 1, 1) := by decide +kernel
theorem dX8_nightNow_20 : decode cX8_nightNow 20 = .ok (.invokevirtual 163, 3) := by decide +kernel
theorem dX8_nightNow_23 : decode cX8_nightNow 23 = .ok (.goto 8, 3) := by decide +kernel
theorem dX8_nightNow_26 : decode cX8_nightNow 26 = .ok (.aload_n 0, 1) := by decide +kernel
theorem dX8_nightNow_27 : decode cX8_nightNow 27 = .ok (.iload_n 1, 1) := by decide +kernel
theorem dX8_nightNow_28 : decode cX8_nightNow 28 = .ok (.invokevirtual 169, 3) := by decide +kernel
theorem dX8_nightNow_31 : decode cX8_nightNow 31 = .ok (.ireturn, 1) := by decide +kernel
theorem dX8_night_0 : decode cX8_night 0 = .ok (.iload_n 1, 1) := by decide +kernel
theorem dX8_night_1 : decode cX8_night 1 = .ok (.invokestatic 140, 3) := by decide +kernel
theorem dX8_night_4 : decode cX8_night 4 = .ok (.ifCond .eq 10, 3) := by decide +kernel
theorem dX8_night_7 : decode cX8_night 7 = .ok (.aload_n 0, 1) := by decide +kernel
theorem dX8_night_8 : decode cX8_night 8 = .ok (.getfield 124, 3) := by decide +kernel
theorem dX8_night_11 : decode cX8_night 11 = .ok (.ifCond .ne 6, 3) := by decide +kernel
theorem dX8_night_14 : decode cX8_night 14 = .ok (.bipush (-101), 2) := by decide +kernel
theorem dX8_night_16 : decode cX8_night 16 = .ok (.ireturn, 1) := by decide +kernel
theorem dX8_night_17 : decode cX8_night 17 = .ok (.iload_n 2, 1) := by decide +kernel
theorem dX8_night_18 : decode cX8_night 18 = .ok (.iconst 0, 1) := by decide +kernel
theorem dX8_night_19 : decode cX8_night 19 = .ok (.iconst 2, 1) := by decide +kernel
theorem dX8_night_20 : decode cX8_night 20 = .ok (.invokestatic 86, 3) := by decide +kernel
theorem dX8_night_23 : decode cX8_night 23 = .ok (.ifCond .eq 12, 3) := by decide +kernel
theorem dX8_night_26 : decode cX8_night 26 = .ok (.aload_n 0, 1) := by decide +kernel
theorem dX8_night_27 : decode cX8_night 27 = .ok (.iload_n 1, 1) := by decide +kernel
theorem dX8_night_28 : decode cX8_night 28 = .ok (.iload_n 2, 1) := by decide +kernel
theorem dX8_night_29 : decode cX8_night 29 = .ok (.invokevirtual 181, 3) := by decide +kernel
theorem dX8_night_32 : decode cX8_night 32 = .ok (.goto 5, 3) := by decide +kernel
theorem dX8_night_35 : decode cX8_night 35 = .ok (.bipush (-102), 2) := by decide +kernel
theorem dX8_night_37 : decode cX8_night 37 = .ok (.ireturn, 1) := by decide +kernel
theorem dX8_play_0 : decode cX8_play 0 = .ok (.iload_n 1, 1) := by decide +kernel
theorem dX8_play_1 : decode cX8_play 1 = .ok (.invokestatic 140, 3) := by decide +kernel
theorem dX8_play_4 : decode cX8_play 4 = .ok (.ifCond .eq 23, 3) := by decide +kernel
theorem dX8_play_7 : decode cX8_play 7 = .ok (.aload_n 0, 1) := by decide +kernel
theorem dX8_play_8 : decode cX8_play 8 = .ok (.getfield 124, 3) := by decide +kernel
theorem dX8_play_11 : decode cX8_play 11 = .ok (.ifCond .eq 16, 3) := by decide +kernel
theorem dX8_play_14 : decode cX8_play 14 = .ok (.iload_n 2, 1) := by decide +kernel
theorem dX8_play_15 : decode cX8_play 15 = .ok (.iconst (-1), 1) := by decide +kernel
theorem dX8_play_16 : decode cX8_play 16 = .ok (.if_icmp .eq 14, 3) := by decide +kernel
theorem dX8_play_19 : decode cX8_play 19 = .ok (.aload_n 0, 1) := by decide +kernel
theorem dX8_play_20 : decode cX8_play 20 = .ok (.iload_n 2, 1) := by decide +kernel
theorem dX8_play_21 : decode cX8_play 21 = .ok (.invokevirtual 133, 3) := by decide +kernel
theorem dX8_play_24 : decode cX8_play 24 = .ok (.ifCond .ne 6, 3) := by decide +kernel
theorem dX8_play_27 : decode cX8_play 27 = .ok (.bipush (-101), 2) := by decide +kernel
theorem dX8_play_29 : decode cX8_play 29 = .ok (.ireturn, 1) := by decide +kernel
theorem dX8_play_30 : decode cX8_play 30 = .ok (.aload_n 0, 1) := by decide +kernel
theorem dX8_play_31 : decode cX8_play 31 = .ok (.getfield 28, 3) := by decide +kernel
theorem dX8_play_34 : decode cX8_play 34 = .ok (.iload_n 1, 1) := by decide +kernel
theorem dX8_play_35 : decode cX8_play 35 = .ok (.iload_n 2, 1) := by decide +kernel
theorem dX8_play_36 : decode cX8_play 36 = .ok (.iastore, 1) := by decide +kernel
theorem dX8_play_37 : decode cX8_play 37 = .ok (.aload_n 0, 1) := by decide +kernel
theorem dX8_play_38 : decode cX8_play 38 = .ok (.invokevirtual 166, 3) := by decide +kernel
theorem dX8_play_41 : decode cX8_play 41 = .ok (.ireturn, 1) := by decide +kernel
theorem dX8_delay_0 : decode cX8_delay 0 = .ok (.iload_n 1, 1) := by decide +kernel
theorem dX8_delay_1 : decode cX8_delay 1 = .ok (.iconst 1, 1) := by decide +kernel
theorem dX8_delay_2 : decode cX8_delay 2 = .ok (.bipush 11, 2) := by decide +kernel
theorem dX8_delay_4 : decode cX8_delay 4 = .ok (.invokestatic 86, 3) := by decide +kernel
theorem dX8_delay_7 : decode cX8_delay 7 = .ok (.ifCond .ne 6, 3) := by decide +kernel
theorem dX8_delay_10 : decode cX8_delay 10 = .ok (.bipush (-102), 2) := by decide +kernel
theorem dX8_delay_12 : decode cX8_delay 12 = .ok (.ireturn, 1) := by decide +kernel
theorem dX8_delay_13 : decode cX8_delay 13 = .ok (.aload_n 0, 1) := by decide +kernel
theorem dX8_delay_14 : decode cX8_delay 14 = .ok (.getfield 124, 3) := by decide +kernel
theorem dX8_delay_17 : decode cX8_delay 17 = .ok (.ifCond .ne 6, 3) := by decide +kernel
theorem dX8_delay_20 : decode cX8_delay 20 = .ok (.bipush (-103), 2) := by decide +kernel
theorem dX8_delay_22 : decode cX8_delay 22 = .ok (.ireturn, 1) := by decide +kernel
theorem dX8_delay_23 : decode cX8_delay 23 = .ok (.bipush 11, 2) := by decide +kernel
theorem dX8_delay_25 : decode cX8_delay 25 = .ok (.istore_n 2, 1) := by decide +kernel
theorem dX8_delay_26 : decode cX8_delay 26 = .ok (.iload_n 2, 1) := by decide +kernel
theorem dX8_delay_27 : decode cX8_delay 27 = .ok (.ifCond .lt 22, 3) := by decide +kernel
theorem dX8_delay_30 : decode cX8_delay 30 = .ok (.aload_n 0, 1) := by decide +kernel
theorem dX8_delay_31 : decode cX8_delay 31 = .ok (.getfield 28, 3) := by decide +kernel
theorem dX8_delay_34 : decode cX8_delay 34 = .ok (.iload_n 2, 1) := by decide +kernel
theorem dX8_delay_35 : decode cX8_delay 35 = .ok (.aload_n 0, 1) := by decide +kernel
theorem dX8_delay_36 : decode cX8_delay 36 = .ok (.iload_n 2, 1) := by decide +kernel
theorem dX8_delay_37 : decode cX8_delay 37 = .ok (.iload_n 1, 1) := by decide +kernel
theorem dX8_delay_38 : decode cX8_delay 38 = .ok (.isub, 1) := by decide +kernel
theorem dX8_delay_39 : decode cX8_delay 39 = .ok (.invokevirtual 143, 3) := by decide +kernel
theorem dX8_delay_42 : decode cX8_delay 42 = .ok (.iastore, 1) := by decide +kernel
theorem dX8_delay_43 : decode cX8_delay 43 = .ok (.iinc 2 (-1), 3) := by decide +kernel
theorem dX8_delay_46 : decode cX8_delay 46 = .ok (.goto (-20), 3) := by decide +kernel
theorem dX8_delay_49 : decode cX8_delay 49 = .ok (.aload_n 0, 1) := by decide +kernel
theorem dX8_delay_50 : decode cX8_delay 50 = .ok (.invokevirtual 137, 3) := by decide +kernel
theorem dX8_delay_53 : decode cX8_delay 53 = .ok (.ireturn, 1) := by decide +kernel
theorem dX8_add_0 : decode cX8_add 0 = .ok (.iload_n 1, 1) := by decide +kernel
theorem dX8_add_1 : decode cX8_add 1 = .ok (.iconst 0, 1) := by decide +kernel
theorem dX8_add_2 : decode cX8_add 2 = .ok (.iconst 4, 1) := by decide +kernel
theorem dX8_add_3 : decode cX8_add 3 = .ok (.invokestatic 86, 3) := by decide +kernel
theorem dX8_add_6 : decode cX8_add 6 = .ok (.ifCond .eq 21, 3) := by decide +kernel
theorem dX8_add_9 : decode cX8_add 9 = .ok (.iload_n 2, 1) := by decide +kernel
theorem dX8_add_10 : decode cX8_add 10 = .ok (.iconst 0, 1) := by decide +kernel
theorem dX8_add_11 : decode cX8_add 11 = .ok (.iconst 4, 1) := by decide +kernel
theorem dX8_add_12 : decode cX8_add 12 = .ok (.invokestatic 86, 3) := by decide +kernel
theorem dX8_add_15 : decode cX8_add 15 = .ok (.ifCond .eq 12, 3) := by decide +kernel
theorem dX8_add_18 : decode cX8_add 18 = .ok (.iload_n 3, 1) := by decide +kernel
theorem dX8_add_19 : decode cX8_add 19 = .ok (.iconst 0, 1) := by decide +kernel
theorem dX8_add_20 : decode cX8_add 20 = .ok (.iconst 4, 1) := by decide +kernel
theorem dX8_add_21 : decode cX8_add 21 = .ok (.invokestatic 86, 3) := by decide +kernel
theorem dX8_add_24 : decode cX8_add 24 = .ok (.ifCond .ne 6, 3) := by decide +kernel
theorem dX8_add_27 : decode cX8_add 27 = .ok (.bipush (-102), 2) := by decide +kernel
theorem dX8_add_29 : decode cX8_add 29 = .ok (.ireturn, 1) := by decide +kernel
theorem dX8_add_30 : decode cX8_add 30 = .ok (.aload_n 0, 1) := by decide +kernel
theorem dX8_add_31 : decode cX8_add 31 = .ok (.getfield 124, 3) := by decide +kernel
theorem dX8_add_34 : decode cX8_add 34 = .ok (.ifCond .ne 6, 3) := by decide +kernel
theorem dX8_add_37 : decode cX8_add 37 = .ok (.bipush (-103), 2) := by decide +kernel
theorem dX8_add_39 : decode cX8_add 39 = .ok (.ireturn, 1) := by decide +kernel
theorem dX8_add_40 : decode cX8_add 40 = .ok (.aload_n 0, 1) := by decide +kernel
theorem dX8_add_41 : decode cX8_add 41 = .ok (.getfield 124, 3) := by decide +kernel
theorem dX8_add_44 : decode cX8_add 44 = .ok (.iconst 5, 1) := by decide +kernel
theorem dX8_add_45 : decode cX8_add 45 = .ok (.if_icmp .ne 6, 3) := by decide +kernel
theorem dX8_add_48 : decode cX8_add 48 = .ok (.bipush (-104), 2) := by decide +kernel
theorem dX8_add_50 : decode cX8_add 50 = .ok (.ireturn, 1) := by decide +kernel
theorem dX8_add_51 : decode cX8_add 51 = .ok (.aload_n 0, 1) := by decide +kernel
theorem dX8_add_52 : decode cX8_add 52 = .ok (.getfield 7, 3) := by decide +kernel
theorem dX8_add_55 : decode cX8_add 55 = .ok (.aload_n 0, 1) := by decide +kernel
theorem dX8_add_56 : decode cX8_add 56 = .ok (.getfield 124, 3) := by decide +kernel
theorem dX8_add_59 : decode cX8_add 59 = .ok (.iload_n 1, 1) := by decide +kernel
theorem dX8_add_60 : decode cX8_add 60 = .ok (.iastore, 1) := by decide +kernel
theorem dX8_add_61 : decode cX8_add 61 = .ok (.aload_n 0, 1) := by decide +kernel
theorem dX8_add_62 : decode cX8_add 62 = .ok (.getfield 13, 3) := by decide +kernel
theorem dX8_add_65 : decode cX8_add 65 = .ok (.aload_n 0, 1) := by decide +kernel
theorem dX8_add_66 : decode cX8_add 66 = .ok (.getfield 124, 3) := by decide +kernel
theorem dX8_add_69 : decode cX8_add 69 = .ok (.iload_n 2, 1) := by decide +kernel
theorem dX8_add_70 : decode cX8_add 70 = .ok (.iastore, 1) := by decide +kernel
theorem dX8_add_71 : decode cX8_add 71 = .ok (.aload_n 0, 1) := by decide +kernel
theorem dX8_add_72 : decode cX8_add 72 = .ok (.getfield 16, 3) := by decide +kernel
theorem dX8_add_75 : decode cX8_add 75 = .ok (.aload_n 0, 1) := by decide +kernel
theorem dX8_add_76 : decode cX8_add 76 = .ok (.getfield 124, 3) := by decide +kernel
theorem dX8_add_79 : decode cX8_add 79 = .ok (.iload_n 3, 1) := by decide +kernel
theorem dX8_add_80 : decode cX8_add 80 = .ok (.iastore, 1) := by decide +kernel
theorem dX8_add_81 : decode cX8_add 81 = .ok (.aload_n 0, 1) := by decide +kernel
theorem dX8_add_82 : decode cX8_add 82 = .ok (.getfield 19, 3) := by decide +kernel
theorem dX8_add_85 : decode cX8_add 85 = .ok (.aload_n 0, 1) := by decide +kernel
theorem dX8_add_86 : decode cX8_add 86 = .ok (.getfield 124, 3) := by decide +kernel
theorem dX8_add_89 : decode cX8_add 89 = .ok (.iconst 0, 1) := by decide +kernel
theorem dX8_add_90 : decode cX8_add 90 = .ok (.iastore, 1) := by decide +kernel
theorem dX8_add_91 : decode cX8_add 91 = .ok (.aload_n 0, 1) := by decide +kernel
theorem dX8_add_92 : decode cX8_add 92 = .ok (.getfield 22, 3) := by decide +kernel
theorem dX8_add_95 : decode cX8_add 95 = .ok (.aload_n 0, 1) := by decide +kernel
theorem dX8_add_96 : decode cX8_add 96 = .ok (.getfield 124, 3) := by decide +kernel
theorem dX8_add_99 : decode cX8_add 99 = .ok (.bipush 11, 2) := by decide +kernel
theorem dX8_add_101 : decode cX8_add 101 = .ok (.iastore, 1) := by decide +kernel
theorem dX8_add_102 : decode cX8_add 102 = .ok (.aload_n 0, 1) := by decide +kernel
theorem dX8_add_103 : decode cX8_add 103 = .ok (.getfield 25, 3) := by decide +kernel
theorem dX8_add_106 : decode cX8_add 106 = .ok (.aload_n 0, 1) := by decide +kernel
theorem dX8_add_107 : decode cX8_add 107 = .ok (.getfield 124, 3) := by decide +kernel
theorem dX8_add_110 : decode cX8_add 110 = .ok (.iconst 5, 1) := by decide +kernel
theorem dX8_add_111 : decode cX8_add 111 = .ok (.iastore, 1) := by decide +kernel
theorem dX8_add_112 : decode cX8_add 112 = .ok (.aload_n 0, 1) := by decide +kernel
theorem dX8_add_113 : decode cX8_add 113 = .ok (.dup, 1) := by decide +kernel
theorem dX8_add_114 : decode cX8_add 114 = .ok (.getfield 124, 3) := by decide +kernel
theorem dX8_add_117 : decode cX8_add 117 = .ok (.iconst 1, 1) := by decide +kernel
theorem dX8_add_118 : decode cX8_add 118 = .ok (.iadd, 1) := by decide +kernel
theorem dX8_add_119 : decode cX8_add 119 = .ok (.putfield 124, 3) := by decide +kernel
theorem dX8_add_122 : decode cX8_add 122 = .ok (.aload_n 0, 1) := by decide +kernel
theorem dX8_add_123 : decode cX8_add 123 = .ok (.getfield 124, 3) := by decide +kernel
theorem dX8_add_126 : decode cX8_add 126 = .ok (.iconst 1, 1) := by decide +kernel
theorem dX8_add_127 : decode cX8_add 127 = .ok (.isub, 1) := by decide +kernel
theorem dX8_add_128 : decode cX8_add 128 = .ok (.ireturn, 1) := by decide +kernel
theorem dX8_rights_0 : decode cX8_rights 0 = .ok (.aload_n 0, 1) := by decide +kernel
theorem dX8_rights_1 : decode cX8_rights 1 = .ok (.iload_n 1, 1) := by decide +kernel
theorem dX8_rights_2 : decode cX8_rights 2 = .ok (.invokevirtual 133, 3) := by decide +kernel
theorem dX8_rights_5 : decode cX8_rights 5 = .ok (.ifCond .ne 6, 3) := by decide +kernel
theorem dX8_rights_8 : decode cX8_rights 8 = .ok (.bipush (-101), 2) := by decide +kernel
theorem dX8_rights_10 : decode cX8_rights 10 = .ok (.ireturn, 1) := by decide +kernel
theorem dX8_rights_11 : decode cX8_rights 11 = .ok (.iload_n 2, 1) := by decide +kernel
theorem dX8_rights_12 : decode cX8_rights 12 = .ok (.invokestatic 140, 3) := by decide +kernel
theorem dX8_rights_15 : decode cX8_rights 15 = .ok (.ifCond .eq 13, 3) := by decide +kernel
theorem dX8_rights_18 : decode cX8_rights 18 = .ok (.iload_n 3, 1) := by decide +kernel
theorem dX8_rights_19 : decode cX8_rights 19 = .ok (.iload_n 2, 1) := by decide +kernel
theorem dX8_rights_20 : decode cX8_rights 20 = .ok (.bipush 11, 2) := by decide +kernel
theorem dX8_rights_22 : decode cX8_rights 22 = .ok (.invokestatic 86, 3) := by decide +kernel
theorem dX8_rights_25 : decode cX8_rights 25 = .ok (.ifCond .ne 6, 3) := by decide +kernel
theorem dX8_rights_28 : decode cX8_rights 28 = .ok (.bipush (-102), 2) := by decide +kernel
theorem dX8_rights_30 : decode cX8_rights 30 = .ok (.ireturn, 1) := by decide +kernel
theorem dX8_rights_31 : decode cX8_rights 31 = .ok (.aload_n 0, 1) := by decide +kernel
theorem dX8_rights_32 : decode cX8_rights 32 = .ok (.getfield 19, 3) := by decide +kernel
theorem dX8_rights_35 : decode cX8_rights 35 = .ok (.iload_n 1, 1) := by decide +kernel
theorem dX8_rights_36 : decode cX8_rights 36 = .ok (.iload_n 2, 1) := by decide +kernel
theorem dX8_rights_37 : decode cX8_rights 37 = .ok (.iastore, 1) := by decide +kernel
theorem dX8_rights_38 : decode cX8_rights 38 = .ok (.aload_n 0, 1) := by decide +kernel
theorem dX8_rights_39 : decode cX8_rights 39 = .ok (.getfield 22, 3) := by decide +kernel
theorem dX8_rights_42 : decode cX8_rights 42 = .ok (.iload_n 1, 1) := by decide +kernel
theorem dX8_rights_43 : decode cX8_rights 43 = .ok (.iload_n 3, 1) := by decide +kernel
theorem dX8_rights_44 : decode cX8_rights 44 = .ok (.iastore, 1) := by decide +kernel
theorem dX8_rights_45 : decode cX8_rights 45 = .ok (.aload_n 0, 1) := by decide +kernel
theorem dX8_rights_46 : decode cX8_rights 46 = .ok (.invokevirtual 166, 3) := by decide +kernel
theorem dX8_rights_49 : decode cX8_rights 49 = .ok (.ireturn, 1) := by decide +kernel
theorem dX8_be_0 : decode cX8_be 0 = .ok (.aload_n 0, 1) := by decide +kernel
theorem dX8_be_1 : decode cX8_be 1 = .ok (.iload_n 1, 1) := by decide +kernel
theorem dX8_be_2 : decode cX8_be 2 = .ok (.invokevirtual 133, 3) := by decide +kernel
theorem dX8_be_5 : decode cX8_be 5 = .ok (.ifCond .ne 6, 3) := by decide +kernel
theorem dX8_be_8 : decode cX8_be 8 = .ok (.bipush (-101), 2) := by decide +kernel
theorem dX8_be_10 : decode cX8_be 10 = .ok (.ireturn, 1) := by decide +kernel
theorem dX8_be_11 : decode cX8_be 11 = .ok (.iload_n 2, 1) := by decide +kernel
theorem dX8_be_12 : decode cX8_be 12 = .ok (.iconst 0, 1) := by decide +kernel
theorem dX8_be_13 : decode cX8_be 13 = .ok (.iconst 4, 1) := by decide +kernel
theorem dX8_be_14 : decode cX8_be 14 = .ok (.invokestatic 86, 3) := by decide +kernel
theorem dX8_be_17 : decode cX8_be 17 = .ok (.ifCond .ne 6, 3) := by decide +kernel
theorem dX8_be_20 : decode cX8_be 20 = .ok (.bipush (-102), 2) := by decide +kernel
theorem dX8_be_22 : decode cX8_be 22 = .ok (.ireturn, 1) := by decide +kernel
theorem dX8_be_23 : decode cX8_be 23 = .ok (.aload_n 0, 1) := by decide +kernel
theorem dX8_be_24 : decode cX8_be 24 = .ok (.getfield 7, 3) := by decide +kernel
theorem dX8_be_27 : decode cX8_be 27 = .ok (.iload_n 1, 1) := by decide +kernel
theorem dX8_be_28 : decode cX8_be 28 = .ok (.iaload, 1) := by decide +kernel
theorem dX8_be_29 : decode cX8_be 29 = .ok (.istore_n 3, 1) := by decide +kernel
theorem dX8_be_30 : decode cX8_be 30 = .ok (.aload_n 0, 1) := by decide +kernel
theorem dX8_be_31 : decode cX8_be 31 = .ok (.getfield 7, 3) := by decide +kernel
theorem dX8_be_34 : decode cX8_be 34 = .ok (.iload_n 1, 1) := by decide +kernel
theorem dX8_be_35 : decode cX8_be 35 = .ok (.iload_n 2, 1) := by decide +kernel
theorem dX8_be_36 : decode cX8_be 36 = .ok (.iastore, 1) := by decide +kernel
theorem dX8_be_37 : decode cX8_be 37 = .ok (.iload_n 3, 1) := by decide +kernel
theorem dX8_be_38 : decode cX8_be 38 = .ok (.ireturn, 1) := by decide +kernel
theorem dX8_darkOnes_0 : decode cX8_darkOnes 0 = .ok (.iconst 0, 1) := by decide +kernel
theorem dX8_darkOnes_1 : decode cX8_darkOnes 1 = .ok (.istore_n 3, 1) := by decide +kernel
theorem dX8_darkOnes_2 : decode cX8_darkOnes 2 = .ok (.iload_n 1, 1) := by decide +kernel
theorem dX8_darkOnes_3 : decode cX8_darkOnes 3 = .ok (.istore 4, 2) := by decide +kernel
theorem dX8_darkOnes_5 : decode cX8_darkOnes 5 = .ok (.iload 4, 2) := by decide +kernel
theorem dX8_darkOnes_7 : decode cX8_darkOnes 7 = .ok (.iload_n 2, 1) := by decide +kernel
theorem dX8_darkOnes_8 : decode cX8_darkOnes 8 = .ok (.if_icmp .gt 28, 3) := by decide +kernel
theorem dX8_darkOnes_11 : decode cX8_darkOnes 11 = .ok (.iload_n 3, 1) := by decide +kernel
theorem dX8_darkOnes_12 : decode cX8_darkOnes 12 = .ok (.aload_n 0, 1) := by decide +kernel
theorem dX8_darkOnes_13 : decode cX8_darkOnes 13 = .ok (.getfield 28, 3) := by decide +kernel
theorem dX8_darkOnes_16 : decode cX8_darkOnes 16 = .ok (.iload 4, 2) := by decide +kernel
theorem dX8_darkOnes_18 : decode cX8_darkOnes 18 = .ok (.iaload, 1) := by decide +kernel
theorem dX8_darkOnes_19 : decode cX8_darkOnes 19 = .ok (.iconst (-1), 1) := by decide +kernel
theorem dX8_darkOnes_20 : decode cX8_darkOnes 20 = .ok (.if_icmp .ne 7, 3) := by decide +kernel
theorem dX8_darkOnes_23 : decode cX8_darkOnes 23 = .ok (.iconst 1, 1) := by decide +kernel
theorem dX8_darkOnes_24 : decode cX8_darkOnes 24 = .ok (.goto 4, 3) := by decide +kernel
theorem dX8_darkOnes_27 : decode cX8_darkOnes 27 = .ok (.iconst 0, 1) := by decide +kernel
theorem dX8_darkOnes_28 : decode cX8_darkOnes 28 = .ok (.iadd, 1) := by decide +kernel
theorem dX8_darkOnes_29 : decode cX8_darkOnes 29 = .ok (.istore_n 3, 1) := by decide +kernel
theorem dX8_darkOnes_30 : decode cX8_darkOnes 30 = .ok (.iinc 4 1, 3) := by decide +kernel
theorem dX8_darkOnes_33 : decode cX8_darkOnes 33 = .ok (.goto (-28), 3) := by decide +kernel
theorem dX8_darkOnes_36 : decode cX8_darkOnes 36 = .ok (.iload_n 3, 1) := by decide +kernel
theorem dX8_darkOnes_37 : decode cX8_darkOnes 37 = .ok (.ireturn, 1) := by decide +kernel
theorem dX8_layDarks_0 : decode cX8_layDarks 0 = .ok (.aload_n 0, 1) := by decide +kernel
theorem dX8_layDarks_1 : decode cX8_layDarks 1 = .ok (.iconst 0, 1) := by decide +kernel
theorem dX8_layDarks_2 : decode cX8_layDarks 2 = .ok (.putfield 184, 3) := by decide +kernel
theorem dX8_layDarks_5 : decode cX8_layDarks 5 = .ok (.iload_n 1, 1) := by decide +kernel
theorem dX8_layDarks_6 : decode cX8_layDarks 6 = .ok (.istore_n 3, 1) := by decide +kernel
theorem dX8_layDarks_7 : decode cX8_layDarks 7 = .ok (.iload_n 3, 1) := by decide +kernel
theorem dX8_layDarks_8 : decode cX8_layDarks 8 = .ok (.iload_n 2, 1) := by decide +kernel
theorem dX8_layDarks_9 : decode cX8_layDarks 9 = .ok (.if_icmp .gt 39, 3) := by decide +kernel
theorem dX8_layDarks_12 : decode cX8_layDarks 12 = .ok (.aload_n 0, 1) := by decide +kernel
theorem dX8_layDarks_13 : decode cX8_layDarks 13 = .ok (.getfield 28, 3) := by decide +kernel
theorem dX8_layDarks_16 : decode cX8_layDarks 16 = .ok (.iload_n 3, 1) := by decide +kernel
theorem dX8_layDarks_17 : decode cX8_layDarks 17 = .ok (.iaload, 1) := by decide +kernel
theorem dX8_layDarks_18 : decode cX8_layDarks 18 = .ok (.iconst (-1), 1) := by decide +kernel
theorem dX8_layDarks_19 : decode cX8_layDarks 19 = .ok (.if_icmp .ne 23, 3) := by decide +kernel
theorem dX8_layDarks_22 : decode cX8_layDarks 22 = .ok (.aload_n 0, 1) := by decide +kernel
theorem dX8_layDarks_23 : decode cX8_layDarks 23 = .ok (.getfield 47, 3) := by decide +kernel
theorem dX8_layDarks_26 : decode cX8_layDarks 26 = .ok (.aload_n 0, 1) := by decide +kernel
theorem dX8_layDarks_27 : decode cX8_layDarks 27 = .ok (.getfield 184, 3) := by decide +kernel
theorem dX8_layDarks_30 : decode cX8_layDarks 30 = .ok (.iload_n 3, 1) := by decide +kernel
theorem dX8_layDarks_31 : decode cX8_layDarks 31 = .ok (.iastore, 1) := by decide +kernel
theorem dX8_layDarks_32 : decode cX8_layDarks 32 = .ok (.aload_n 0, 1) := by decide +kernel
theorem dX8_layDarks_33 : decode cX8_layDarks 33 = .ok (.dup, 1) := by decide +kernel
theorem dX8_layDarks_34 : decode cX8_layDarks 34 = .ok (.getfield 184, 3) := by decide +kernel
theorem dX8_layDarks_37 : decode cX8_layDarks 37 = .ok (.iconst 1, 1) := by decide +kernel
theorem dX8_layDarks_38 : decode cX8_layDarks 38 = .ok (.iadd, 1) := by decide +kernel
theorem dX8_layDarks_39 : decode cX8_layDarks 39 = .ok (.putfield 184, 3) := by decide +kernel
theorem dX8_layDarks_42 : decode cX8_layDarks 42 = .ok (.iinc 3 1, 3) := by decide +kernel
theorem dX8_layDarks_45 : decode cX8_layDarks 45 = .ok (.goto (-38), 3) := by decide +kernel
theorem dX8_layDarks_48 : decode cX8_layDarks 48 = .ok (.return_, 1) := by decide +kernel
theorem dX8_fillBy_0 : decode cX8_fillBy 0 = .ok (.iload_n 1, 1) := by decide +kernel
theorem dX8_fillBy_1 : decode cX8_fillBy 1 = .ok (.istore_n 2, 1) := by decide +kernel
theorem dX8_fillBy_2 : decode cX8_fillBy 2 = .ok (.aload_n 0, 1) := by decide +kernel
theorem dX8_fillBy_3 : decode cX8_fillBy 3 = .ok (.getfield 184, 3) := by decide +kernel
theorem dX8_fillBy_6 : decode cX8_fillBy 6 = .ok (.iconst 1, 1) := by decide +kernel
theorem dX8_fillBy_7 : decode cX8_fillBy 7 = .ok (.isub, 1) := by decide +kernel
theorem dX8_fillBy_8 : decode cX8_fillBy 8 = .ok (.istore_n 3, 1) := by decide +kernel
theorem dX8_fillBy_9 : decode cX8_fillBy 9 = .ok (.iload_n 3, 1) := by decide +kernel
theorem dX8_fillBy_10 : decode cX8_fillBy 10 = .ok (.ifCond .lt 39, 3) := by decide +kernel
theorem dX8_fillBy_13 : decode cX8_fillBy 13 = .ok (.aload_n 0, 1) := by decide +kernel
theorem dX8_fillBy_14 : decode cX8_fillBy 14 = .ok (.getfield 28, 3) := by decide +kernel
theorem dX8_fillBy_17 : decode cX8_fillBy 17 = .ok (.aload_n 0, 1) := by decide +kernel
theorem dX8_fillBy_18 : decode cX8_fillBy 18 = .ok (.getfield 47, 3) := by decide +kernel
theorem dX8_fillBy_21 : decode cX8_fillBy 21 = .ok (.iload_n 3, 1) := by decide +kernel
theorem dX8_fillBy_22 : decode cX8_fillBy 22 = .ok (.iaload, 1) := by decide +kernel
theorem dX8_fillBy_23 : decode cX8_fillBy 23 = .ok (.iload_n 2, 1) := by decide +kernel
theorem dX8_fillBy_24 : decode cX8_fillBy 24 = .ok (.aload_n 0, 1) := by decide +kernel
theorem dX8_fillBy_25 : decode cX8_fillBy 25 = .ok (.getfield 124, 3) := by decide +kernel
theorem dX8_fillBy_28 : decode cX8_fillBy 28 = .ok (.iconst 1, 1) := by decide +kernel
theorem dX8_fillBy_29 : decode cX8_fillBy 29 = .ok (.iadd, 1) := by decide +kernel
theorem dX8_fillBy_30 : decode cX8_fillBy 30 = .ok (.irem, 1) := by decide +kernel
theorem dX8_fillBy_31 : decode cX8_fillBy 31 = .ok (.iconst 1, 1) := by decide +kernel
theorem dX8_fillBy_32 : decode cX8_fillBy 32 = .ok (.isub, 1) := by decide +kernel
theorem dX8_fillBy_33 : decode cX8_fillBy 33 = .ok (.iastore, 1) := by decide +kernel
theorem dX8_fillBy_34 : decode cX8_fillBy 34 = .ok (.iload_n 2, 1) := by decide +kernel
theorem dX8_fillBy_35 : decode cX8_fillBy 35 = .ok (.aload_n 0, 1) := by decide +kernel
theorem dX8_fillBy_36 : decode cX8_fillBy 36 = .ok (.getfield 124, 3) := by decide +kernel
theorem dX8_fillBy_39 : decode cX8_fillBy 39 = .ok (.iconst 1, 1) := by decide +kernel
theorem dX8_fillBy_40 : decode cX8_fillBy 40 = .ok (.iadd, 1) := by decide +kernel
theorem dX8_fillBy_41 : decode cX8_fillBy 41 = .ok (.idiv, 1) := by decide +kernel
theorem dX8_fillBy_42 : decode cX8_fillBy 42 = .ok (.istore_n 2, 1) := by decide +kernel
theorem dX8_fillBy_43 : decode cX8_fillBy 43 = .ok (.iinc 3 (-1), 3) := by decide +kernel
theorem dX8_fillBy_46 : decode cX8_fillBy 46 = .ok (.goto (-37), 3) := by decide +kernel
theorem dX8_fillBy_49 : decode cX8_fillBy 49 = .ok (.return_, 1) := by decide +kernel
theorem dX8_findBest_0 : decode cX8_findBest 0 = .ok (.iconst 1, 1) := by decide +kernel
theorem dX8_findBest_1 : decode cX8_findBest 1 = .ok (.istore_n 1, 1) := by decide +kernel
theorem dX8_findBest_2 : decode cX8_findBest 2 = .ok (.iconst 0, 1) := by decide +kernel
theorem dX8_findBest_3 : decode cX8_findBest 3 = .ok (.istore_n 2, 1) := by decide +kernel
theorem dX8_findBest_4 : decode cX8_findBest 4 = .ok (.iload_n 2, 1) := by decide +kernel
theorem dX8_findBest_5 : decode cX8_findBest 5 = .ok (.aload_n 0, 1) := by decide +kernel
theorem dX8_findBest_6 : decode cX8_findBest 6 = .ok (.getfield 184, 3) := by decide +kernel
theorem dX8_findBest_9 : decode cX8_findBest 9 = .ok (.if_icmp .ge 18, 3) := by decide +kernel
theorem dX8_findBest_12 : decode cX8_findBest 12 = .ok (.iload_n 1, 1) := by decide +kernel
theorem dX8_findBest_13 : decode cX8_findBest 13 = .ok (.aload_n 0, 1) := by decide +kernel
theorem dX8_findBest_14 : decode cX8_findBest 14 = .ok (.getfield 124, 3) := by decide +kernel
theorem dX8_findBest_17 : decode cX8_findBest 17 = .ok (.iconst 1, 1) := by decide +kernel
theorem dX8_findBest_18 : decode cX8_findBest 18 = .ok (.iadd, 1) := by decide +kernel
theorem dX8_findBest_19 : decode cX8_findBest 19 = .ok (.imul, 1) := by decide +kernel
theorem dX8_findBest_20 : decode cX8_findBest 20 = .ok (.istore_n 1, 1) := by decide +kernel
theorem dX8_findBest_21 : decode cX8_findBest 21 = .ok (.iinc 2 1, 3) := by decide +kernel
theorem dX8_findBest_24 : decode cX8_findBest 24 = .ok (.goto (-20), 3) := by decide +kernel
theorem dX8_findBest_27 : decode cX8_findBest 27 = .ok (.aload_n 0, 1) := by decide +kernel
theorem dX8_findBest_28 : decode cX8_findBest 28 = .ok (.ldc 187, 2) := by decide +kernel
theorem dX8_findBest_30 : decode cX8_findBest 30 = .ok (.putfield 188, 3) := by decide +kernel
theorem dX8_findBest_33 : decode cX8_findBest 33 = .ok (.iconst 0, 1) := by decide +kernel
theorem dX8_findBest_34 : decode cX8_findBest 34 = .ok (.istore_n 2, 1) := by decide +kernel
theorem dX8_findBest_35 : decode cX8_findBest 35 = .ok (.iload_n 2, 1) := by decide +kernel
theorem dX8_findBest_36 : decode cX8_findBest 36 = .ok (.iload_n 1, 1) := by decide +kernel
theorem dX8_findBest_37 : decode cX8_findBest 37 = .ok (.if_icmp .ge 66, 3) := by decide +kernel
theorem dX8_findBest_40 : decode cX8_findBest 40 = .ok (.aload_n 0, 1) := by decide +kernel
theorem dX8_findBest_41 : decode cX8_findBest 41 = .ok (.iload_n 2, 1) := by decide +kernel
theorem dX8_findBest_42 : decode cX8_findBest 42 = .ok (.invokevirtual 191, 3) := by decide +kernel
theorem dX8_findBest_45 : decode cX8_findBest 45 = .ok (.aload_n 0, 1) := by decide +kernel
theorem dX8_findBest_46 : decode cX8_findBest 46 = .ok (.invokevirtual 195, 3) := by decide +kernel
theorem dX8_findBest_49 : decode cX8_findBest 49 = .ok (.istore_n 3, 1) := by decide +kernel
theorem dX8_findBest_50 : decode cX8_findBest 50 = .ok (.aload_n 0, 1) := by decide +kernel
theorem dX8_findBest_51 : decode cX8_findBest 51 = .ok (.invokevirtual 198, 3) := by decide +kernel
theorem dX8_findBest_54 : decode cX8_findBest 54 = .ok (.istore 4, 2) := by decide +kernel
theorem dX8_findBest_56 : decode cX8_findBest 56 = .ok (.iload_n 3, 1) := by decide +kernel
theorem dX8_findBest_57 : decode cX8_findBest 57 = .ok (.aload_n 0, 1) := by decide +kernel
theorem dX8_findBest_58 : decode cX8_findBest 58 = .ok (.getfield 188, 3) := by decide +kernel
theorem dX8_findBest_61 : decode cX8_findBest 61 = .ok (.if_icmp .lt 20, 3) := by decide +kernel
theorem dX8_findBest_64 : decode cX8_findBest 64 = .ok (.iload_n 3, 1) := by decide +kernel
theorem dX8_findBest_65 : decode cX8_findBest 65 = .ok (.aload_n 0, 1) := by decide +kernel
theorem dX8_findBest_66 : decode cX8_findBest 66 = .ok (.getfield 188, 3) := by decide +kernel
theorem dX8_findBest_69 : decode cX8_findBest 69 = .ok (.if_icmp .ne 28, 3) := by decide +kernel
theorem dX8_findBest_72 : decode cX8_findBest 72 = .ok (.iload 4, 2) := by decide +kernel
theorem dX8_findBest_74 : decode cX8_findBest 74 = .ok (.aload_n 0, 1) := by decide +kernel
theorem dX8_findBest_75 : decode cX8_findBest 75 = .ok (.getfield 201, 3) := by decide +kernel
theorem dX8_findBest_78 : decode cX8_findBest 78 = .ok (.if_icmp .le 19, 3) := by decide +kernel
theorem dX8_findBest_81 : decode cX8_findBest 81 = .ok (.aload_n 0, 1) := by decide +kernel
theorem dX8_findBest_82 : decode cX8_findBest 82 = .ok (.iload_n 2, 1) := by decide +kernel
theorem dX8_findBest_83 : decode cX8_findBest 83 = .ok (.putfield 204, 3) := by decide +kernel
theorem dX8_findBest_86 : decode cX8_findBest 86 = .ok (.aload_n 0, 1) := by decide +kernel
theorem dX8_findBest_87 : decode cX8_findBest 87 = .ok (.iload_n 3, 1) := by decide +kernel
theorem dX8_findBest_88 : decode cX8_findBest 88 = .ok (.putfield 188, 3) := by decide +kernel
theorem dX8_findBest_91 : decode cX8_findBest 91 = .ok (.aload_n 0, 1) := by decide +kernel
theorem dX8_findBest_92 : decode cX8_findBest 92 = .ok (.iload 4, 2) := by decide +kernel
theorem dX8_findBest_94 : decode cX8_findBest 94 = .ok (.putfield 201, 3) := by decide +kernel
theorem dX8_findBest_97 : decode cX8_findBest 97 = .ok (.iinc 2 1, 3) := by decide +kernel
theorem dX8_findBest_100 : decode cX8_findBest 100 = .ok (.goto (-65), 3) := by decide +kernel
theorem dX8_findBest_103 : decode cX8_findBest 103 = .ok (.return_, 1) := by decide +kernel
theorem dX8_bestNow_0 : decode cX8_bestNow 0 = .ok (.aload_n 0, 1) := by decide +kernel
theorem dX8_bestNow_1 : decode cX8_bestNow 1 = .ok (.dup, 1) := by decide +kernel
theorem dX8_bestNow_2 : decode cX8_bestNow 2 = .ok (.getfield 207, 3) := by decide +kernel
theorem dX8_bestNow_5 : decode cX8_bestNow 5 = .ok (.iconst 1, 1) := by decide +kernel
theorem dX8_bestNow_6 : decode cX8_bestNow 6 = .ok (.iadd, 1) := by decide +kernel
theorem dX8_bestNow_7 : decode cX8_bestNow 7 = .ok (.putfield 207, 3) := by decide +kernel
theorem dX8_bestNow_10 : decode cX8_bestNow 10 = .ok (.aload_n 0, 1) := by decide +kernel
theorem dX8_bestNow_11 : decode cX8_bestNow 11 = .ok (.iload_n 1, 1) := by decide +kernel
theorem dX8_bestNow_12 : decode cX8_bestNow 12 = .ok (.iload_n 2, 1) := by decide +kernel
theorem dX8_bestNow_13 : decode cX8_bestNow 13 = .ok (.invokevirtual 210, 3) := by decide +kernel
theorem dX8_bestNow_16 : decode cX8_bestNow 16 = .ok (.aload_n 0, 1) := by decide +kernel
theorem dX8_bestNow_17 : decode cX8_bestNow 17 = .ok (.invokevirtual 214, 3) := by decide +kernel
theorem dX8_bestNow_20 : decode cX8_bestNow 20 = .ok (.aload_n 0, 1) := by decide +kernel
theorem dX8_bestNow_21 : decode cX8_bestNow 21 = .ok (.iload_n 3, 1) := by decide +kernel
theorem dX8_bestNow_22 : decode cX8_bestNow 22 = .ok (.iconst 2, 1) := by decide +kernel
theorem dX8_bestNow_23 : decode cX8_bestNow 23 = .ok (.if_icmp .ne 10, 3) := by decide +kernel
theorem dX8_bestNow_26 : decode cX8_bestNow 26 = .ok (.aload_n 0, 1) := by decide +kernel
theorem dX8_bestNow_27 : decode cX8_bestNow 27 = .ok (.getfield 204, 3) := by decide +kernel
theorem dX8_bestNow_30 : decode cX8_bestNow 30 = .ok (.goto 4, 3) := by decide +kernel
theorem dX8_bestNow_33 : decode cX8_bestNow 33 = .ok (.iconst 0, 1) := by decide +kernel
theorem dX8_bestNow_34 : decode cX8_bestNow 34 = .ok (.invokevirtual 191, 3) := by decide +kernel
theorem dX8_bestNow_37 : decode cX8_bestNow 37 = .ok (.iload_n 3, 1) := by decide +kernel
theorem dX8_bestNow_38 : decode cX8_bestNow 38 = .ok (.ifCond .ne 10, 3) := by decide +kernel
theorem dX8_bestNow_41 : decode cX8_bestNow 41 = .ok (.aload_n 0, 1) := by decide +kernel
theorem dX8_bestNow_42 : decode cX8_bestNow 42 = .ok (.getfield 188, 3) := by decide +kernel
theorem dX8_bestNow_45 : decode cX8_bestNow 45 = .ok (.goto 19, 3) := by decide +kernel
theorem dX8_bestNow_48 : decode cX8_bestNow 48 = .ok (.iload_n 3, 1) := by decide +kernel
theorem dX8_bestNow_49 : decode cX8_bestNow 49 = .ok (.iconst 1, 1) := by decide +kernel
theorem dX8_bestNow_50 : decode cX8_bestNow 50 = .ok (.if_icmp .ne 10, 3) := by decide +kernel
theorem dX8_bestNow_53 : decode cX8_bestNow 53 = .ok (.aload_n 0, 1) := by decide +kernel
theorem dX8_bestNow_54 : decode cX8_bestNow 54 = .ok (.getfield 201, 3) := by decide +kernel
theorem dX8_bestNow_57 : decode cX8_bestNow 57 = .ok (.goto 7, 3) := by decide +kernel
theorem dX8_bestNow_60 : decode cX8_bestNow 60 = .ok (.aload_n 0, 1) := by decide +kernel
theorem dX8_bestNow_61 : decode cX8_bestNow 61 = .ok (.invokevirtual 137, 3) := by decide +kernel
theorem dX8_bestNow_64 : decode cX8_bestNow 64 = .ok (.ireturn, 1) := by decide +kernel
theorem dX8_best_0 : decode cX8_best 0 = .ok (.iload_n 1, 1) := by decide +kernel
theorem dX8_best_1 : decode cX8_best 1 = .ok (.invokestatic 140, 3) := by decide +kernel
theorem dX8_best_4 : decode cX8_best 4 = .ok (.ifCond .eq 20, 3) := by decide +kernel
theorem dX8_best_7 : decode cX8_best 7 = .ok (.iload_n 2, 1) := by decide +kernel
theorem dX8_best_8 : decode cX8_best 8 = .ok (.iload_n 1, 1) := by decide +kernel
theorem dX8_best_9 : decode cX8_best 9 = .ok (.bipush 11, 2) := by decide +kernel
theorem dX8_best_11 : decode cX8_best 11 = .ok (.invokestatic 86, 3) := by decide +kernel
theorem dX8_best_14 : decode cX8_best 14 = .ok (.ifCond .eq 10, 3) := by decide +kernel
theorem dX8_best_17 : decode cX8_best 17 = .ok (.aload_n 0, 1) := by decide +kernel
theorem dX8_best_18 : decode cX8_best 18 = .ok (.getfield 124, 3) := by decide +kernel
theorem dX8_best_21 : decode cX8_best 21 = .ok (.ifCond .ne 6, 3) := by decide +kernel
theorem dX8_best_24 : decode cX8_best 24 = .ok (.bipush (-101), 2) := by decide +kernel
theorem dX8_best_26 : decode cX8_best 26 = .ok (.ireturn, 1) := by decide +kernel
theorem dX8_best_27 : decode cX8_best 27 = .ok (.iload_n 3, 1) := by decide +kernel
theorem dX8_best_28 : decode cX8_best 28 = .ok (.iconst 0, 1) := by decide +kernel
theorem dX8_best_29 : decode cX8_best 29 = .ok (.iconst 2, 1) := by decide +kernel
theorem dX8_best_30 : decode cX8_best 30 = .ok (.invokestatic 86, 3) := by decide +kernel
theorem dX8_best_33 : decode cX8_best 33 = .ok (.ifCond .ne 6, 3) := by decide +kernel
theorem dX8_best_36 : decode cX8_best 36 = .ok (.bipush (-102), 2) := by decide +kernel
theorem dX8_best_38 : decode cX8_best 38 = .ok (.ireturn, 1) := by decide +kernel
theorem dX8_best_39 : decode cX8_best 39 = .ok (.aload_n 0, 1) := by decide +kernel
theorem dX8_best_40 : decode cX8_best 40 = .ok (.iload_n 1, 1) := by decide +kernel
theorem dX8_best_41 : decode cX8_best 41 = .ok (.iload_n 2, 1) := by decide +kernel
theorem dX8_best_42 : decode cX8_best 42 = .ok (.invokevirtual 217, 3) := by decide +kernel
theorem dX8_best_45 : decode cX8_best 45 = .ok (.iconst 4, 1) := by decide +kernel
theorem dX8_best_46 : decode cX8_best 46 = .ok (.if_icmp .gt 12, 3) := by decide +kernel
theorem dX8_best_49 : decode cX8_best 49 = .ok (.aload_n 0, 1) := by decide +kernel
theorem dX8_best_50 : decode cX8_best 50 = .ok (.getfield 207, 3) := by decide +kernel
theorem dX8_best_53 : decode cX8_best 53 = .ok (.bipush 8, 2) := by decide +kernel
theorem dX8_best_55 : decode cX8_best 55 = .ok (.if_icmp .ne 8, 3) := by decide +kernel
theorem dX8_best_58 : decode cX8_best 58 = .ok (.bipush (-103), 2) := by decide +kernel
theorem dX8_best_60 : decode cX8_best 60 = .ok (.goto 10, 3) := by decide +kernel
theorem dX8_best_63 : decode cX8_best 63 = .ok (.aload_n 0, 1) := by decide +kernel
theorem dX8_best_64 : decode cX8_best 64 = .ok (.iload_n 1, 1) := by decide +kernel
theorem dX8_best_65 : decode cX8_best 65 = .ok (.iload_n 2, 1) := by decide +kernel
theorem dX8_best_66 : decode cX8_best 66 = .ok (.iload_n 3, 1) := by decide +kernel
theorem dX8_best_67 : decode cX8_best 67 = .ok (.invokevirtual 220, 3) := by decide +kernel
theorem dX8_best_70 : decode cX8_best 70 = .ok (.ireturn, 1) := by decide +kernel
theorem dX8_seatsOf_0 : decode cX8_seatsOf 0 = .ok (.iconst 0, 1) := by decide +kernel
theorem dX8_seatsOf_1 : decode cX8_seatsOf 1 = .ok (.istore_n 2, 1) := by decide +kernel
theorem dX8_seatsOf_2 : decode cX8_seatsOf 2 = .ok (.iconst 0, 1) := by decide +kernel
theorem dX8_seatsOf_3 : decode cX8_seatsOf 3 = .ok (.istore_n 3, 1) := by decide +kernel
theorem dX8_seatsOf_4 : decode cX8_seatsOf 4 = .ok (.iload_n 3, 1) := by decide +kernel
theorem dX8_seatsOf_5 : decode cX8_seatsOf 5 = .ok (.bipush 12, 2) := by decide +kernel
theorem dX8_seatsOf_7 : decode cX8_seatsOf 7 = .ok (.if_icmp .ge 39, 3) := by decide +kernel
theorem dX8_seatsOf_10 : decode cX8_seatsOf 10 = .ok (.iload_n 2, 1) := by decide +kernel
theorem dX8_seatsOf_11 : decode cX8_seatsOf 11 = .ok (.aload_n 0, 1) := by decide +kernel
theorem dX8_seatsOf_12 : decode cX8_seatsOf 12 = .ok (.getfield 28, 3) := by decide +kernel
theorem dX8_seatsOf_15 : decode cX8_seatsOf 15 = .ok (.iload_n 3, 1) := by decide +kernel
theorem dX8_seatsOf_16 : decode cX8_seatsOf 16 = .ok (.iaload, 1) := by decide +kernel
theorem dX8_seatsOf_17 : decode cX8_seatsOf 17 = .ok (.iload_n 1, 1) := by decide +kernel
theorem dX8_seatsOf_18 : decode cX8_seatsOf 18 = .ok (.if_icmp .ne 19, 3) := by decide +kernel
theorem dX8_seatsOf_21 : decode cX8_seatsOf 21 = .ok (.aload_n 0, 1) := by decide +kernel
theorem dX8_seatsOf_22 : decode cX8_seatsOf 22 = .ok (.iload_n 3, 1) := by decide +kernel
theorem dX8_seatsOf_23 : decode cX8_seatsOf 23 = .ok (.invokevirtual 163, 3) := by decide +kernel
theorem dX8_seatsOf_26 : decode cX8_seatsOf 26 = .ok (.ifCond .ne 11, 3) := by decide +kernel
theorem dX8_seatsOf_29 : decode cX8_seatsOf 29 = .ok (.aload_n 0, 1) := by decide +kernel
theorem dX8_seatsOf_30 : decode cX8_seatsOf 30 = .ok (.iload_n 3, 1) := by decide +kernel
theorem dX8_seatsOf_31 : decode cX8_seatsOf 31 = .ok (.invokevirtual 169, 3) := by decide +kernel
theorem dX8_seatsOf_34 : decode cX8_seatsOf 34 = .ok (.goto 4, 3) := by decide +kernel
theorem dX8_seatsOf_37 : decode cX8_seatsOf 37 = .ok (.iconst 0, 1) := by decide +kernel
theorem dX8_seatsOf_38 : decode cX8_seatsOf 38 = .ok (.iadd, 1) := by decide +kernel
theorem dX8_seatsOf_39 : decode cX8_seatsOf 39 = .ok (.istore_n 2, 1) := by decide +kernel
theorem dX8_seatsOf_40 : decode cX8_seatsOf 40 = .ok (.iinc 3 1, 3) := by decide +kernel
theorem dX8_seatsOf_43 : decode cX8_seatsOf 43 = .ok (.goto (-39), 3) := by decide +kernel
theorem dX8_seatsOf_46 : decode cX8_seatsOf 46 = .ok (.iload_n 2, 1) := by decide +kernel
theorem dX8_seatsOf_47 : decode cX8_seatsOf 47 = .ok (.ireturn, 1) := by decide +kernel
theorem dX8_isAhead_0 : decode cX8_isAhead 0 = .ok (.aload_n 0, 1) := by decide +kernel
theorem dX8_isAhead_1 : decode cX8_isAhead 1 = .ok (.iload_n 1, 1) := by decide +kernel
theorem dX8_isAhead_2 : decode cX8_isAhead 2 = .ok (.bipush 12, 2) := by decide +kernel
theorem dX8_isAhead_4 : decode cX8_isAhead 4 = .ok (.invokevirtual 153, 3) := by decide +kernel
theorem dX8_isAhead_7 : decode cX8_isAhead 7 = .ok (.aload_n 0, 1) := by decide +kernel
theorem dX8_isAhead_8 : decode cX8_isAhead 8 = .ok (.iload_n 2, 1) := by decide +kernel
theorem dX8_isAhead_9 : decode cX8_isAhead 9 = .ok (.bipush 12, 2) := by decide +kernel
theorem dX8_isAhead_11 : decode cX8_isAhead 11 = .ok (.invokevirtual 153, 3) := by decide +kernel
theorem dX8_isAhead_14 : decode cX8_isAhead 14 = .ok (.isub, 1) := by decide +kernel
theorem dX8_isAhead_15 : decode cX8_isAhead 15 = .ok (.istore_n 3, 1) := by decide +kernel
theorem dX8_isAhead_16 : decode cX8_isAhead 16 = .ok (.aload_n 0, 1) := by decide +kernel
theorem dX8_isAhead_17 : decode cX8_isAhead 17 = .ok (.iload_n 1, 1) := by decide +kernel
theorem dX8_isAhead_18 : decode cX8_isAhead 18 = .ok (.invokevirtual 224, 3) := by decide +kernel
theorem dX8_isAhead_21 : decode cX8_isAhead 21 = .ok (.aload_n 0, 1) := by decide +kernel
theorem dX8_isAhead_22 : decode cX8_isAhead 22 = .ok (.iload_n 2, 1) := by decide +kernel
theorem dX8_isAhead_23 : decode cX8_isAhead 23 = .ok (.invokevirtual 224, 3) := by decide +kernel
theorem dX8_isAhead_26 : decode cX8_isAhead 26 = .ok (.isub, 1) := by decide +kernel
theorem dX8_isAhead_27 : decode cX8_isAhead 27 = .ok (.istore 4, 2) := by decide +kernel
theorem dX8_isAhead_29 : decode cX8_isAhead 29 = .ok (.iload_n 3, 1) := by decide +kernel
theorem dX8_isAhead_30 : decode cX8_isAhead 30 = .ok (.ifCond .eq 15, 3) := by decide +kernel
theorem dX8_isAhead_33 : decode cX8_isAhead 33 = .ok (.iload_n 3, 1) := by decide +kernel
theorem dX8_isAhead_34 : decode cX8_isAhead 34 = .ok (.ifCond .le 7, 3) := by decide +kernel
theorem dX8_isAhead_37 : decode cX8_isAhead 37 = .ok (.iconst 1, 1) := by decide +kernel
theorem dX8_isAhead_38 : decode cX8_isAhead 38 = .ok (.goto 35, 3) := by decide +kernel
theorem dX8_isAhead_41 : decode cX8_isAhead 41 = .ok (.iconst 0, 1) := by decide +kernel
theorem dX8_isAhead_42 : decode cX8_isAhead 42 = .ok (.goto 31, 3) := by decide +kernel
theorem dX8_isAhead_45 : decode cX8_isAhead 45 = .ok (.iload 4, 2) := by decide +kernel
theorem dX8_isAhead_47 : decode cX8_isAhead 47 = .ok (.ifCond .eq 16, 3) := by decide +kernel
theorem dX8_isAhead_50 : decode cX8_isAhead 50 = .ok (.iload 4, 2) := by decide +kernel
theorem dX8_isAhead_52 : decode cX8_isAhead 52 = .ok (.ifCond .le 7, 3) := by decide +kernel
theorem dX8_isAhead_55 : decode cX8_isAhead 55 = .ok (.iconst 1, 1) := by decide +kernel
theorem dX8_isAhead_56 : decode cX8_isAhead 56 = .ok (.goto 17, 3) := by decide +kernel
theorem dX8_isAhead_59 : decode cX8_isAhead 59 = .ok (.iconst 0, 1) := by decide +kernel
theorem dX8_isAhead_60 : decode cX8_isAhead 60 = .ok (.goto 13, 3) := by decide +kernel
theorem dX8_isAhead_63 : decode cX8_isAhead 63 = .ok (.iload_n 1, 1) := by decide +kernel
theorem dX8_isAhead_64 : decode cX8_isAhead 64 = .ok (.iload_n 2, 1) := by decide +kernel
theorem dX8_isAhead_65 : decode cX8_isAhead 65 = .ok (.if_icmp .ge 7, 3) := by decide +kernel
theorem dX8_isAhead_68 : decode cX8_isAhead 68 = .ok (.iconst 1, 1) := by decide +kernel
theorem dX8_isAhead_69 : decode cX8_isAhead 69 = .ok (.goto 4, 3) := by decide +kernel
theorem dX8_isAhead_72 : decode cX8_isAhead 72 = .ok (.iconst 0, 1) := by decide +kernel
theorem dX8_isAhead_73 : decode cX8_isAhead 73 = .ok (.ireturn, 1) := by decide +kernel
theorem dX8_rankNow_0 : decode cX8_rankNow 0 = .ok (.iconst 0, 1) := by decide +kernel
theorem dX8_rankNow_1 : decode cX8_rankNow 1 = .ok (.istore_n 2, 1) := by decide +kernel
theorem dX8_rankNow_2 : decode cX8_rankNow 2 = .ok (.iload_n 2, 1) := by decide +kernel
theorem dX8_rankNow_3 : decode cX8_rankNow 3 = .ok (.aload_n 0, 1) := by decide +kernel
theorem dX8_rankNow_4 : decode cX8_rankNow 4 = .ok (.getfield 124, 3) := by decide +kernel
theorem dX8_rankNow_7 : decode cX8_rankNow 7 = .ok (.if_icmp .ge 60, 3) := by decide +kernel
theorem dX8_rankNow_10 : decode cX8_rankNow 10 = .ok (.iconst 0, 1) := by decide +kernel
theorem dX8_rankNow_11 : decode cX8_rankNow 11 = .ok (.istore_n 3, 1) := by decide +kernel
theorem dX8_rankNow_12 : decode cX8_rankNow 12 = .ok (.iconst 0, 1) := by decide +kernel
theorem dX8_rankNow_13 : decode cX8_rankNow 13 = .ok (.istore 4, 2) := by decide +kernel
theorem dX8_rankNow_15 : decode cX8_rankNow 15 = .ok (.iload 4, 2) := by decide +kernel
theorem dX8_rankNow_17 : decode cX8_rankNow 17 = .ok (.aload_n 0, 1) := by decide +kernel
theorem dX8_rankNow_18 : decode cX8_rankNow 18 = .ok (.getfield 124, 3) := by decide +kernel
theorem dX8_rankNow_21 : decode cX8_rankNow 21 = .ok (.if_icmp .ge 33, 3) := by decide +kernel
theorem dX8_rankNow_24 : decode cX8_rankNow 24 = .ok (.iload_n 3, 1) := by decide +kernel
theorem dX8_rankNow_25 : decode cX8_rankNow 25 = .ok (.iload 4, 2) := by decide +kernel
theorem dX8_rankNow_27 : decode cX8_rankNow 27 = .ok (.iload_n 2, 1) := by decide +kernel
theorem dX8_rankNow_28 : decode cX8_rankNow 28 = .ok (.if_icmp .eq 17, 3) := by decide +kernel
theorem dX8_rankNow_31 : decode cX8_rankNow 31 = .ok (.aload_n 0, 1) := by decide +kernel
theorem dX8_rankNow_32 : decode cX8_rankNow 32 = .ok (.iload 4, 2) := by decide +kernel
theorem dX8_rankNow_34 : decode cX8_rankNow 34 = .ok (.iload_n 2, 1) := by decide +kernel
theorem dX8_rankNow_35 : decode cX8_rankNow 35 = .ok (.invokevirtual 227, 3) := by decide +kernel
theorem dX8_rankNow_38 : decode cX8_rankNow 38 = .ok (.ifCond .eq 7, 3) := by decide +kernel
theorem dX8_rankNow_41 : decode cX8_rankNow 41 = .ok (.iconst 1, 1) := by decide +kernel
theorem dX8_rankNow_42 : decode cX8_rankNow 42 = .ok (.goto 4, 3) := by decide +kernel
theorem dX8_rankNow_45 : decode cX8_rankNow 45 = .ok (.iconst 0, 1) := by decide +kernel
theorem dX8_rankNow_46 : decode cX8_rankNow 46 = .ok (.iadd, 1) := by decide +kernel
theorem dX8_rankNow_47 : decode cX8_rankNow 47 = .ok (.istore_n 3, 1) := by decide +kernel
theorem dX8_rankNow_48 : decode cX8_rankNow 48 = .ok (.iinc 4 1, 3) := by decide +kernel
theorem dX8_rankNow_51 : decode cX8_rankNow 51 = .ok (.goto (-36), 3) := by decide +kernel
theorem dX8_rankNow_54 : decode cX8_rankNow 54 = .ok (.iload_n 3, 1) := by decide +kernel
theorem dX8_rankNow_55 : decode cX8_rankNow 55 = .ok (.iload_n 1, 1) := by decide +kernel
theorem dX8_rankNow_56 : decode cX8_rankNow 56 = .ok (.if_icmp .ne 5, 3) := by decide +kernel
theorem dX8_rankNow_59 : decode cX8_rankNow 59 = .ok (.iload_n 2, 1) := by decide +kernel
theorem dX8_rankNow_60 : decode cX8_rankNow 60 = .ok (.ireturn, 1) := by decide +kernel
theorem dX8_rankNow_61 : decode cX8_rankNow 61 = .ok (.iinc 2 1, 3) := by decide +kernel
theorem dX8_rankNow_64 : decode cX8_rankNow 64 = .ok (.goto (-62), 3) := by decide +kernel
theorem dX8_rankNow_67 : decode cX8_rankNow 67 = .ok (.bipush (-101), 2) := by decide +kernel
theorem dX8_rankNow_69 : decode cX8_rankNow 69 = .ok (.ireturn, 1) := by decide +kernel
theorem dX8_rank_0 : decode cX8_rank 0 = .ok (.aload_n 0, 1) := by decide +kernel
theorem dX8_rank_1 : decode cX8_rank 1 = .ok (.iload_n 1, 1) := by decide +kernel
theorem dX8_rank_2 : decode cX8_rank 2 = .ok (.invokevirtual 230, 3) := by decide +kernel
theorem dX8_rank_5 : decode cX8_rank 5 = .ok (.ireturn, 1) := by decide +kernel
theorem dX8_could_0 : decode cX8_could 0 = .ok (.iload_n 1, 1) := by decide +kernel
theorem dX8_could_1 : decode cX8_could 1 = .ok (.tableswitch 70 0 2 #[27, 43, 54], 27) := by decide +kernel
theorem dX8_could_28 : decode cX8_could 28 = .ok (.iload_n 0, 1) := by decide +kernel
theorem dX8_could_29 : decode cX8_could 29 = .ok (.iconst 1, 1) := by decide +kernel
theorem dX8_could_30 : decode cX8_could 30 = .ok (.if_icmp .eq 12, 3) := by decide +kernel
theorem dX8_could_33 : decode cX8_could 33 = .ok (.iload_n 0, 1) := by decide +kernel
theorem dX8_could_34 : decode cX8_could 34 = .ok (.iconst 2, 1) := by decide +kernel
theorem dX8_could_35 : decode cX8_could 35 = .ok (.if_icmp .eq 7, 3) := by decide +kernel
theorem dX8_could_38 : decode cX8_could 38 = .ok (.iconst 1, 1) := by decide +kernel
theorem dX8_could_39 : decode cX8_could 39 = .ok (.goto 4, 3) := by decide +kernel
theorem dX8_could_42 : decode cX8_could 42 = .ok (.iconst 0, 1) := by decide +kernel
theorem dX8_could_43 : decode cX8_could 43 = .ok (.ireturn, 1) := by decide +kernel
theorem dX8_could_44 : decode cX8_could 44 = .ok (.iload_n 0, 1) := by decide +kernel
theorem dX8_could_45 : decode cX8_could 45 = .ok (.iconst 3, 1) := by decide +kernel
theorem dX8_could_46 : decode cX8_could 46 = .ok (.if_icmp .eq 7, 3) := by decide +kernel
theorem dX8_could_49 : decode cX8_could 49 = .ok (.iconst 1, 1) := by decide +kernel
theorem dX8_could_50 : decode cX8_could 50 = .ok (.goto 4, 3) := by decide +kernel
theorem dX8_could_53 : decode cX8_could 53 = .ok (.iconst 0, 1) := by decide +kernel
theorem dX8_could_54 : decode cX8_could 54 = .ok (.ireturn, 1) := by decide +kernel
theorem dX8_could_55 : decode cX8_could 55 = .ok (.iload_n 0, 1) := by decide +kernel
theorem dX8_could_56 : decode cX8_could 56 = .ok (.iconst 1, 1) := by decide +kernel
theorem dX8_could_57 : decode cX8_could 57 = .ok (.if_icmp .eq 8, 3) := by decide +kernel
theorem dX8_could_60 : decode cX8_could 60 = .ok (.iload_n 0, 1) := by decide +kernel
theorem dX8_could_61 : decode cX8_could 61 = .ok (.iconst 2, 1) := by decide +kernel
theorem dX8_could_62 : decode cX8_could 62 = .ok (.if_icmp .ne 7, 3) := by decide +kernel
theorem dX8_could_65 : decode cX8_could 65 = .ok (.iconst 1, 1) := by decide +kernel
theorem dX8_could_66 : decode cX8_could 66 = .ok (.goto 4, 3) := by decide +kernel
theorem dX8_could_69 : decode cX8_could 69 = .ok (.iconst 0, 1) := by decide +kernel
theorem dX8_could_70 : decode cX8_could 70 = .ok (.ireturn, 1) := by decide +kernel
theorem dX8_could_71 : decode cX8_could 71 = .ok (.iload_n 0, 1) := by decide +kernel
theorem dX8_could_72 : decode cX8_could 72 = .ok (.iconst 4, 1) := by decide +kernel
theorem dX8_could_73 : decode cX8_could 73 = .ok (.if_icmp .ne 7, 3) := by decide +kernel
theorem dX8_could_76 : decode cX8_could 76 = .ok (.iconst 1, 1) := by decide +kernel
theorem dX8_could_77 : decode cX8_could 77 = .ok (.goto 4, 3) := by decide +kernel
theorem dX8_could_80 : decode cX8_could 80 = .ok (.iconst 0, 1) := by decide +kernel
theorem dX8_could_81 : decode cX8_could 81 = .ok (.ireturn, 1) := by decide +kernel
theorem dX8_see_0 : decode cX8_see 0 = .ok (.aload_n 0, 1) := by decide +kernel
theorem dX8_see_1 : decode cX8_see 1 = .ok (.iload_n 1, 1) := by decide +kernel
theorem dX8_see_2 : decode cX8_see 2 = .ok (.invokevirtual 133, 3) := by decide +kernel
theorem dX8_see_5 : decode cX8_see 5 = .ok (.ifCond .ne 6, 3) := by decide +kernel
theorem dX8_see_8 : decode cX8_see 8 = .ok (.bipush (-101), 2) := by decide +kernel
theorem dX8_see_10 : decode cX8_see 10 = .ok (.ireturn, 1) := by decide +kernel
theorem dX8_see_11 : decode cX8_see 11 = .ok (.iload_n 2, 1) := by decide +kernel
theorem dX8_see_12 : decode cX8_see 12 = .ok (.iconst 0, 1) := by decide +kernel
theorem dX8_see_13 : decode cX8_see 13 = .ok (.iconst 3, 1) := by decide +kernel
theorem dX8_see_14 : decode cX8_see 14 = .ok (.invokestatic 86, 3) := by decide +kernel
theorem dX8_see_17 : decode cX8_see 17 = .ok (.ifCond .ne 6, 3) := by decide +kernel
theorem dX8_see_20 : decode cX8_see 20 = .ok (.bipush (-102), 2) := by decide +kernel
theorem dX8_see_22 : decode cX8_see 22 = .ok (.ireturn, 1) := by decide +kernel
theorem dX8_see_23 : decode cX8_see 23 = .ok (.aload_n 0, 1) := by decide +kernel
theorem dX8_see_24 : decode cX8_see 24 = .ok (.getfield 130, 3) := by decide +kernel
theorem dX8_see_27 : decode cX8_see 27 = .ok (.bipush 6, 2) := by decide +kernel
theorem dX8_see_29 : decode cX8_see 29 = .ok (.if_icmp .ne 6, 3) := by decide +kernel
theorem dX8_see_32 : decode cX8_see 32 = .ok (.bipush (-104), 2) := by decide +kernel
theorem dX8_see_34 : decode cX8_see 34 = .ok (.ireturn, 1) := by decide +kernel
theorem dX8_see_35 : decode cX8_see 35 = .ok (.aload_n 0, 1) := by decide +kernel
theorem dX8_see_36 : decode cX8_see 36 = .ok (.getfield 31, 3) := by decide +kernel
theorem dX8_see_39 : decode cX8_see 39 = .ok (.aload_n 0, 1) := by decide +kernel
theorem dX8_see_40 : decode cX8_see 40 = .ok (.getfield 130, 3) := by decide +kernel
theorem dX8_see_43 : decode cX8_see 43 = .ok (.iload_n 1, 1) := by decide +kernel
theorem dX8_see_44 : decode cX8_see 44 = .ok (.iastore, 1) := by decide +kernel
theorem dX8_see_45 : decode cX8_see 45 = .ok (.aload_n 0, 1) := by decide +kernel
theorem dX8_see_46 : decode cX8_see 46 = .ok (.getfield 34, 3) := by decide +kernel
theorem dX8_see_49 : decode cX8_see 49 = .ok (.aload_n 0, 1) := by decide +kernel
theorem dX8_see_50 : decode cX8_see 50 = .ok (.getfield 130, 3) := by decide +kernel
theorem dX8_see_53 : decode cX8_see 53 = .ok (.iload_n 2, 1) := by decide +kernel
theorem dX8_see_54 : decode cX8_see 54 = .ok (.iastore, 1) := by decide +kernel
theorem dX8_see_55 : decode cX8_see 55 = .ok (.aload_n 0, 1) := by decide +kernel
theorem dX8_see_56 : decode cX8_see 56 = .ok (.getfield 37, 3) := by decide +kernel
theorem dX8_see_59 : decode cX8_see 59 = .ok (.aload_n 0, 1) := by decide +kernel
theorem dX8_see_60 : decode cX8_see 60 = .ok (.getfield 130, 3) := by decide +kernel
theorem dX8_see_63 : decode cX8_see 63 = .ok (.iload_n 3, 1) := by decide +kernel
theorem dX8_see_64 : decode cX8_see 64 = .ok (.ifCond .eq 7, 3) := by decide +kernel
theorem dX8_see_67 : decode cX8_see 67 = .ok (.iconst 1, 1) := by decide +kernel
theorem dX8_see_68 : decode cX8_see 68 = .ok (.goto 4, 3) := by decide +kernel
theorem dX8_see_71 : decode cX8_see 71 = .ok (.iconst 0, 1) := by decide +kernel
theorem dX8_see_72 : decode cX8_see 72 = .ok (.iastore, 1) := by decide +kernel
theorem dX8_see_73 : decode cX8_see 73 = .ok (.aload_n 0, 1) := by decide +kernel
theorem dX8_see_74 : decode cX8_see 74 = .ok (.dup, 1) := by decide +kernel
theorem dX8_see_75 : decode cX8_see 75 = .ok (.getfield 130, 3) := by decide +kernel
theorem dX8_see_78 : decode cX8_see 78 = .ok (.iconst 1, 1) := by decide +kernel
theorem dX8_see_79 : decode cX8_see 79 = .ok (.iadd, 1) := by decide +kernel
theorem dX8_see_80 : decode cX8_see 80 = .ok (.putfield 130, 3) := by decide +kernel
theorem dX8_see_83 : decode cX8_see 83 = .ok (.aload_n 0, 1) := by decide +kernel
theorem dX8_see_84 : decode cX8_see 84 = .ok (.getfield 130, 3) := by decide +kernel
theorem dX8_see_87 : decode cX8_see 87 = .ok (.ireturn, 1) := by decide +kernel
theorem dX8_forget_0 : decode cX8_forget 0 = .ok (.aload_n 0, 1) := by decide +kernel
theorem dX8_forget_1 : decode cX8_forget 1 = .ok (.getfield 130, 3) := by decide +kernel
theorem dX8_forget_4 : decode cX8_forget 4 = .ok (.istore_n 1, 1) := by decide +kernel
theorem dX8_forget_5 : decode cX8_forget 5 = .ok (.aload_n 0, 1) := by decide +kernel
theorem dX8_forget_6 : decode cX8_forget 6 = .ok (.iconst 0, 1) := by decide +kernel
theorem dX8_forget_7 : decode cX8_forget 7 = .ok (.putfield 130, 3) := by decide +kernel
theorem dX8_forget_10 : decode cX8_forget 10 = .ok (.iload_n 1, 1) := by decide +kernel
theorem dX8_forget_11 : decode cX8_forget 11 = .ok (.ireturn, 1) := by decide +kernel
theorem dX8_sortsOf_0 : decode cX8_sortsOf 0 = .ok (.iconst 0, 1) := by decide +kernel
theorem dX8_sortsOf_1 : decode cX8_sortsOf 1 = .ok (.istore_n 2, 1) := by decide +kernel
theorem dX8_sortsOf_2 : decode cX8_sortsOf 2 = .ok (.iconst 0, 1) := by decide +kernel
theorem dX8_sortsOf_3 : decode cX8_sortsOf 3 = .ok (.istore_n 3, 1) := by decide +kernel
theorem dX8_sortsOf_4 : decode cX8_sortsOf 4 = .ok (.iload_n 3, 1) := by decide +kernel
theorem dX8_sortsOf_5 : decode cX8_sortsOf 5 = .ok (.iconst 4, 1) := by decide +kernel
theorem dX8_sortsOf_6 : decode cX8_sortsOf 6 = .ok (.if_icmp .gt 98, 3) := by decide +kernel
theorem dX8_sortsOf_9 : decode cX8_sortsOf 9 = .ok (.iconst 1, 1) := by decide +kernel
theorem dX8_sortsOf_10 : decode cX8_sortsOf 10 = .ok (.istore 4, 2) := by decide +kernel
theorem dX8_sortsOf_12 : decode cX8_sortsOf 12 = .ok (.iconst 0, 1) := by decide +kernel
theorem dX8_sortsOf_13 : decode cX8_sortsOf 13 = .ok (.istore 5, 2) := by decide +kernel
theorem dX8_sortsOf_15 : decode cX8_sortsOf 15 = .ok (.iload 5, 2) := by decide +kernel
end
section
theorem dX8_sortsOf_17 : decode cX8_sortsOf 17 = .ok (.aload_n 0, 1) := by decide +kernel
theorem dX8_sortsOf_18 : decode cX8_sortsOf 18 = .ok (.getfield 130, 3) := by decide +kernel
theorem dX8_sortsOf_21 : decode cX8_sortsOf 21 = .ok (.if_icmp .ge 62, 3) := by decide +kernel
theorem dX8_sortsOf_24 : decode cX8_sortsOf 24 = .ok (.iload 4, 2) := by decide +kernel
theorem dX8_sortsOf_26 : decode cX8_sortsOf 26 = .ok (.ifCond .eq 48, 3) := by decide +kernel
theorem dX8_sortsOf_29 : decode cX8_sortsOf 29 = .ok (.aload_n 0, 1) := by decide +kernel
theorem dX8_sortsOf_30 : decode cX8_sortsOf 30 = .ok (.getfield 31, 3) := by decide +kernel
theorem dX8_sortsOf_33 : decode cX8_sortsOf 33 = .ok (.iload 5, 2) := by decide +kernel
theorem dX8_sortsOf_35 : decode cX8_sortsOf 35 = .ok (.iaload, 1) := by decide +kernel
theorem dX8_sortsOf_36 : decode cX8_sortsOf 36 = .ok (.iload_n 1, 1) := by decide +kernel
theorem dX8_sortsOf_37 : decode cX8_sortsOf 37 = .ok (.if_icmp .ne 33, 3) := by decide +kernel
theorem dX8_sortsOf_40 : decode cX8_sortsOf 40 = .ok (.iload_n 3, 1) := by decide +kernel
theorem dX8_sortsOf_41 : decode cX8_sortsOf 41 = .ok (.aload_n 0, 1) := by decide +kernel
theorem dX8_sortsOf_42 : decode cX8_sortsOf 42 = .ok (.getfield 34, 3) := by decide +kernel
theorem dX8_sortsOf_45 : decode cX8_sortsOf 45 = .ok (.iload 5, 2) := by decide +kernel
theorem dX8_sortsOf_47 : decode cX8_sortsOf 47 = .ok (.iaload, 1) := by decide +kernel
theorem dX8_sortsOf_48 : decode cX8_sortsOf 48 = .ok (.invokestatic 233, 3) := by decide +kernel
theorem dX8_sortsOf_51 : decode cX8_sortsOf 51 = .ok (.aload_n 0, 1) := by decide +kernel
theorem dX8_sortsOf_52 : decode cX8_sortsOf 52 = .ok (.getfield 37, 3) := by decide +kernel
theorem dX8_sortsOf_55 : decode cX8_sortsOf 55 = .ok (.iload 5, 2) := by decide +kernel
theorem dX8_sortsOf_57 : decode cX8_sortsOf 57 = .ok (.iaload, 1) := by decide +kernel
theorem dX8_sortsOf_58 : decode cX8_sortsOf 58 = .ok (.iconst 1, 1) := by decide +kernel
theorem dX8_sortsOf_59 : decode cX8_sortsOf 59 = .ok (.if_icmp .ne 7, 3) := by decide +kernel
theorem dX8_sortsOf_62 : decode cX8_sortsOf 62 = .ok (.iconst 1, 1) := by decide +kernel
theorem dX8_sortsOf_63 : decode cX8_sortsOf 63 = .ok (.goto 4, 3) := by decide +kernel
theorem dX8_sortsOf_66 : decode cX8_sortsOf 66 = .ok (.iconst 0, 1) := by decide +kernel
theorem dX8_sortsOf_67 : decode cX8_sortsOf 67 = .ok (.if_icmp .ne 7, 3) := by decide +kernel
theorem dX8_sortsOf_70 : decode cX8_sortsOf 70 = .ok (.iconst 1, 1) := by decide +kernel
theorem dX8_sortsOf_71 : decode cX8_sortsOf 71 = .ok (.goto 4, 3) := by decide +kernel
theorem dX8_sortsOf_74 : decode cX8_sortsOf 74 = .ok (.iconst 0, 1) := by decide +kernel
theorem dX8_sortsOf_75 : decode cX8_sortsOf 75 = .ok (.istore 4, 2) := by decide +kernel
theorem dX8_sortsOf_77 : decode cX8_sortsOf 77 = .ok (.iinc 5 1, 3) := by decide +kernel
theorem dX8_sortsOf_80 : decode cX8_sortsOf 80 = .ok (.goto (-65), 3) := by decide +kernel
theorem dX8_sortsOf_83 : decode cX8_sortsOf 83 = .ok (.iload_n 2, 1) := by decide +kernel
theorem dX8_sortsOf_84 : decode cX8_sortsOf 84 = .ok (.iload 4, 2) := by decide +kernel
theorem dX8_sortsOf_86 : decode cX8_sortsOf 86 = .ok (.ifCond .eq 9, 3) := by decide +kernel
theorem dX8_sortsOf_89 : decode cX8_sortsOf 89 = .ok (.iconst 1, 1) := by decide +kernel
theorem dX8_sortsOf_90 : decode cX8_sortsOf 90 = .ok (.iload_n 3, 1) := by decide +kernel
theorem dX8_sortsOf_91 : decode cX8_sortsOf 91 = .ok (.ishl, 1) := by decide +kernel
theorem dX8_sortsOf_92 : decode cX8_sortsOf 92 = .ok (.goto 4, 3) := by decide +kernel
theorem dX8_sortsOf_95 : decode cX8_sortsOf 95 = .ok (.iconst 0, 1) := by decide +kernel
theorem dX8_sortsOf_96 : decode cX8_sortsOf 96 = .ok (.ior, 1) := by decide +kernel
theorem dX8_sortsOf_97 : decode cX8_sortsOf 97 = .ok (.istore_n 2, 1) := by decide +kernel
theorem dX8_sortsOf_98 : decode cX8_sortsOf 98 = .ok (.iinc 3 1, 3) := by decide +kernel
theorem dX8_sortsOf_101 : decode cX8_sortsOf 101 = .ok (.goto (-97), 3) := by decide +kernel
theorem dX8_sortsOf_104 : decode cX8_sortsOf 104 = .ok (.iload_n 2, 1) := by decide +kernel
theorem dX8_sortsOf_105 : decode cX8_sortsOf 105 = .ok (.ireturn, 1) := by decide +kernel
theorem dX8_askOf_0 : decode cX8_askOf 0 = .ok (.aload_n 0, 1) := by decide +kernel
theorem dX8_askOf_1 : decode cX8_askOf 1 = .ok (.iload_n 1, 1) := by decide +kernel
theorem dX8_askOf_2 : decode cX8_askOf 2 = .ok (.invokevirtual 172, 3) := by decide +kernel
theorem dX8_askOf_5 : decode cX8_askOf 5 = .ok (.istore_n 2, 1) := by decide +kernel
theorem dX8_askOf_6 : decode cX8_askOf 6 = .ok (.iconst (-1), 1) := by decide +kernel
theorem dX8_askOf_7 : decode cX8_askOf 7 = .ok (.istore_n 3, 1) := by decide +kernel
theorem dX8_askOf_8 : decode cX8_askOf 8 = .ok (.ldc 187, 2) := by decide +kernel
theorem dX8_askOf_10 : decode cX8_askOf 10 = .ok (.istore 4, 2) := by decide +kernel
theorem dX8_askOf_12 : decode cX8_askOf 12 = .ok (.iconst 0, 1) := by decide +kernel
theorem dX8_askOf_13 : decode cX8_askOf 13 = .ok (.istore 5, 2) := by decide +kernel
theorem dX8_askOf_15 : decode cX8_askOf 15 = .ok (.iload 5, 2) := by decide +kernel
theorem dX8_askOf_17 : decode cX8_askOf 17 = .ok (.iconst 4, 1) := by decide +kernel
theorem dX8_askOf_18 : decode cX8_askOf 18 = .ok (.if_icmp .ge 115, 3) := by decide +kernel
theorem dX8_askOf_21 : decode cX8_askOf 21 = .ok (.iload_n 2, 1) := by decide +kernel
theorem dX8_askOf_22 : decode cX8_askOf 22 = .ok (.ifCond .eq 111, 3) := by decide +kernel
theorem dX8_askOf_25 : decode cX8_askOf 25 = .ok (.iconst 0, 1) := by decide +kernel
theorem dX8_askOf_26 : decode cX8_askOf 26 = .ok (.istore 6, 2) := by decide +kernel
theorem dX8_askOf_28 : decode cX8_askOf 28 = .ok (.iconst 0, 1) := by decide +kernel
theorem dX8_askOf_29 : decode cX8_askOf 29 = .ok (.istore 7, 2) := by decide +kernel
theorem dX8_askOf_31 : decode cX8_askOf 31 = .ok (.iload 7, 2) := by decide +kernel
theorem dX8_askOf_33 : decode cX8_askOf 33 = .ok (.iconst 4, 1) := by decide +kernel
theorem dX8_askOf_34 : decode cX8_askOf 34 = .ok (.if_icmp .gt 38, 3) := by decide +kernel
theorem dX8_askOf_37 : decode cX8_askOf 37 = .ok (.iload 6, 2) := by decide +kernel
theorem dX8_askOf_39 : decode cX8_askOf 39 = .ok (.iload_n 2, 1) := by decide +kernel
theorem dX8_askOf_40 : decode cX8_askOf 40 = .ok (.iload 7, 2) := by decide +kernel
theorem dX8_askOf_42 : decode cX8_askOf 42 = .ok (.invokestatic 236, 3) := by decide +kernel
theorem dX8_askOf_45 : decode cX8_askOf 45 = .ok (.ifCond .eq 17, 3) := by decide +kernel
theorem dX8_askOf_48 : decode cX8_askOf 48 = .ok (.iload 7, 2) := by decide +kernel
theorem dX8_askOf_50 : decode cX8_askOf 50 = .ok (.iload 5, 2) := by decide +kernel
theorem dX8_askOf_52 : decode cX8_askOf 52 = .ok (.invokestatic 233, 3) := by decide +kernel
theorem dX8_askOf_55 : decode cX8_askOf 55 = .ok (.ifCond .eq 7, 3) := by decide +kernel
theorem dX8_askOf_58 : decode cX8_askOf 58 = .ok (.iconst 1, 1) := by decide +kernel
theorem dX8_askOf_59 : decode cX8_askOf 59 = .ok (.goto 4, 3) := by decide +kernel
theorem dX8_askOf_62 : decode cX8_askOf 62 = .ok (.iconst 0, 1) := by decide +kernel
theorem dX8_askOf_63 : decode cX8_askOf 63 = .ok (.iadd, 1) := by decide +kernel
theorem dX8_askOf_64 : decode cX8_askOf 64 = .ok (.istore 6, 2) := by decide +kernel
theorem dX8_askOf_66 : decode cX8_askOf 66 = .ok (.iinc 7 1, 3) := by decide +kernel
theorem dX8_askOf_69 : decode cX8_askOf 69 = .ok (.goto (-38), 3) := by decide +kernel
theorem dX8_askOf_72 : decode cX8_askOf 72 = .ok (.iload_n 2, 1) := by decide +kernel
theorem dX8_askOf_73 : decode cX8_askOf 73 = .ok (.invokestatic 239, 3) := by decide +kernel
theorem dX8_askOf_76 : decode cX8_askOf 76 = .ok (.iload 6, 2) := by decide +kernel
theorem dX8_askOf_78 : decode cX8_askOf 78 = .ok (.isub, 1) := by decide +kernel
theorem dX8_askOf_79 : decode cX8_askOf 79 = .ok (.istore 7, 2) := by decide +kernel
theorem dX8_askOf_81 : decode cX8_askOf 81 = .ok (.iload 6, 2) := by decide +kernel
theorem dX8_askOf_83 : decode cX8_askOf 83 = .ok (.iload 7, 2) := by decide +kernel
theorem dX8_askOf_85 : decode cX8_askOf 85 = .ok (.if_icmp .le 8, 3) := by decide +kernel
theorem dX8_askOf_88 : decode cX8_askOf 88 = .ok (.iload 6, 2) := by decide +kernel
theorem dX8_askOf_90 : decode cX8_askOf 90 = .ok (.goto 5, 3) := by decide +kernel
theorem dX8_askOf_93 : decode cX8_askOf 93 = .ok (.iload 7, 2) := by decide +kernel
theorem dX8_askOf_95 : decode cX8_askOf 95 = .ok (.istore 8, 2) := by decide +kernel
theorem dX8_askOf_97 : decode cX8_askOf 97 = .ok (.iload 8, 2) := by decide +kernel
theorem dX8_askOf_99 : decode cX8_askOf 99 = .ok (.iload 4, 2) := by decide +kernel
theorem dX8_askOf_101 : decode cX8_askOf 101 = .ok (.if_icmp .ge 8, 3) := by decide +kernel
theorem dX8_askOf_104 : decode cX8_askOf 104 = .ok (.iload 5, 2) := by decide +kernel
theorem dX8_askOf_106 : decode cX8_askOf 106 = .ok (.goto 4, 3) := by decide +kernel
theorem dX8_askOf_109 : decode cX8_askOf 109 = .ok (.iload_n 3, 1) := by decide +kernel
theorem dX8_askOf_110 : decode cX8_askOf 110 = .ok (.istore_n 3, 1) := by decide +kernel
theorem dX8_askOf_111 : decode cX8_askOf 111 = .ok (.iload 8, 2) := by decide +kernel
theorem dX8_askOf_113 : decode cX8_askOf 113 = .ok (.iload 4, 2) := by decide +kernel
theorem dX8_askOf_115 : decode cX8_askOf 115 = .ok (.if_icmp .ge 8, 3) := by decide +kernel
theorem dX8_askOf_118 : decode cX8_askOf 118 = .ok (.iload 8, 2) := by decide +kernel
theorem dX8_askOf_120 : decode cX8_askOf 120 = .ok (.goto 5, 3) := by decide +kernel
theorem dX8_askOf_123 : decode cX8_askOf 123 = .ok (.iload 4, 2) := by decide +kernel
theorem dX8_askOf_125 : decode cX8_askOf 125 = .ok (.istore 4, 2) := by decide +kernel
theorem dX8_askOf_127 : decode cX8_askOf 127 = .ok (.iinc 5 1, 3) := by decide +kernel
theorem dX8_askOf_130 : decode cX8_askOf 130 = .ok (.goto (-115), 3) := by decide +kernel
theorem dX8_askOf_133 : decode cX8_askOf 133 = .ok (.iload_n 3, 1) := by decide +kernel
theorem dX8_askOf_134 : decode cX8_askOf 134 = .ok (.ireturn, 1) := by decide +kernel
theorem dX8_draw_0 : decode cX8_draw 0 = .ok (.aload_n 0, 1) := by decide +kernel
theorem dX8_draw_1 : decode cX8_draw 1 = .ok (.ldc2_w 242, 3) := by decide +kernel
theorem dX8_draw_4 : decode cX8_draw 4 = .ok (.aload_n 0, 1) := by decide +kernel
theorem dX8_draw_5 : decode cX8_draw 5 = .ok (.getfield 244, 3) := by decide +kernel
theorem dX8_draw_8 : decode cX8_draw 8 = .ok (.lmul, 1) := by decide +kernel
theorem dX8_draw_9 : decode cX8_draw 9 = .ok (.ldc2_w 248, 3) := by decide +kernel
theorem dX8_draw_12 : decode cX8_draw 12 = .ok (.ladd, 1) := by decide +kernel
theorem dX8_draw_13 : decode cX8_draw 13 = .ok (.ldc2_w 250, 3) := by decide +kernel
theorem dX8_draw_16 : decode cX8_draw 16 = .ok (.land, 1) := by decide +kernel
theorem dX8_draw_17 : decode cX8_draw 17 = .ok (.putfield 244, 3) := by decide +kernel
theorem dX8_draw_20 : decode cX8_draw 20 = .ok (.aload_n 0, 1) := by decide +kernel
theorem dX8_draw_21 : decode cX8_draw 21 = .ok (.getfield 244, 3) := by decide +kernel
theorem dX8_draw_24 : decode cX8_draw 24 = .ok (.ldc2_w 252, 3) := by decide +kernel
theorem dX8_draw_27 : decode cX8_draw 27 = .ok (.ldiv, 1) := by decide +kernel
theorem dX8_draw_28 : decode cX8_draw 28 = .ok (.iload_n 1, 1) := by decide +kernel
theorem dX8_draw_29 : decode cX8_draw 29 = .ok (.i2l, 1) := by decide +kernel
theorem dX8_draw_30 : decode cX8_draw 30 = .ok (.lrem, 1) := by decide +kernel
theorem dX8_draw_31 : decode cX8_draw 31 = .ok (.l2i, 1) := by decide +kernel
theorem dX8_draw_32 : decode cX8_draw 32 = .ok (.ireturn, 1) := by decide +kernel
theorem dX8_drawnNow_0 : decode cX8_drawnNow 0 = .ok (.iconst 0, 1) := by decide +kernel
theorem dX8_drawnNow_1 : decode cX8_drawnNow 1 = .ok (.istore 4, 2) := by decide +kernel
theorem dX8_drawnNow_3 : decode cX8_drawnNow 3 = .ok (.iload 4, 2) := by decide +kernel
theorem dX8_drawnNow_5 : decode cX8_drawnNow 5 = .ok (.bipush 12, 2) := by decide +kernel
theorem dX8_drawnNow_7 : decode cX8_drawnNow 7 = .ok (.if_icmp .ge 23, 3) := by decide +kernel
theorem dX8_drawnNow_10 : decode cX8_drawnNow 10 = .ok (.aload_n 0, 1) := by decide +kernel
theorem dX8_drawnNow_11 : decode cX8_drawnNow 11 = .ok (.getfield 50, 3) := by decide +kernel
theorem dX8_drawnNow_14 : decode cX8_drawnNow 14 = .ok (.iload 4, 2) := by decide +kernel
theorem dX8_drawnNow_16 : decode cX8_drawnNow 16 = .ok (.aload_n 0, 1) := by decide +kernel
theorem dX8_drawnNow_17 : decode cX8_drawnNow 17 = .ok (.getfield 28, 3) := by decide +kernel
theorem dX8_drawnNow_20 : decode cX8_drawnNow 20 = .ok (.iload 4, 2) := by decide +kernel
theorem dX8_drawnNow_22 : decode cX8_drawnNow 22 = .ok (.iaload, 1) := by decide +kernel
theorem dX8_drawnNow_23 : decode cX8_drawnNow 23 = .ok (.iastore, 1) := by decide +kernel
theorem dX8_drawnNow_24 : decode cX8_drawnNow 24 = .ok (.iinc 4 1, 3) := by decide +kernel
theorem dX8_drawnNow_27 : decode cX8_drawnNow 27 = .ok (.goto (-24), 3) := by decide +kernel
theorem dX8_drawnNow_30 : decode cX8_drawnNow 30 = .ok (.aload_n 0, 1) := by decide +kernel
theorem dX8_drawnNow_31 : decode cX8_drawnNow 31 = .ok (.iload_n 2, 1) := by decide +kernel
theorem dX8_drawnNow_32 : decode cX8_drawnNow 32 = .ok (.i2l, 1) := by decide +kernel
theorem dX8_drawnNow_33 : decode cX8_drawnNow 33 = .ok (.putfield 244, 3) := by decide +kernel
theorem dX8_drawnNow_36 : decode cX8_drawnNow 36 = .ok (.iconst 0, 1) := by decide +kernel
theorem dX8_drawnNow_37 : decode cX8_drawnNow 37 = .ok (.istore 4, 2) := by decide +kernel
theorem dX8_drawnNow_39 : decode cX8_drawnNow 39 = .ok (.iconst 0, 1) := by decide +kernel
theorem dX8_drawnNow_40 : decode cX8_drawnNow 40 = .ok (.istore 5, 2) := by decide +kernel
theorem dX8_drawnNow_42 : decode cX8_drawnNow 42 = .ok (.iconst 0, 1) := by decide +kernel
theorem dX8_drawnNow_43 : decode cX8_drawnNow 43 = .ok (.istore 6, 2) := by decide +kernel
theorem dX8_drawnNow_45 : decode cX8_drawnNow 45 = .ok (.iload 6, 2) := by decide +kernel
theorem dX8_drawnNow_47 : decode cX8_drawnNow 47 = .ok (.iload_n 1, 1) := by decide +kernel
theorem dX8_drawnNow_48 : decode cX8_drawnNow 48 = .ok (.if_icmp .ge 62, 3) := by decide +kernel
theorem dX8_drawnNow_51 : decode cX8_drawnNow 51 = .ok (.iconst 0, 1) := by decide +kernel
theorem dX8_drawnNow_52 : decode cX8_drawnNow 52 = .ok (.istore 7, 2) := by decide +kernel
theorem dX8_drawnNow_54 : decode cX8_drawnNow 54 = .ok (.iload 7, 2) := by decide +kernel
theorem dX8_drawnNow_56 : decode cX8_drawnNow 56 = .ok (.bipush 12, 2) := by decide +kernel
theorem dX8_drawnNow_58 : decode cX8_drawnNow 58 = .ok (.if_icmp .ge 28, 3) := by decide +kernel
theorem dX8_drawnNow_61 : decode cX8_drawnNow 61 = .ok (.aload_n 0, 1) := by decide +kernel
theorem dX8_drawnNow_62 : decode cX8_drawnNow 62 = .ok (.getfield 28, 3) := by decide +kernel
theorem dX8_drawnNow_65 : decode cX8_drawnNow 65 = .ok (.iload 7, 2) := by decide +kernel
theorem dX8_drawnNow_67 : decode cX8_drawnNow 67 = .ok (.aload_n 0, 1) := by decide +kernel
theorem dX8_drawnNow_68 : decode cX8_drawnNow 68 = .ok (.aload_n 0, 1) := by decide +kernel
theorem dX8_drawnNow_69 : decode cX8_drawnNow 69 = .ok (.getfield 124, 3) := by decide +kernel
theorem dX8_drawnNow_72 : decode cX8_drawnNow 72 = .ok (.iconst 1, 1) := by decide +kernel
theorem dX8_drawnNow_73 : decode cX8_drawnNow 73 = .ok (.iadd, 1) := by decide +kernel
theorem dX8_drawnNow_74 : decode cX8_drawnNow 74 = .ok (.invokevirtual 254, 3) := by decide +kernel
theorem dX8_drawnNow_77 : decode cX8_drawnNow 77 = .ok (.iconst 1, 1) := by decide +kernel
theorem dX8_drawnNow_78 : decode cX8_drawnNow 78 = .ok (.isub, 1) := by decide +kernel
theorem dX8_drawnNow_79 : decode cX8_drawnNow 79 = .ok (.iastore, 1) := by decide +kernel
theorem dX8_drawnNow_80 : decode cX8_drawnNow 80 = .ok (.iinc 7 1, 3) := by decide +kernel
theorem dX8_drawnNow_83 : decode cX8_drawnNow 83 = .ok (.goto (-29), 3) := by decide +kernel
theorem dX8_drawnNow_86 : decode cX8_drawnNow 86 = .ok (.iload 4, 2) := by decide +kernel
theorem dX8_drawnNow_88 : decode cX8_drawnNow 88 = .ok (.aload_n 0, 1) := by decide +kernel
theorem dX8_drawnNow_89 : decode cX8_drawnNow 89 = .ok (.invokevirtual 166, 3) := by decide +kernel
theorem dX8_drawnNow_92 : decode cX8_drawnNow 92 = .ok (.iadd, 1) := by decide +kernel
theorem dX8_drawnNow_93 : decode cX8_drawnNow 93 = .ok (.istore 4, 2) := by decide +kernel
theorem dX8_drawnNow_95 : decode cX8_drawnNow 95 = .ok (.iload 5, 2) := by decide +kernel
theorem dX8_drawnNow_97 : decode cX8_drawnNow 97 = .ok (.aload_n 0, 1) := by decide +kernel
theorem dX8_drawnNow_98 : decode cX8_drawnNow 98 = .ok (.invokevirtual 198, 3) := by decide +kernel
theorem dX8_drawnNow_101 : decode cX8_drawnNow 101 = .ok (.iadd, 1) := by decide +kernel
theorem dX8_drawnNow_102 : decode cX8_drawnNow 102 = .ok (.istore 5, 2) := by decide +kernel
theorem dX8_drawnNow_104 : decode cX8_drawnNow 104 = .ok (.iinc 6 1, 3) := by decide +kernel
theorem dX8_drawnNow_107 : decode cX8_drawnNow 107 = .ok (.goto (-62), 3) := by decide +kernel
theorem dX8_drawnNow_110 : decode cX8_drawnNow 110 = .ok (.iconst 0, 1) := by decide +kernel
theorem dX8_drawnNow_111 : decode cX8_drawnNow 111 = .ok (.istore 6, 2) := by decide +kernel
theorem dX8_drawnNow_113 : decode cX8_drawnNow 113 = .ok (.iload 6, 2) := by decide +kernel
theorem dX8_drawnNow_115 : decode cX8_drawnNow 115 = .ok (.bipush 12, 2) := by decide +kernel
theorem dX8_drawnNow_117 : decode cX8_drawnNow 117 = .ok (.if_icmp .ge 23, 3) := by decide +kernel
theorem dX8_drawnNow_120 : decode cX8_drawnNow 120 = .ok (.aload_n 0, 1) := by decide +kernel
theorem dX8_drawnNow_121 : decode cX8_drawnNow 121 = .ok (.getfield 28, 3) := by decide +kernel
theorem dX8_drawnNow_124 : decode cX8_drawnNow 124 = .ok (.iload 6, 2) := by decide +kernel
theorem dX8_drawnNow_126 : decode cX8_drawnNow 126 = .ok (.aload_n 0, 1) := by decide +kernel
theorem dX8_drawnNow_127 : decode cX8_drawnNow 127 = .ok (.getfield 50, 3) := by decide +kernel
theorem dX8_drawnNow_130 : decode cX8_drawnNow 130 = .ok (.iload 6, 2) := by decide +kernel
theorem dX8_drawnNow_132 : decode cX8_drawnNow 132 = .ok (.iaload, 1) := by decide +kernel
theorem dX8_drawnNow_133 : decode cX8_drawnNow 133 = .ok (.iastore, 1) := by decide +kernel
theorem dX8_drawnNow_134 : decode cX8_drawnNow 134 = .ok (.iinc 6 1, 3) := by decide +kernel
theorem dX8_drawnNow_137 : decode cX8_drawnNow 137 = .ok (.goto (-24), 3) := by decide +kernel
theorem dX8_drawnNow_140 : decode cX8_drawnNow 140 = .ok (.iload_n 3, 1) := by decide +kernel
theorem dX8_drawnNow_141 : decode cX8_drawnNow 141 = .ok (.ifCond .ne 8, 3) := by decide +kernel
theorem dX8_drawnNow_144 : decode cX8_drawnNow 144 = .ok (.iload 4, 2) := by decide +kernel
theorem dX8_drawnNow_146 : decode cX8_drawnNow 146 = .ok (.goto 18, 3) := by decide +kernel
theorem dX8_drawnNow_149 : decode cX8_drawnNow 149 = .ok (.iload_n 3, 1) := by decide +kernel
theorem dX8_drawnNow_150 : decode cX8_drawnNow 150 = .ok (.iconst 1, 1) := by decide +kernel
theorem dX8_drawnNow_151 : decode cX8_drawnNow 151 = .ok (.if_icmp .ne 8, 3) := by decide +kernel
theorem dX8_drawnNow_154 : decode cX8_drawnNow 154 = .ok (.iload 5, 2) := by decide +kernel
theorem dX8_drawnNow_156 : decode cX8_drawnNow 156 = .ok (.goto 8, 3) := by decide +kernel
theorem dX8_drawnNow_159 : decode cX8_drawnNow 159 = .ok (.aload_n 0, 1) := by decide +kernel
theorem dX8_drawnNow_160 : decode cX8_drawnNow 160 = .ok (.getfield 244, 3) := by decide +kernel
theorem dX8_drawnNow_163 : decode cX8_drawnNow 163 = .ok (.l2i, 1) := by decide +kernel
theorem dX8_drawnNow_164 : decode cX8_drawnNow 164 = .ok (.ireturn, 1) := by decide +kernel
theorem dX8_drawn_0 : decode cX8_drawn 0 = .ok (.iload_n 1, 1) := by decide +kernel
theorem dX8_drawn_1 : decode cX8_drawn 1 = .ok (.iconst 1, 1) := by decide +kernel
theorem dX8_drawn_2 : decode cX8_drawn 2 = .ok (.bipush 20, 2) := by decide +kernel
theorem dX8_drawn_4 : decode cX8_drawn 4 = .ok (.invokestatic 86, 3) := by decide +kernel
theorem dX8_drawn_7 : decode cX8_drawn 7 = .ok (.ifCond .eq 16, 3) := by decide +kernel
theorem dX8_drawn_10 : decode cX8_drawn 10 = .ok (.iload_n 2, 1) := by decide +kernel
theorem dX8_drawn_11 : decode cX8_drawn 11 = .ok (.ifCond .lt 12, 3) := by decide +kernel
theorem dX8_drawn_14 : decode cX8_drawn 14 = .ok (.iload_n 3, 1) := by decide +kernel
theorem dX8_drawn_15 : decode cX8_drawn 15 = .ok (.iconst 0, 1) := by decide +kernel
theorem dX8_drawn_16 : decode cX8_drawn 16 = .ok (.iconst 2, 1) := by decide +kernel
theorem dX8_drawn_17 : decode cX8_drawn 17 = .ok (.invokestatic 86, 3) := by decide +kernel
theorem dX8_drawn_20 : decode cX8_drawn 20 = .ok (.ifCond .ne 6, 3) := by decide +kernel
theorem dX8_drawn_23 : decode cX8_drawn 23 = .ok (.bipush (-102), 2) := by decide +kernel
theorem dX8_drawn_25 : decode cX8_drawn 25 = .ok (.ireturn, 1) := by decide +kernel
theorem dX8_drawn_26 : decode cX8_drawn 26 = .ok (.aload_n 0, 1) := by decide +kernel
theorem dX8_drawn_27 : decode cX8_drawn 27 = .ok (.getfield 124, 3) := by decide +kernel
theorem dX8_drawn_30 : decode cX8_drawn 30 = .ok (.ifCond .ne 8, 3) := by decide +kernel
theorem dX8_drawn_33 : decode cX8_drawn 33 = .ok (.bipush (-103), 2) := by decide +kernel
theorem dX8_drawn_35 : decode cX8_drawn 35 = .ok (.goto 10, 3) := by decide +kernel
theorem dX8_drawn_38 : decode cX8_drawn 38 = .ok (.aload_n 0, 1) := by decide +kernel
theorem dX8_drawn_39 : decode cX8_drawn 39 = .ok (.iload_n 1, 1) := by decide +kernel
theorem dX8_drawn_40 : decode cX8_drawn 40 = .ok (.iload_n 2, 1) := by decide +kernel
theorem dX8_drawn_41 : decode cX8_drawn 41 = .ok (.iload_n 3, 1) := by decide +kernel
theorem dX8_drawn_42 : decode cX8_drawn 42 = .ok (.invokevirtual 257, 3) := by decide +kernel
theorem dX8_drawn_45 : decode cX8_drawn 45 = .ok (.ireturn, 1) := by decide +kernel
theorem dX8_image_0 : decode cX8_image 0 = .ok (.aload_n 0, 1) := by decide +kernel
theorem dX8_image_1 : decode cX8_image 1 = .ok (.getfield 124, 3) := by decide +kernel
theorem dX8_image_4 : decode cX8_image 4 = .ok (.ifCond .ne 6, 3) := by decide +kernel
theorem dX8_image_7 : decode cX8_image 7 = .ok (.bipush (-103), 2) := by decide +kernel
theorem dX8_image_9 : decode cX8_image 9 = .ok (.ireturn, 1) := by decide +kernel
theorem dX8_image_10 : decode cX8_image 10 = .ok (.aload_n 0, 1) := by decide +kernel
theorem dX8_image_11 : decode cX8_image 11 = .ok (.iconst 1, 1) := by decide +kernel
theorem dX8_image_12 : decode cX8_image 12 = .ok (.putfield 260, 3) := by decide +kernel
theorem dX8_image_15 : decode cX8_image 15 = .ok (.aload_n 0, 1) := by decide +kernel
theorem dX8_image_16 : decode cX8_image 16 = .ok (.aload_n 0, 1) := by decide +kernel
theorem dX8_image_17 : decode cX8_image 17 = .ok (.getfield 127, 3) := by decide +kernel
theorem dX8_image_20 : decode cX8_image 20 = .ok (.putfield 263, 3) := by decide +kernel
theorem dX8_image_23 : decode cX8_image 23 = .ok (.aload_n 0, 1) := by decide +kernel
theorem dX8_image_24 : decode cX8_image 24 = .ok (.aload_n 0, 1) := by decide +kernel
theorem dX8_image_25 : decode cX8_image 25 = .ok (.getfield 124, 3) := by decide +kernel
theorem dX8_image_28 : decode cX8_image 28 = .ok (.putfield 266, 3) := by decide +kernel
theorem dX8_image_31 : decode cX8_image 31 = .ok (.aload_n 0, 1) := by decide +kernel
theorem dX8_image_32 : decode cX8_image 32 = .ok (.aload_n 0, 1) := by decide +kernel
theorem dX8_image_33 : decode cX8_image 33 = .ok (.getfield 130, 3) := by decide +kernel
theorem dX8_image_36 : decode cX8_image 36 = .ok (.putfield 269, 3) := by decide +kernel
theorem dX8_image_39 : decode cX8_image 39 = .ok (.iconst 0, 1) := by decide +kernel
theorem dX8_image_40 : decode cX8_image 40 = .ok (.istore_n 1, 1) := by decide +kernel
theorem dX8_image_41 : decode cX8_image 41 = .ok (.iload_n 1, 1) := by decide +kernel
theorem dX8_image_42 : decode cX8_image 42 = .ok (.iconst 5, 1) := by decide +kernel
theorem dX8_image_43 : decode cX8_image 43 = .ok (.if_icmp .ge 81, 3) := by decide +kernel
theorem dX8_image_46 : decode cX8_image 46 = .ok (.aload_n 0, 1) := by decide +kernel
theorem dX8_image_47 : decode cX8_image 47 = .ok (.getfield 53, 3) := by decide +kernel
theorem dX8_image_50 : decode cX8_image 50 = .ok (.iload_n 1, 1) := by decide +kernel
theorem dX8_image_51 : decode cX8_image 51 = .ok (.aload_n 0, 1) := by decide +kernel
theorem dX8_image_52 : decode cX8_image 52 = .ok (.getfield 7, 3) := by decide +kernel
theorem dX8_image_55 : decode cX8_image 55 = .ok (.iload_n 1, 1) := by decide +kernel
theorem dX8_image_56 : decode cX8_image 56 = .ok (.iaload, 1) := by decide +kernel
theorem dX8_image_57 : decode cX8_image 57 = .ok (.iastore, 1) := by decide +kernel
theorem dX8_image_58 : decode cX8_image 58 = .ok (.aload_n 0, 1) := by decide +kernel
theorem dX8_image_59 : decode cX8_image 59 = .ok (.getfield 56, 3) := by decide +kernel
theorem dX8_image_62 : decode cX8_image 62 = .ok (.iload_n 1, 1) := by decide +kernel
theorem dX8_image_63 : decode cX8_image 63 = .ok (.aload_n 0, 1) := by decide +kernel
theorem dX8_image_64 : decode cX8_image 64 = .ok (.getfield 13, 3) := by decide +kernel
theorem dX8_image_67 : decode cX8_image 67 = .ok (.iload_n 1, 1) := by decide +kernel
theorem dX8_image_68 : decode cX8_image 68 = .ok (.iaload, 1) := by decide +kernel
theorem dX8_image_69 : decode cX8_image 69 = .ok (.iastore, 1) := by decide +kernel
theorem dX8_image_70 : decode cX8_image 70 = .ok (.aload_n 0, 1) := by decide +kernel
theorem dX8_image_71 : decode cX8_image 71 = .ok (.getfield 59, 3) := by decide +kernel
theorem dX8_image_74 : decode cX8_image 74 = .ok (.iload_n 1, 1) := by decide +kernel
theorem dX8_image_75 : decode cX8_image 75 = .ok (.aload_n 0, 1) := by decide +kernel
theorem dX8_image_76 : decode cX8_image 76 = .ok (.getfield 16, 3) := by decide +kernel
theorem dX8_image_79 : decode cX8_image 79 = .ok (.iload_n 1, 1) := by decide +kernel
theorem dX8_image_80 : decode cX8_image 80 = .ok (.iaload, 1) := by decide +kernel
theorem dX8_image_81 : decode cX8_image 81 = .ok (.iastore, 1) := by decide +kernel
theorem dX8_image_82 : decode cX8_image 82 = .ok (.aload_n 0, 1) := by decide +kernel
theorem dX8_image_83 : decode cX8_image 83 = .ok (.getfield 62, 3) := by decide +kernel
theorem dX8_image_86 : decode cX8_image 86 = .ok (.iload_n 1, 1) := by decide +kernel
theorem dX8_image_87 : decode cX8_image 87 = .ok (.aload_n 0, 1) := by decide +kernel
theorem dX8_image_88 : decode cX8_image 88 = .ok (.getfield 19, 3) := by decide +kernel
theorem dX8_image_91 : decode cX8_image 91 = .ok (.iload_n 1, 1) := by decide +kernel
theorem dX8_image_92 : decode cX8_image 92 = .ok (.iaload, 1) := by decide +kernel
theorem dX8_image_93 : decode cX8_image 93 = .ok (.iastore, 1) := by decide +kernel
theorem dX8_image_94 : decode cX8_image 94 = .ok (.aload_n 0, 1) := by decide +kernel
theorem dX8_image_95 : decode cX8_image 95 = .ok (.getfield 65, 3) := by decide +kernel
theorem dX8_image_98 : decode cX8_image 98 = .ok (.iload_n 1, 1) := by decide +kernel
theorem dX8_image_99 : decode cX8_image 99 = .ok (.aload_n 0, 1) := by decide +kernel
theorem dX8_image_100 : decode cX8_image 100 = .ok (.getfield 22, 3) := by decide +kernel
theorem dX8_image_103 : decode cX8_image 103 = .ok (.iload_n 1, 1) := by decide +kernel
theorem dX8_image_104 : decode cX8_image 104 = .ok (.iaload, 1) := by decide +kernel
theorem dX8_image_105 : decode cX8_image 105 = .ok (.iastore, 1) := by decide +kernel
theorem dX8_image_106 : decode cX8_image 106 = .ok (.aload_n 0, 1) := by decide +kernel
theorem dX8_image_107 : decode cX8_image 107 = .ok (.getfield 68, 3) := by decide +kernel
theorem dX8_image_110 : decode cX8_image 110 = .ok (.iload_n 1, 1) := by decide +kernel
theorem dX8_image_111 : decode cX8_image 111 = .ok (.aload_n 0, 1) := by decide +kernel
theorem dX8_image_112 : decode cX8_image 112 = .ok (.getfield 25, 3) := by decide +kernel
theorem dX8_image_115 : decode cX8_image 115 = .ok (.iload_n 1, 1) := by decide +kernel
theorem dX8_image_116 : decode cX8_image 116 = .ok (.iaload, 1) := by decide +kernel
theorem dX8_image_117 : decode cX8_image 117 = .ok (.iastore, 1) := by decide +kernel
theorem dX8_image_118 : decode cX8_image 118 = .ok (.iinc 1 1, 3) := by decide +kernel
theorem dX8_image_121 : decode cX8_image 121 = .ok (.goto (-80), 3) := by decide +kernel
theorem dX8_image_124 : decode cX8_image 124 = .ok (.iconst 0, 1) := by decide +kernel
theorem dX8_image_125 : decode cX8_image 125 = .ok (.istore_n 1, 1) := by decide +kernel
theorem dX8_image_126 : decode cX8_image 126 = .ok (.iload_n 1, 1) := by decide +kernel
theorem dX8_image_127 : decode cX8_image 127 = .ok (.bipush 12, 2) := by decide +kernel
theorem dX8_image_129 : decode cX8_image 129 = .ok (.if_icmp .ge 21, 3) := by decide +kernel
theorem dX8_image_132 : decode cX8_image 132 = .ok (.aload_n 0, 1) := by decide +kernel
theorem dX8_image_133 : decode cX8_image 133 = .ok (.getfield 71, 3) := by decide +kernel
theorem dX8_image_136 : decode cX8_image 136 = .ok (.iload_n 1, 1) := by decide +kernel
theorem dX8_image_137 : decode cX8_image 137 = .ok (.aload_n 0, 1) := by decide +kernel
theorem dX8_image_138 : decode cX8_image 138 = .ok (.getfield 28, 3) := by decide +kernel
theorem dX8_image_141 : decode cX8_image 141 = .ok (.iload_n 1, 1) := by decide +kernel
theorem dX8_image_142 : decode cX8_image 142 = .ok (.iaload, 1) := by decide +kernel
theorem dX8_image_143 : decode cX8_image 143 = .ok (.iastore, 1) := by decide +kernel
theorem dX8_image_144 : decode cX8_image 144 = .ok (.iinc 1 1, 3) := by decide +kernel
theorem dX8_image_147 : decode cX8_image 147 = .ok (.goto (-21), 3) := by decide +kernel
theorem dX8_image_150 : decode cX8_image 150 = .ok (.iconst 0, 1) := by decide +kernel
theorem dX8_image_151 : decode cX8_image 151 = .ok (.istore_n 1, 1) := by decide +kernel
theorem dX8_image_152 : decode cX8_image 152 = .ok (.iload_n 1, 1) := by decide +kernel
theorem dX8_image_153 : decode cX8_image 153 = .ok (.bipush 6, 2) := by decide +kernel
theorem dX8_image_155 : decode cX8_image 155 = .ok (.if_icmp .ge 45, 3) := by decide +kernel
theorem dX8_image_158 : decode cX8_image 158 = .ok (.aload_n 0, 1) := by decide +kernel
theorem dX8_image_159 : decode cX8_image 159 = .ok (.getfield 74, 3) := by decide +kernel
theorem dX8_image_162 : decode cX8_image 162 = .ok (.iload_n 1, 1) := by decide +kernel
theorem dX8_image_163 : decode cX8_image 163 = .ok (.aload_n 0, 1) := by decide +kernel
theorem dX8_image_164 : decode cX8_image 164 = .ok (.getfield 31, 3) := by decide +kernel
theorem dX8_image_167 : decode cX8_image 167 = .ok (.iload_n 1, 1) := by decide +kernel
theorem dX8_image_168 : decode cX8_image 168 = .ok (.iaload, 1) := by decide +kernel
theorem dX8_image_169 : decode cX8_image 169 = .ok (.iastore, 1) := by decide +kernel
theorem dX8_image_170 : decode cX8_image 170 = .ok (.aload_n 0, 1) := by decide +kernel
theorem dX8_image_171 : decode cX8_image 171 = .ok (.getfield 77, 3) := by decide +kernel
theorem dX8_image_174 : decode cX8_image 174 = .ok (.iload_n 1, 1) := by decide +kernel
theorem dX8_image_175 : decode cX8_image 175 = .ok (.aload_n 0, 1) := by decide +kernel
theorem dX8_image_176 : decode cX8_image 176 = .ok (.getfield 34, 3) := by decide +kernel
theorem dX8_image_179 : decode cX8_image 179 = .ok (.iload_n 1, 1) := by decide +kernel
theorem dX8_image_180 : decode cX8_image 180 = .ok (.iaload, 1) := by decide +kernel
theorem dX8_image_181 : decode cX8_image 181 = .ok (.iastore, 1) := by decide +kernel
theorem dX8_image_182 : decode cX8_image 182 = .ok (.aload_n 0, 1) := by decide +kernel
theorem dX8_image_183 : decode cX8_image 183 = .ok (.getfield 80, 3) := by decide +kernel
theorem dX8_image_186 : decode cX8_image 186 = .ok (.iload_n 1, 1) := by decide +kernel
theorem dX8_image_187 : decode cX8_image 187 = .ok (.aload_n 0, 1) := by decide +kernel
theorem dX8_image_188 : decode cX8_image 188 = .ok (.getfield 37, 3) := by decide +kernel
theorem dX8_image_191 : decode cX8_image 191 = .ok (.iload_n 1, 1) := by decide +kernel
theorem dX8_image_192 : decode cX8_image 192 = .ok (.iaload, 1) := by decide +kernel
theorem dX8_image_193 : decode cX8_image 193 = .ok (.iastore, 1) := by decide +kernel
theorem dX8_image_194 : decode cX8_image 194 = .ok (.iinc 1 1, 3) := by decide +kernel
theorem dX8_image_197 : decode cX8_image 197 = .ok (.goto (-45), 3) := by decide +kernel
theorem dX8_image_200 : decode cX8_image 200 = .ok (.aload_n 0, 1) := by decide +kernel
theorem dX8_image_201 : decode cX8_image 201 = .ok (.getfield 124, 3) := by decide +kernel
theorem dX8_image_204 : decode cX8_image 204 = .ok (.ireturn, 1) := by decide +kernel
theorem dX8_restore_0 : decode cX8_restore 0 = .ok (.aload_n 0, 1) := by decide +kernel
theorem dX8_restore_1 : decode cX8_restore 1 = .ok (.getfield 260, 3) := by decide +kernel
theorem dX8_restore_4 : decode cX8_restore 4 = .ok (.ifCond .eq 14, 3) := by decide +kernel
theorem dX8_restore_7 : decode cX8_restore 7 = .ok (.aload_n 0, 1) := by decide +kernel
theorem dX8_restore_8 : decode cX8_restore 8 = .ok (.getfield 263, 3) := by decide +kernel
theorem dX8_restore_11 : decode cX8_restore 11 = .ok (.aload_n 0, 1) := by decide +kernel
theorem dX8_restore_12 : decode cX8_restore 12 = .ok (.getfield 127, 3) := by decide +kernel
theorem dX8_restore_15 : decode cX8_restore 15 = .ok (.if_icmp .eq 6, 3) := by decide +kernel
theorem dX8_restore_18 : decode cX8_restore 18 = .ok (.bipush (-103), 2) := by decide +kernel
theorem dX8_restore_20 : decode cX8_restore 20 = .ok (.ireturn, 1) := by decide +kernel
theorem dX8_restore_21 : decode cX8_restore 21 = .ok (.aload_n 0, 1) := by decide +kernel
theorem dX8_restore_22 : decode cX8_restore 22 = .ok (.aload_n 0, 1) := by decide +kernel
theorem dX8_restore_23 : decode cX8_restore 23 = .ok (.getfield 266, 3) := by decide +kernel
theorem dX8_restore_26 : decode cX8_restore 26 = .ok (.putfield 124, 3) := by decide +kernel
theorem dX8_restore_29 : decode cX8_restore 29 = .ok (.aload_n 0, 1) := by decide +kernel
theorem dX8_restore_30 : decode cX8_restore 30 = .ok (.aload_n 0, 1) := by decide +kernel
theorem dX8_restore_31 : decode cX8_restore 31 = .ok (.getfield 269, 3) := by decide +kernel
theorem dX8_restore_34 : decode cX8_restore 34 = .ok (.putfield 130, 3) := by decide +kernel
theorem dX8_restore_37 : decode cX8_restore 37 = .ok (.iconst 0, 1) := by decide +kernel
theorem dX8_restore_38 : decode cX8_restore 38 = .ok (.istore_n 1, 1) := by decide +kernel
theorem dX8_restore_39 : decode cX8_restore 39 = .ok (.iload_n 1, 1) := by decide +kernel
theorem dX8_restore_40 : decode cX8_restore 40 = .ok (.iconst 5, 1) := by decide +kernel
theorem dX8_restore_41 : decode cX8_restore 41 = .ok (.if_icmp .ge 81, 3) := by decide +kernel
theorem dX8_restore_44 : decode cX8_restore 44 = .ok (.aload_n 0, 1) := by decide +kernel
theorem dX8_restore_45 : decode cX8_restore 45 = .ok (.getfield 7, 3) := by decide +kernel
theorem dX8_restore_48 : decode cX8_restore 48 = .ok (.iload_n 1, 1) := by decide +kernel
theorem dX8_restore_49 : decode cX8_restore 49 = .ok (.aload_n 0, 1) := by decide +kernel
theorem dX8_restore_50 : decode cX8_restore 50 = .ok (.getfield 53, 3) := by decide +kernel
theorem dX8_restore_53 : decode cX8_restore 53 = .ok (.iload_n 1, 1) := by decide +kernel
theorem dX8_restore_54 : decode cX8_restore 54 = .ok (.iaload, 1) := by decide +kernel
theorem dX8_restore_55 : decode cX8_restore 55 = .ok (.iastore, 1) := by decide +kernel
theorem dX8_restore_56 : decode cX8_restore 56 = .ok (.aload_n 0, 1) := by decide +kernel
theorem dX8_restore_57 : decode cX8_restore 57 = .ok (.getfield 13, 3) := by decide +kernel
theorem dX8_restore_60 : decode cX8_restore 60 = .ok (.iload_n 1, 1) := by decide +kernel
theorem dX8_restore_61 : decode cX8_restore 61 = .ok (.aload_n 0, 1) := by decide +kernel
theorem dX8_restore_62 : decode cX8_restore 62 = .ok (.getfield 56, 3) := by decide +kernel
theorem dX8_restore_65 : decode cX8_restore 65 = .ok (.iload_n 1, 1) := by decide +kernel
theorem dX8_restore_66 : decode cX8_restore 66 = .ok (.iaload, 1) := by decide +kernel
theorem dX8_restore_67 : decode cX8_restore 67 = .ok (.iastore, 1) := by decide +kernel
theorem dX8_restore_68 : decode cX8_restore 68 = .ok (.aload_n 0, 1) := by decide +kernel
theorem dX8_restore_69 : decode cX8_restore 69 = .ok (.getfield 16, 3) := by decide +kernel
theorem dX8_restore_72 : decode cX8_restore 72 = .ok (.iload_n 1, 1) := by decide +kernel
theorem dX8_restore_73 : decode cX8_restore 73 = .ok (.aload_n 0, 1) := by decide +kernel
theorem dX8_restore_74 : decode cX8_restore 74 = .ok (.getfield 59, 3) := by decide +kernel
theorem dX8_restore_77 : decode cX8_restore 77 = .ok (.iload_n 1, 1) := by decide +kernel
theorem dX8_restore_78 : decode cX8_restore 78 = .ok (.iaload, 1) := by decide +kernel
theorem dX8_restore_79 : decode cX8_restore 79 = .ok (.iastore, 1) := by decide +kernel
theorem dX8_restore_80 : decode cX8_restore 80 = .ok (.aload_n 0, 1) := by decide +kernel
theorem dX8_restore_81 : decode cX8_restore 81 = .ok (.getfield 19, 3) := by decide +kernel
theorem dX8_restore_84 : decode cX8_restore 84 = .ok (.iload_n 1, 1) := by decide +kernel
theorem dX8_restore_85 : decode cX8_restore 85 = .ok (.aload_n 0, 1) := by decide +kernel
theorem dX8_restore_86 : decode cX8_restore 86 = .ok (.getfield 62, 3) := by decide +kernel
theorem dX8_restore_89 : decode cX8_restore 89 = .ok (.iload_n 1, 1) := by decide +kernel
theorem dX8_restore_90 : decode cX8_restore 90 = .ok (.iaload, 1) := by decide +kernel
theorem dX8_restore_91 : decode cX8_restore 91 = .ok (.iastore, 1) := by decide +kernel
theorem dX8_restore_92 : decode cX8_restore 92 = .ok (.aload_n 0, 1) := by decide +kernel
theorem dX8_restore_93 : decode cX8_restore 93 = .ok (.getfield 22, 3) := by decide +kernel
theorem dX8_restore_96 : decode cX8_restore 96 = .ok (.iload_n 1, 1) := by decide +kernel
theorem dX8_restore_97 : decode cX8_restore 97 = .ok (.aload_n 0, 1) := by decide +kernel
theorem dX8_restore_98 : decode cX8_restore 98 = .ok (.getfield 65, 3) := by decide +kernel
theorem dX8_restore_101 : decode cX8_restore 101 = .ok (.iload_n 1, 1) := by decide +kernel
theorem dX8_restore_102 : decode cX8_restore 102 = .ok (.iaload, 1) := by decide +kernel
theorem dX8_restore_103 : decode cX8_restore 103 = .ok (.iastore, 1) := by decide +kernel
theorem dX8_restore_104 : decode cX8_restore 104 = .ok (.aload_n 0, 1) := by decide +kernel
theorem dX8_restore_105 : decode cX8_restore 105 = .ok (.getfield 25, 3) := by decide +kernel
theorem dX8_restore_108 : decode cX8_restore 108 = .ok (.iload_n 1, 1) := by decide +kernel
theorem dX8_restore_109 : decode cX8_restore 109 = .ok (.aload_n 0, 1) := by decide +kernel
theorem dX8_restore_110 : decode cX8_restore 110 = .ok (.getfield 68, 3) := by decide +kernel
theorem dX8_restore_113 : decode cX8_restore 113 = .ok (.iload_n 1, 1) := by decide +kernel
theorem dX8_restore_114 : decode cX8_restore 114 = .ok (.iaload, 1) := by decide +kernel
theorem dX8_restore_115 : decode cX8_restore 115 = .ok (.iastore, 1) := by decide +kernel
theorem dX8_restore_116 : decode cX8_restore 116 = .ok (.iinc 1 1, 3) := by decide +kernel
theorem dX8_restore_119 : decode cX8_restore 119 = .ok (.goto (-80), 3) := by decide +kernel
theorem dX8_restore_122 : decode cX8_restore 122 = .ok (.iconst 0, 1) := by decide +kernel
theorem dX8_restore_123 : decode cX8_restore 123 = .ok (.istore_n 1, 1) := by decide +kernel
theorem dX8_restore_124 : decode cX8_restore 124 = .ok (.iload_n 1, 1) := by decide +kernel
theorem dX8_restore_125 : decode cX8_restore 125 = .ok (.bipush 12, 2) := by decide +kernel
theorem dX8_restore_127 : decode cX8_restore 127 = .ok (.if_icmp .ge 21, 3) := by decide +kernel
theorem dX8_restore_130 : decode cX8_restore 130 = .ok (.aload_n 0, 1) := by decide +kernel
theorem dX8_restore_131 : decode cX8_restore 131 = .ok (.getfield 28, 3) := by decide +kernel
theorem dX8_restore_134 : decode cX8_restore 134 = .ok (.iload_n 1, 1) := by decide +kernel
theorem dX8_restore_135 : decode cX8_restore 135 = .ok (.aload_n 0, 1) := by decide +kernel
theorem dX8_restore_136 : decode cX8_restore 136 = .ok (.getfield 71, 3) := by decide +kernel
theorem dX8_restore_139 : decode cX8_restore 139 = .ok (.iload_n 1, 1) := by decide +kernel
theorem dX8_restore_140 : decode cX8_restore 140 = .ok (.iaload, 1) := by decide +kernel
theorem dX8_restore_141 : decode cX8_restore 141 = .ok (.iastore, 1) := by decide +kernel
theorem dX8_restore_142 : decode cX8_restore 142 = .ok (.iinc 1 1, 3) := by decide +kernel
theorem dX8_restore_145 : decode cX8_restore 145 = .ok (.goto (-21), 3) := by decide +kernel
theorem dX8_restore_148 : decode cX8_restore 148 = .ok (.iconst 0, 1) := by decide +kernel
theorem dX8_restore_149 : decode cX8_restore 149 = .ok (.istore_n 1, 1) := by decide +kernel
theorem dX8_restore_150 : decode cX8_restore 150 = .ok (.iload_n 1, 1) := by decide +kernel
theorem dX8_restore_151 : decode cX8_restore 151 = .ok (.bipush 6, 2) := by decide +kernel
theorem dX8_restore_153 : decode cX8_restore 153 = .ok (.if_icmp .ge 45, 3) := by decide +kernel
theorem dX8_restore_156 : decode cX8_restore 156 = .ok (.aload_n 0, 1) := by decide +kernel
theorem dX8_restore_157 : decode cX8_restore 157 = .ok (.getfield 31, 3) := by decide +kernel
theorem dX8_restore_160 : decode cX8_restore 160 = .ok (.iload_n 1, 1) := by decide +kernel
theorem dX8_restore_161 : decode cX8_restore 161 = .ok (.aload_n 0, 1) := by decide +kernel
theorem dX8_restore_162 : decode cX8_restore 162 = .ok (.getfield 74, 3) := by decide +kernel
theorem dX8_restore_165 : decode cX8_restore 165 = .ok (.iload_n 1, 1) := by decide +kernel
theorem dX8_restore_166 : decode cX8_restore 166 = .ok (.iaload, 1) := by decide +kernel
theorem dX8_restore_167 : decode cX8_restore 167 = .ok (.iastore, 1) := by decide +kernel
theorem dX8_restore_168 : decode cX8_restore 168 = .ok (.aload_n 0, 1) := by decide +kernel
theorem dX8_restore_169 : decode cX8_restore 169 = .ok (.getfield 34, 3) := by decide +kernel
theorem dX8_restore_172 : decode cX8_restore 172 = .ok (.iload_n 1, 1) := by decide +kernel
theorem dX8_restore_173 : decode cX8_restore 173 = .ok (.aload_n 0, 1) := by decide +kernel
theorem dX8_restore_174 : decode cX8_restore 174 = .ok (.getfield 77, 3) := by decide +kernel
theorem dX8_restore_177 : decode cX8_restore 177 = .ok (.iload_n 1, 1) := by decide +kernel
theorem dX8_restore_178 : decode cX8_restore 178 = .ok (.iaload, 1) := by decide +kernel
theorem dX8_restore_179 : decode cX8_restore 179 = .ok (.iastore, 1) := by decide +kernel
theorem dX8_restore_180 : decode cX8_restore 180 = .ok (.aload_n 0, 1) := by decide +kernel
theorem dX8_restore_181 : decode cX8_restore 181 = .ok (.getfield 37, 3) := by decide +kernel
theorem dX8_restore_184 : decode cX8_restore 184 = .ok (.iload_n 1, 1) := by decide +kernel
theorem dX8_restore_185 : decode cX8_restore 185 = .ok (.aload_n 0, 1) := by decide +kernel
theorem dX8_restore_186 : decode cX8_restore 186 = .ok (.getfield 80, 3) := by decide +kernel
theorem dX8_restore_189 : decode cX8_restore 189 = .ok (.iload_n 1, 1) := by decide +kernel
theorem dX8_restore_190 : decode cX8_restore 190 = .ok (.iaload, 1) := by decide +kernel
theorem dX8_restore_191 : decode cX8_restore 191 = .ok (.iastore, 1) := by decide +kernel
theorem dX8_restore_192 : decode cX8_restore 192 = .ok (.iinc 1 1, 3) := by decide +kernel
theorem dX8_restore_195 : decode cX8_restore 195 = .ok (.goto (-45), 3) := by decide +kernel
theorem dX8_restore_198 : decode cX8_restore 198 = .ok (.aload_n 0, 1) := by decide +kernel
theorem dX8_restore_199 : decode cX8_restore 199 = .ok (.getfield 124, 3) := by decide +kernel
theorem dX8_restore_202 : decode cX8_restore 202 = .ok (.ireturn, 1) := by decide +kernel
theorem dX8_unlike_0 : decode cX8_unlike 0 = .ok (.iconst 0, 1) := by decide +kernel
theorem dX8_unlike_1 : decode cX8_unlike 1 = .ok (.istore_n 1, 1) := by decide +kernel
theorem dX8_unlike_2 : decode cX8_unlike 2 = .ok (.iconst 0, 1) := by decide +kernel
theorem dX8_unlike_3 : decode cX8_unlike 3 = .ok (.istore_n 2, 1) := by decide +kernel
theorem dX8_unlike_4 : decode cX8_unlike 4 = .ok (.iload_n 2, 1) := by decide +kernel
theorem dX8_unlike_5 : decode cX8_unlike 5 = .ok (.aload_n 0, 1) := by decide +kernel
theorem dX8_unlike_6 : decode cX8_unlike 6 = .ok (.getfield 124, 3) := by decide +kernel
theorem dX8_unlike_9 : decode cX8_unlike 9 = .ok (.if_icmp .ge 27, 3) := by decide +kernel
theorem dX8_unlike_12 : decode cX8_unlike 12 = .ok (.iload_n 1, 1) := by decide +kernel
theorem dX8_unlike_13 : decode cX8_unlike 13 = .ok (.aload_n 0, 1) := by decide +kernel
theorem dX8_unlike_14 : decode cX8_unlike 14 = .ok (.iload_n 2, 1) := by decide +kernel
theorem dX8_unlike_15 : decode cX8_unlike 15 = .ok (.bipush 12, 2) := by decide +kernel
theorem dX8_unlike_17 : decode cX8_unlike 17 = .ok (.invokevirtual 153, 3) := by decide +kernel
theorem dX8_unlike_20 : decode cX8_unlike 20 = .ok (.ifCond .le 7, 3) := by decide +kernel
theorem dX8_unlike_23 : decode cX8_unlike 23 = .ok (.iconst 1, 1) := by decide +kernel
theorem dX8_unlike_24 : decode cX8_unlike 24 = .ok (.goto 4, 3) := by decide +kernel
theorem dX8_unlike_27 : decode cX8_unlike 27 = .ok (.iconst 0, 1) := by decide +kernel
theorem dX8_unlike_28 : decode cX8_unlike 28 = .ok (.iadd, 1) := by decide +kernel
theorem dX8_unlike_29 : decode cX8_unlike 29 = .ok (.istore_n 1, 1) := by decide +kernel
theorem dX8_unlike_30 : decode cX8_unlike 30 = .ok (.iinc 2 1, 3) := by decide +kernel
theorem dX8_unlike_33 : decode cX8_unlike 33 = .ok (.goto (-29), 3) := by decide +kernel
theorem dX8_unlike_36 : decode cX8_unlike 36 = .ok (.iload_n 1, 1) := by decide +kernel
theorem dX8_unlike_37 : decode cX8_unlike 37 = .ok (.ireturn, 1) := by decide +kernel
theorem dX8_howMany_0 : decode cX8_howMany 0 = .ok (.iload_n 1, 1) := by decide +kernel
theorem dX8_howMany_1 : decode cX8_howMany 1 = .ok (.tableswitch 105 0 9 #[55, 60, 65, 70, 75, 80, 85, 90, 95, 100], 55) := by decide +kernel
theorem dX8_howMany_56 : decode cX8_howMany 56 = .ok (.aload_n 0, 1) := by decide +kernel
theorem dX8_howMany_57 : decode cX8_howMany 57 = .ok (.getfield 124, 3) := by decide +kernel
theorem dX8_howMany_60 : decode cX8_howMany 60 = .ok (.ireturn, 1) := by decide +kernel
theorem dX8_howMany_61 : decode cX8_howMany 61 = .ok (.aload_n 0, 1) := by decide +kernel
theorem dX8_howMany_62 : decode cX8_howMany 62 = .ok (.invokevirtual 137, 3) := by decide +kernel
theorem dX8_howMany_65 : decode cX8_howMany 65 = .ok (.ireturn, 1) := by decide +kernel
theorem dX8_howMany_66 : decode cX8_howMany 66 = .ok (.aload_n 0, 1) := by decide +kernel
theorem dX8_howMany_67 : decode cX8_howMany 67 = .ok (.invokevirtual 166, 3) := by decide +kernel
theorem dX8_howMany_70 : decode cX8_howMany 70 = .ok (.ireturn, 1) := by decide +kernel
theorem dX8_howMany_71 : decode cX8_howMany 71 = .ok (.aload_n 0, 1) := by decide +kernel
theorem dX8_howMany_72 : decode cX8_howMany 72 = .ok (.invokevirtual 195, 3) := by decide +kernel
theorem dX8_howMany_75 : decode cX8_howMany 75 = .ok (.ireturn, 1) := by decide +kernel
theorem dX8_howMany_76 : decode cX8_howMany 76 = .ok (.aload_n 0, 1) := by decide +kernel
theorem dX8_howMany_77 : decode cX8_howMany 77 = .ok (.invokevirtual 198, 3) := by decide +kernel
theorem dX8_howMany_80 : decode cX8_howMany 80 = .ok (.ireturn, 1) := by decide +kernel
theorem dX8_howMany_81 : decode cX8_howMany 81 = .ok (.aload_n 0, 1) := by decide +kernel
theorem dX8_howMany_82 : decode cX8_howMany 82 = .ok (.invokevirtual 272, 3) := by decide +kernel
theorem dX8_howMany_85 : decode cX8_howMany 85 = .ok (.ireturn, 1) := by decide +kernel
theorem dX8_howMany_86 : decode cX8_howMany 86 = .ok (.aload_n 0, 1) := by decide +kernel
theorem dX8_howMany_87 : decode cX8_howMany 87 = .ok (.getfield 130, 3) := by decide +kernel
theorem dX8_howMany_90 : decode cX8_howMany 90 = .ok (.ireturn, 1) := by decide +kernel
theorem dX8_howMany_91 : decode cX8_howMany 91 = .ok (.aload_n 0, 1) := by decide +kernel
theorem dX8_howMany_92 : decode cX8_howMany 92 = .ok (.getfield 90, 3) := by decide +kernel
theorem dX8_howMany_95 : decode cX8_howMany 95 = .ok (.ireturn, 1) := by decide +kernel
theorem dX8_howMany_96 : decode cX8_howMany 96 = .ok (.aload_n 0, 1) := by decide +kernel
theorem dX8_howMany_97 : decode cX8_howMany 97 = .ok (.getfield 127, 3) := by decide +kernel
theorem dX8_howMany_100 : decode cX8_howMany 100 = .ok (.ireturn, 1) := by decide +kernel
theorem dX8_howMany_101 : decode cX8_howMany 101 = .ok (.aload_n 0, 1) := by decide +kernel
theorem dX8_howMany_102 : decode cX8_howMany 102 = .ok (.getfield 207, 3) := by decide +kernel
theorem dX8_howMany_105 : decode cX8_howMany 105 = .ok (.ireturn, 1) := by decide +kernel
theorem dX8_howMany_106 : decode cX8_howMany 106 = .ok (.bipush (-102), 2) := by decide +kernel
theorem dX8_howMany_108 : decode cX8_howMany 108 = .ok (.ireturn, 1) := by decide +kernel
theorem dX8_count_0 : decode cX8_count 0 = .ok (.aload_n 0, 1) := by decide +kernel
theorem dX8_count_1 : decode cX8_count 1 = .ok (.iload_n 1, 1) := by decide +kernel
theorem dX8_count_2 : decode cX8_count 2 = .ok (.invokevirtual 275, 3) := by decide +kernel
theorem dX8_count_5 : decode cX8_count 5 = .ok (.ireturn, 1) := by decide +kernel
theorem dX8_mix_0 : decode cX8_mix 0 = .ok (.aload_n 0, 1) := by decide +kernel
theorem dX8_mix_1 : decode cX8_mix 1 = .ok (.ldc2_w 278, 3) := by decide +kernel
theorem dX8_mix_4 : decode cX8_mix 4 = .ok (.aload_n 0, 1) := by decide +kernel
theorem dX8_mix_5 : decode cX8_mix 5 = .ok (.getfield 280, 3) := by decide +kernel
theorem dX8_mix_8 : decode cX8_mix 8 = .ok (.lmul, 1) := by decide +kernel
theorem dX8_mix_9 : decode cX8_mix 9 = .ok (.lload_n 1, 1) := by decide +kernel
theorem dX8_mix_10 : decode cX8_mix 10 = .ok (.ladd, 1) := by decide +kernel
theorem dX8_mix_11 : decode cX8_mix 11 = .ok (.putfield 280, 3) := by decide +kernel
theorem dX8_mix_14 : decode cX8_mix 14 = .ok (.return_, 1) := by decide +kernel
theorem dX8_digest_0 : decode cX8_digest 0 = .ok (.aload_n 0, 1) := by decide +kernel
theorem dX8_digest_1 : decode cX8_digest 1 = .ok (.ldc2_w 283, 3) := by decide +kernel
theorem dX8_digest_4 : decode cX8_digest 4 = .ok (.putfield 280, 3) := by decide +kernel
theorem dX8_digest_7 : decode cX8_digest 7 = .ok (.iconst 0, 1) := by decide +kernel
theorem dX8_digest_8 : decode cX8_digest 8 = .ok (.istore_n 1, 1) := by decide +kernel
theorem dX8_digest_9 : decode cX8_digest 9 = .ok (.iload_n 1, 1) := by decide +kernel
theorem dX8_digest_10 : decode cX8_digest 10 = .ok (.aload_n 0, 1) := by decide +kernel
theorem dX8_digest_11 : decode cX8_digest 11 = .ok (.getfield 124, 3) := by decide +kernel
theorem dX8_digest_14 : decode cX8_digest 14 = .ok (.if_icmp .ge 34, 3) := by decide +kernel
theorem dX8_digest_17 : decode cX8_digest 17 = .ok (.iconst 0, 1) := by decide +kernel
theorem dX8_digest_18 : decode cX8_digest 18 = .ok (.istore_n 2, 1) := by decide +kernel
theorem dX8_digest_19 : decode cX8_digest 19 = .ok (.iload_n 2, 1) := by decide +kernel
theorem dX8_digest_20 : decode cX8_digest 20 = .ok (.bipush 9, 2) := by decide +kernel
theorem dX8_digest_22 : decode cX8_digest 22 = .ok (.if_icmp .ge 20, 3) := by decide +kernel
theorem dX8_digest_25 : decode cX8_digest 25 = .ok (.aload_n 0, 1) := by decide +kernel
theorem dX8_digest_26 : decode cX8_digest 26 = .ok (.aload_n 0, 1) := by decide +kernel
theorem dX8_digest_27 : decode cX8_digest 27 = .ok (.iload_n 1, 1) := by decide +kernel
theorem dX8_digest_28 : decode cX8_digest 28 = .ok (.iload_n 2, 1) := by decide +kernel
theorem dX8_digest_29 : decode cX8_digest 29 = .ok (.invokevirtual 178, 3) := by decide +kernel
theorem dX8_digest_32 : decode cX8_digest 32 = .ok (.i2l, 1) := by decide +kernel
theorem dX8_digest_33 : decode cX8_digest 33 = .ok (.invokevirtual 285, 3) := by decide +kernel
theorem dX8_digest_36 : decode cX8_digest 36 = .ok (.iinc 2 1, 3) := by decide +kernel
theorem dX8_digest_39 : decode cX8_digest 39 = .ok (.goto (-20), 3) := by decide +kernel
theorem dX8_digest_42 : decode cX8_digest 42 = .ok (.iinc 1 1, 3) := by decide +kernel
theorem dX8_digest_45 : decode cX8_digest 45 = .ok (.goto (-36), 3) := by decide +kernel
theorem dX8_digest_48 : decode cX8_digest 48 = .ok (.iconst 0, 1) := by decide +kernel
theorem dX8_digest_49 : decode cX8_digest 49 = .ok (.istore_n 1, 1) := by decide +kernel
theorem dX8_digest_50 : decode cX8_digest 50 = .ok (.iload_n 1, 1) := by decide +kernel
theorem dX8_digest_51 : decode cX8_digest 51 = .ok (.bipush 12, 2) := by decide +kernel
theorem dX8_digest_53 : decode cX8_digest 53 = .ok (.if_icmp .ge 40, 3) := by decide +kernel
theorem dX8_digest_56 : decode cX8_digest 56 = .ok (.aload_n 0, 1) := by decide +kernel
theorem dX8_digest_57 : decode cX8_digest 57 = .ok (.getfield 124, 3) := by decide +kernel
theorem dX8_digest_60 : decode cX8_digest 60 = .ok (.ifCond .le 33, 3) := by decide +kernel
theorem dX8_digest_63 : decode cX8_digest 63 = .ok (.iconst 0, 1) := by decide +kernel
theorem dX8_digest_64 : decode cX8_digest 64 = .ok (.istore_n 2, 1) := by decide +kernel
theorem dX8_digest_65 : decode cX8_digest 65 = .ok (.iload_n 2, 1) := by decide +kernel
theorem dX8_digest_66 : decode cX8_digest 66 = .ok (.iconst 3, 1) := by decide +kernel
theorem dX8_digest_67 : decode cX8_digest 67 = .ok (.if_icmp .ge 20, 3) := by decide +kernel
theorem dX8_digest_70 : decode cX8_digest 70 = .ok (.aload_n 0, 1) := by decide +kernel
theorem dX8_digest_71 : decode cX8_digest 71 = .ok (.aload_n 0, 1) := by decide +kernel
theorem dX8_digest_72 : decode cX8_digest 72 = .ok (.iload_n 1, 1) := by decide +kernel
theorem dX8_digest_73 : decode cX8_digest 73 = .ok (.iload_n 2, 1) := by decide +kernel
theorem dX8_digest_74 : decode cX8_digest 74 = .ok (.invokevirtual 181, 3) := by decide +kernel
theorem dX8_digest_77 : decode cX8_digest 77 = .ok (.i2l, 1) := by decide +kernel
theorem dX8_digest_78 : decode cX8_digest 78 = .ok (.invokevirtual 285, 3) := by decide +kernel
theorem dX8_digest_81 : decode cX8_digest 81 = .ok (.iinc 2 1, 3) := by decide +kernel
theorem dX8_digest_84 : decode cX8_digest 84 = .ok (.goto (-19), 3) := by decide +kernel
theorem dX8_digest_87 : decode cX8_digest 87 = .ok (.iinc 1 1, 3) := by decide +kernel
theorem dX8_digest_90 : decode cX8_digest 90 = .ok (.goto (-40), 3) := by decide +kernel
theorem dX8_digest_93 : decode cX8_digest 93 = .ok (.iconst 0, 1) := by decide +kernel
theorem dX8_digest_94 : decode cX8_digest 94 = .ok (.istore_n 1, 1) := by decide +kernel
theorem dX8_digest_95 : decode cX8_digest 95 = .ok (.iload_n 1, 1) := by decide +kernel
theorem dX8_digest_96 : decode cX8_digest 96 = .ok (.aload_n 0, 1) := by decide +kernel
theorem dX8_digest_97 : decode cX8_digest 97 = .ok (.getfield 124, 3) := by decide +kernel
theorem dX8_digest_100 : decode cX8_digest 100 = .ok (.if_icmp .ge 19, 3) := by decide +kernel
theorem dX8_digest_103 : decode cX8_digest 103 = .ok (.aload_n 0, 1) := by decide +kernel
theorem dX8_digest_104 : decode cX8_digest 104 = .ok (.aload_n 0, 1) := by decide +kernel
theorem dX8_digest_105 : decode cX8_digest 105 = .ok (.iload_n 1, 1) := by decide +kernel
theorem dX8_digest_106 : decode cX8_digest 106 = .ok (.invokevirtual 230, 3) := by decide +kernel
theorem dX8_digest_109 : decode cX8_digest 109 = .ok (.i2l, 1) := by decide +kernel
theorem dX8_digest_110 : decode cX8_digest 110 = .ok (.invokevirtual 285, 3) := by decide +kernel
theorem dX8_digest_113 : decode cX8_digest 113 = .ok (.iinc 1 1, 3) := by decide +kernel
theorem dX8_digest_116 : decode cX8_digest 116 = .ok (.goto (-21), 3) := by decide +kernel
theorem dX8_digest_119 : decode cX8_digest 119 = .ok (.iconst 0, 1) := by decide +kernel
theorem dX8_digest_120 : decode cX8_digest 120 = .ok (.istore_n 1, 1) := by decide +kernel
theorem dX8_digest_121 : decode cX8_digest 121 = .ok (.iload_n 1, 1) := by decide +kernel
theorem dX8_digest_122 : decode cX8_digest 122 = .ok (.aload_n 0, 1) := by decide +kernel
theorem dX8_digest_123 : decode cX8_digest 123 = .ok (.getfield 90, 3) := by decide +kernel
theorem dX8_digest_126 : decode cX8_digest 126 = .ok (.if_icmp .ge 20, 3) := by decide +kernel
theorem dX8_digest_129 : decode cX8_digest 129 = .ok (.aload_n 0, 1) := by decide +kernel
theorem dX8_digest_130 : decode cX8_digest 130 = .ok (.aload_n 0, 1) := by decide +kernel
theorem dX8_digest_131 : decode cX8_digest 131 = .ok (.getfield 40, 3) := by decide +kernel
theorem dX8_digest_134 : decode cX8_digest 134 = .ok (.iload_n 1, 1) := by decide +kernel
theorem dX8_digest_135 : decode cX8_digest 135 = .ok (.baload, 1) := by decide +kernel
theorem dX8_digest_136 : decode cX8_digest 136 = .ok (.i2l, 1) := by decide +kernel
theorem dX8_digest_137 : decode cX8_digest 137 = .ok (.invokevirtual 285, 3) := by decide +kernel
theorem dX8_digest_140 : decode cX8_digest 140 = .ok (.iinc 1 1, 3) := by decide +kernel
theorem dX8_digest_143 : decode cX8_digest 143 = .ok (.goto (-22), 3) := by decide +kernel
theorem dX8_digest_146 : decode cX8_digest 146 = .ok (.iconst 0, 1) := by decide +kernel
theorem dX8_digest_147 : decode cX8_digest 147 = .ok (.istore_n 1, 1) := by decide +kernel
theorem dX8_digest_148 : decode cX8_digest 148 = .ok (.iload_n 1, 1) := by decide +kernel
theorem dX8_digest_149 : decode cX8_digest 149 = .ok (.bipush 10, 2) := by decide +kernel
theorem dX8_digest_151 : decode cX8_digest 151 = .ok (.if_icmp .ge 19, 3) := by decide +kernel
theorem dX8_digest_154 : decode cX8_digest 154 = .ok (.aload_n 0, 1) := by decide +kernel
theorem dX8_digest_155 : decode cX8_digest 155 = .ok (.aload_n 0, 1) := by decide +kernel
theorem dX8_digest_156 : decode cX8_digest 156 = .ok (.iload_n 1, 1) := by decide +kernel
theorem dX8_digest_157 : decode cX8_digest 157 = .ok (.invokevirtual 275, 3) := by decide +kernel
theorem dX8_digest_160 : decode cX8_digest 160 = .ok (.i2l, 1) := by decide +kernel
theorem dX8_digest_161 : decode cX8_digest 161 = .ok (.invokevirtual 285, 3) := by decide +kernel
theorem dX8_digest_164 : decode cX8_digest 164 = .ok (.iinc 1 1, 3) := by decide +kernel
theorem dX8_digest_167 : decode cX8_digest 167 = .ok (.goto (-19), 3) := by decide +kernel
theorem dX8_digest_170 : decode cX8_digest 170 = .ok (.aload_n 0, 1) := by decide +kernel
theorem dX8_digest_171 : decode cX8_digest 171 = .ok (.getfield 280, 3) := by decide +kernel
theorem dX8_digest_174 : decode cX8_digest 174 = .ok (.lreturn, 1) := by decide +kernel
theorem dJ11_isValidCodePoint_9a6ad_0 : decode cJ11_isValidCodePoint_9a6ad 0 = .ok (.iload_n 0, 1) := by decide +kernel
theorem dJ11_isValidCodePoint_9a6ad_1 : decode cJ11_isValidCodePoint_9a6ad 1 = .ok (.bipush 16, 2) := by decide +kernel
theorem dJ11_isValidCodePoint_9a6ad_3 : decode cJ11_isValidCodePoint_9a6ad 3 = .ok (.iushr, 1) := by decide +kernel
theorem dJ11_isValidCodePoint_9a6ad_4 : decode cJ11_isValidCodePoint_9a6ad 4 = .ok (.istore_n 1, 1) := by decide +kernel
theorem dJ11_isValidCodePoint_9a6ad_5 : decode cJ11_isValidCodePoint_9a6ad 5 = .ok (.iload_n 1, 1) := by decide +kernel
theorem dJ11_isValidCodePoint_9a6ad_6 : decode cJ11_isValidCodePoint_9a6ad 6 = .ok (.bipush 17, 2) := by decide +kernel
theorem dJ11_isValidCodePoint_9a6ad_8 : decode cJ11_isValidCodePoint_9a6ad 8 = .ok (.if_icmp .ge 7, 3) := by decide +kernel
theorem dJ11_isValidCodePoint_9a6ad_11 : decode cJ11_isValidCodePoint_9a6ad 11 = .ok (.iconst 1, 1) := by decide +kernel
theorem dJ11_isValidCodePoint_9a6ad_12 : decode cJ11_isValidCodePoint_9a6ad 12 = .ok (.goto 4, 3) := by decide +kernel
theorem dJ11_isValidCodePoint_9a6ad_15 : decode cJ11_isValidCodePoint_9a6ad 15 = .ok (.iconst 0, 1) := by decide +kernel
theorem dJ11_isValidCodePoint_9a6ad_16 : decode cJ11_isValidCodePoint_9a6ad 16 = .ok (.ireturn, 1) := by decide +kernel
theorem dJ11_highSurrogate_5068e_0 : decode cJ11_highSurrogate_5068e 0 = .ok (.iload_n 0, 1) := by decide +kernel
theorem dJ11_highSurrogate_5068e_1 : decode cJ11_highSurrogate_5068e 1 = .ok (.bipush 10, 2) := by decide +kernel
theorem dJ11_highSurrogate_5068e_3 : decode cJ11_highSurrogate_5068e 3 = .ok (.iushr, 1) := by decide +kernel
theorem dJ11_highSurrogate_5068e_4 : decode cJ11_highSurrogate_5068e 4 = .ok (.ldc 110, 2) := by decide +kernel
theorem dJ11_highSurrogate_5068e_6 : decode cJ11_highSurrogate_5068e 6 = .ok (.iadd, 1) := by decide +kernel
theorem dJ11_highSurrogate_5068e_7 : decode cJ11_highSurrogate_5068e 7 = .ok (.i2c, 1) := by decide +kernel
theorem dJ11_highSurrogate_5068e_8 : decode cJ11_highSurrogate_5068e 8 = .ok (.ireturn, 1) := by decide +kernel
theorem dJ11_lowSurrogate_5068e_0 : decode cJ11_lowSurrogate_5068e 0 = .ok (.iload_n 0, 1) := by decide +kernel
theorem dJ11_lowSurrogate_5068e_1 : decode cJ11_lowSurrogate_5068e 1 = .ok (.sipush 1023, 3) := by decide +kernel
theorem dJ11_lowSurrogate_5068e_4 : decode cJ11_lowSurrogate_5068e 4 = .ok (.iand, 1) := by decide +kernel
theorem dJ11_lowSurrogate_5068e_5 : decode cJ11_lowSurrogate_5068e 5 = .ok (.ldc 76, 2) := by decide +kernel
theorem dJ11_lowSurrogate_5068e_7 : decode cJ11_lowSurrogate_5068e 7 = .ok (.iadd, 1) := by decide +kernel
theorem dJ11_lowSurrogate_5068e_8 : decode cJ11_lowSurrogate_5068e 8 = .ok (.i2c, 1) := by decide +kernel
theorem dJ11_lowSurrogate_5068e_9 : decode cJ11_lowSurrogate_5068e 9 = .ok (.ireturn, 1) := by decide +kernel
theorem dJ6_bitCount_0f7a4_0 : decode cJ6_bitCount_0f7a4 0 = .ok (.iload_n 0, 1) := by decide +kernel
theorem dJ6_bitCount_0f7a4_1 : decode cJ6_bitCount_0f7a4 1 = .ok (.iload_n 0, 1) := by decide +kernel
theorem dJ6_bitCount_0f7a4_2 : decode cJ6_bitCount_0f7a4 2 = .ok (.iconst 1, 1) := by decide +kernel
theorem dJ6_bitCount_0f7a4_3 : decode cJ6_bitCount_0f7a4 3 = .ok (.iushr, 1) := by decide +kernel
theorem dJ6_bitCount_0f7a4_4 : decode cJ6_bitCount_0f7a4 4 = .ok (.ldc_w 265, 3) := by decide +kernel
theorem dJ6_bitCount_0f7a4_7 : decode cJ6_bitCount_0f7a4 7 = .ok (.iand, 1) := by decide +kernel
theorem dJ6_bitCount_0f7a4_8 : decode cJ6_bitCount_0f7a4 8 = .ok (.isub, 1) := by decide +kernel
theorem dJ6_bitCount_0f7a4_9 : decode cJ6_bitCount_0f7a4 9 = .ok (.istore_n 0, 1) := by decide +kernel
theorem dJ6_bitCount_0f7a4_10 : decode cJ6_bitCount_0f7a4 10 = .ok (.iload_n 0, 1) := by decide +kernel
theorem dJ6_bitCount_0f7a4_11 : decode cJ6_bitCount_0f7a4 11 = .ok (.ldc_w 266, 3) := by decide +kernel
theorem dJ6_bitCount_0f7a4_14 : decode cJ6_bitCount_0f7a4 14 = .ok (.iand, 1) := by decide +kernel
theorem dJ6_bitCount_0f7a4_15 : decode cJ6_bitCount_0f7a4 15 = .ok (.iload_n 0, 1) := by decide +kernel
theorem dJ6_bitCount_0f7a4_16 : decode cJ6_bitCount_0f7a4 16 = .ok (.iconst 2, 1) := by decide +kernel
theorem dJ6_bitCount_0f7a4_17 : decode cJ6_bitCount_0f7a4 17 = .ok (.iushr, 1) := by decide +kernel
theorem dJ6_bitCount_0f7a4_18 : decode cJ6_bitCount_0f7a4 18 = .ok (.ldc_w 266, 3) := by decide +kernel
theorem dJ6_bitCount_0f7a4_21 : decode cJ6_bitCount_0f7a4 21 = .ok (.iand, 1) := by decide +kernel
theorem dJ6_bitCount_0f7a4_22 : decode cJ6_bitCount_0f7a4 22 = .ok (.iadd, 1) := by decide +kernel
theorem dJ6_bitCount_0f7a4_23 : decode cJ6_bitCount_0f7a4 23 = .ok (.istore_n 0, 1) := by decide +kernel
theorem dJ6_bitCount_0f7a4_24 : decode cJ6_bitCount_0f7a4 24 = .ok (.iload_n 0, 1) := by decide +kernel
theorem dJ6_bitCount_0f7a4_25 : decode cJ6_bitCount_0f7a4 25 = .ok (.iload_n 0, 1) := by decide +kernel
theorem dJ6_bitCount_0f7a4_26 : decode cJ6_bitCount_0f7a4 26 = .ok (.iconst 4, 1) := by decide +kernel
theorem dJ6_bitCount_0f7a4_27 : decode cJ6_bitCount_0f7a4 27 = .ok (.iushr, 1) := by decide +kernel
theorem dJ6_bitCount_0f7a4_28 : decode cJ6_bitCount_0f7a4 28 = .ok (.iadd, 1) := by decide +kernel
theorem dJ6_bitCount_0f7a4_29 : decode cJ6_bitCount_0f7a4 29 = .ok (.ldc_w 267, 3) := by decide +kernel
theorem dJ6_bitCount_0f7a4_32 : decode cJ6_bitCount_0f7a4 32 = .ok (.iand, 1) := by decide +kernel
theorem dJ6_bitCount_0f7a4_33 : decode cJ6_bitCount_0f7a4 33 = .ok (.istore_n 0, 1) := by decide +kernel
theorem dJ6_bitCount_0f7a4_34 : decode cJ6_bitCount_0f7a4 34 = .ok (.iload_n 0, 1) := by decide +kernel
theorem dJ6_bitCount_0f7a4_35 : decode cJ6_bitCount_0f7a4 35 = .ok (.iload_n 0, 1) := by decide +kernel
theorem dJ6_bitCount_0f7a4_36 : decode cJ6_bitCount_0f7a4 36 = .ok (.bipush 8, 2) := by decide +kernel
theorem dJ6_bitCount_0f7a4_38 : decode cJ6_bitCount_0f7a4 38 = .ok (.iushr, 1) := by decide +kernel
theorem dJ6_bitCount_0f7a4_39 : decode cJ6_bitCount_0f7a4 39 = .ok (.iadd, 1) := by decide +kernel
theorem dJ6_bitCount_0f7a4_40 : decode cJ6_bitCount_0f7a4 40 = .ok (.istore_n 0, 1) := by decide +kernel
theorem dJ6_bitCount_0f7a4_41 : decode cJ6_bitCount_0f7a4 41 = .ok (.iload_n 0, 1) := by decide +kernel
theorem dJ6_bitCount_0f7a4_42 : decode cJ6_bitCount_0f7a4 42 = .ok (.iload_n 0, 1) := by decide +kernel
theorem dJ6_bitCount_0f7a4_43 : decode cJ6_bitCount_0f7a4 43 = .ok (.bipush 16, 2) := by decide +kernel
theorem dJ6_bitCount_0f7a4_45 : decode cJ6_bitCount_0f7a4 45 = .ok (.iushr, 1) := by decide +kernel
theorem dJ6_bitCount_0f7a4_46 : decode cJ6_bitCount_0f7a4 46 = .ok (.iadd, 1) := by decide +kernel
theorem dJ6_bitCount_0f7a4_47 : decode cJ6_bitCount_0f7a4 47 = .ok (.istore_n 0, 1) := by decide +kernel
theorem dJ6_bitCount_0f7a4_48 : decode cJ6_bitCount_0f7a4 48 = .ok (.iload_n 0, 1) := by decide +kernel
theorem dJ6_bitCount_0f7a4_49 : decode cJ6_bitCount_0f7a4 49 = .ok (.bipush 63, 2) := by decide +kernel
theorem dJ6_bitCount_0f7a4_51 : decode cJ6_bitCount_0f7a4 51 = .ok (.iand, 1) := by decide +kernel
theorem dJ6_bitCount_0f7a4_52 : decode cJ6_bitCount_0f7a4 52 = .ok (.ireturn, 1) := by decide +kernel
theorem dJ9_max_7cf53_0 : decode cJ9_max_7cf53 0 = .ok (.iload_n 0, 1) := by decide +kernel
theorem dJ9_max_7cf53_1 : decode cJ9_max_7cf53 1 = .ok (.iload_n 1, 1) := by decide +kernel
theorem dJ9_max_7cf53_2 : decode cJ9_max_7cf53 2 = .ok (.if_icmp .lt 7, 3) := by decide +kernel
theorem dJ9_max_7cf53_5 : decode cJ9_max_7cf53 5 = .ok (.iload_n 0, 1) := by decide +kernel
theorem dJ9_max_7cf53_6 : decode cJ9_max_7cf53 6 = .ok (.goto 4, 3) := by decide +kernel
theorem dJ9_max_7cf53_9 : decode cJ9_max_7cf53 9 = .ok (.iload_n 1, 1) := by decide +kernel
theorem dJ9_max_7cf53_10 : decode cJ9_max_7cf53 10 = .ok (.ireturn, 1) := by decide +kernel
theorem dJ9_min_7cf53_0 : decode cJ9_min_7cf53 0 = .ok (.iload_n 0, 1) := by decide +kernel
theorem dJ9_min_7cf53_1 : decode cJ9_min_7cf53 1 = .ok (.iload_n 1, 1) := by decide +kernel
theorem dJ9_min_7cf53_2 : decode cJ9_min_7cf53 2 = .ok (.if_icmp .gt 7, 3) := by decide +kernel
theorem dJ9_min_7cf53_5 : decode cJ9_min_7cf53 5 = .ok (.iload_n 0, 1) := by decide +kernel
theorem dJ9_min_7cf53_6 : decode cJ9_min_7cf53 6 = .ok (.goto 4, 3) := by decide +kernel
theorem dJ9_min_7cf53_9 : decode cJ9_min_7cf53 9 = .ok (.iload_n 1, 1) := by decide +kernel
theorem dJ9_min_7cf53_10 : decode cJ9_min_7cf53 10 = .ok (.ireturn, 1) := by decide +kernel
theorem dJ0_length_8abf5_0 : decode cJ0_length_8abf5 0 = .ok (.aload_n 0, 1) := by decide +kernel
theorem dJ0_length_8abf5_1 : decode cJ0_length_8abf5 1 = .ok (.getfield 9, 3) := by decide +kernel
theorem dJ0_length_8abf5_4 : decode cJ0_length_8abf5 4 = .ok (.arraylength, 1) := by decide +kernel
theorem dJ0_length_8abf5_5 : decode cJ0_length_8abf5 5 = .ok (.aload_n 0, 1) := by decide +kernel
theorem dJ0_length_8abf5_6 : decode cJ0_length_8abf5 6 = .ok (.invokevirtual 335, 3) := by decide +kernel
theorem dJ0_length_8abf5_9 : decode cJ0_length_8abf5 9 = .ok (.ishr, 1) := by decide +kernel
theorem dJ0_length_8abf5_10 : decode cJ0_length_8abf5 10 = .ok (.ireturn, 1) := by decide +kernel
theorem dJ0_indexOf_0f7a4_0 : decode cJ0_indexOf_0f7a4 0 = .ok (.aload_n 0, 1) := by decide +kernel
theorem dJ0_indexOf_0f7a4_1 : decode cJ0_indexOf_0f7a4 1 = .ok (.iload_n 1, 1) := by decide +kernel
theorem dJ0_indexOf_0f7a4_2 : decode cJ0_indexOf_0f7a4 2 = .ok (.iconst 0, 1) := by decide +kernel
theorem dJ0_indexOf_0f7a4_3 : decode cJ0_indexOf_0f7a4 3 = .ok (.invokevirtual 633, 3) := by decide +kernel
theorem dJ0_indexOf_0f7a4_6 : decode cJ0_indexOf_0f7a4 6 = .ok (.ireturn, 1) := by decide +kernel
theorem dJ0_indexOf_7cf53_0 : decode cJ0_indexOf_7cf53 0 = .ok (.aload_n 0, 1) := by decide +kernel
theorem dJ0_indexOf_7cf53_1 : decode cJ0_indexOf_7cf53 1 = .ok (.invokevirtual 492, 3) := by decide +kernel
theorem dJ0_indexOf_7cf53_4 : decode cJ0_indexOf_7cf53 4 = .ok (.ifCond .eq 19, 3) := by decide +kernel
theorem dJ0_indexOf_7cf53_7 : decode cJ0_indexOf_7cf53 7 = .ok (.aload_n 0, 1) := by decide +kernel
theorem dJ0_indexOf_7cf53_8 : decode cJ0_indexOf_7cf53 8 = .ok (.getfield 9, 3) := by decide +kernel
theorem dJ0_indexOf_7cf53_11 : decode cJ0_indexOf_7cf53 11 = .ok (.iload_n 1, 1) := by decide +kernel
theorem dJ0_indexOf_7cf53_12 : decode cJ0_indexOf_7cf53 12 = .ok (.iload_n 2, 1) := by decide +kernel
theorem dJ0_indexOf_7cf53_13 : decode cJ0_indexOf_7cf53 13 = .ok (.aload_n 0, 1) := by decide +kernel
theorem dJ0_indexOf_7cf53_14 : decode cJ0_indexOf_7cf53 14 = .ok (.invokevirtual 505, 3) := by decide +kernel
theorem dJ0_indexOf_7cf53_17 : decode cJ0_indexOf_7cf53 17 = .ok (.invokestatic 637, 3) := by decide +kernel
theorem dJ0_indexOf_7cf53_20 : decode cJ0_indexOf_7cf53 20 = .ok (.goto 16, 3) := by decide +kernel
theorem dJ0_indexOf_7cf53_23 : decode cJ0_indexOf_7cf53 23 = .ok (.aload_n 0, 1) := by decide +kernel
theorem dJ0_indexOf_7cf53_24 : decode cJ0_indexOf_7cf53 24 = .ok (.getfield 9, 3) := by decide +kernel
theorem dJ0_indexOf_7cf53_27 : decode cJ0_indexOf_7cf53 27 = .ok (.iload_n 1, 1) := by decide +kernel
theorem dJ0_indexOf_7cf53_28 : decode cJ0_indexOf_7cf53 28 = .ok (.iload_n 2, 1) := by decide +kernel
theorem dJ0_indexOf_7cf53_29 : decode cJ0_indexOf_7cf53 29 = .ok (.aload_n 0, 1) := by decide +kernel
theorem dJ0_indexOf_7cf53_30 : decode cJ0_indexOf_7cf53 30 = .ok (.invokevirtual 505, 3) := by decide +kernel
theorem dJ0_indexOf_7cf53_33 : decode cJ0_indexOf_7cf53 33 = .ok (.invokestatic 640, 3) := by decide +kernel
theorem dJ0_indexOf_7cf53_36 : decode cJ0_indexOf_7cf53 36 = .ok (.ireturn, 1) := by decide +kernel
theorem dJ0_coder_7d493_0 : decode cJ0_coder_7d493 0 = .ok (.getstatic 38, 3) := by decide +kernel
theorem dJ0_coder_7d493_3 : decode cJ0_coder_7d493 3 = .ok (.ifCond .eq 10, 3) := by decide +kernel
theorem dJ0_coder_7d493_6 : decode cJ0_coder_7d493 6 = .ok (.aload_n 0, 1) := by decide +kernel
theorem dJ0_coder_7d493_7 : decode cJ0_coder_7d493 7 = .ok (.getfield 15, 3) := by decide +kernel
theorem dJ0_coder_7d493_10 : decode cJ0_coder_7d493 10 = .ok (.goto 4, 3) := by decide +kernel
theorem dJ0_coder_7d493_13 : decode cJ0_coder_7d493 13 = .ok (.iconst 1, 1) := by decide +kernel
theorem dJ0_coder_7d493_14 : decode cJ0_coder_7d493 14 = .ok (.ireturn, 1) := by decide +kernel
theorem dJ0_isLatin1_aae02_0 : decode cJ0_isLatin1_aae02 0 = .ok (.getstatic 38, 3) := by decide +kernel
theorem dJ0_isLatin1_aae02_3 : decode cJ0_isLatin1_aae02 3 = .ok (.ifCond .eq 14, 3) := by decide +kernel
theorem dJ0_isLatin1_aae02_6 : decode cJ0_isLatin1_aae02 6 = .ok (.aload_n 0, 1) := by decide +kernel
theorem dJ0_isLatin1_aae02_7 : decode cJ0_isLatin1_aae02 7 = .ok (.getfield 15, 3) := by decide +kernel
theorem dJ0_isLatin1_aae02_10 : decode cJ0_isLatin1_aae02 10 = .ok (.ifCond .ne 7, 3) := by decide +kernel
theorem dJ0_isLatin1_aae02_13 : decode cJ0_isLatin1_aae02 13 = .ok (.iconst 1, 1) := by decide +kernel
theorem dJ0_isLatin1_aae02_14 : decode cJ0_isLatin1_aae02 14 = .ok (.goto 4, 3) := by decide +kernel
theorem dJ0_isLatin1_aae02_17 : decode cJ0_isLatin1_aae02 17 = .ok (.iconst 0, 1) := by decide +kernel
theorem dJ0_isLatin1_aae02_18 : decode cJ0_isLatin1_aae02 18 = .ok (.ireturn, 1) := by decide +kernel
theorem dJ0_checkBoundsBeginEnd_23922_0 : decode cJ0_checkBoundsBeginEnd_23922 0 = .ok (.iload_n 0, 1) := by decide +kernel
theorem dJ0_checkBoundsBeginEnd_23922_1 : decode cJ0_checkBoundsBeginEnd_23922 1 = .ok (.iload_n 1, 1) := by decide +kernel
theorem dJ0_checkBoundsBeginEnd_23922_2 : decode cJ0_checkBoundsBeginEnd_23922 2 = .ok (.iload_n 2, 1) := by decide +kernel
theorem dJ0_checkBoundsBeginEnd_23922_3 : decode cJ0_checkBoundsBeginEnd_23922 3 = .ok (.getstatic 1053, 3) := by decide +kernel
theorem dJ0_checkBoundsBeginEnd_23922_6 : decode cJ0_checkBoundsBeginEnd_23922 6 = .ok (.invokestatic 1062, 3) := by decide +kernel
theorem dJ0_checkBoundsBeginEnd_23922_9 : decode cJ0_checkBoundsBeginEnd_23922 9 = .ok (.pop, 1) := by decide +kernel
theorem dJ0_checkBoundsBeginEnd_23922_10 : decode cJ0_checkBoundsBeginEnd_23922 10 = .ok (.return_, 1) := by decide +kernel
theorem dJ1_canEncode_9a6ad_0 : decode cJ1_canEncode_9a6ad 0 = .ok (.iload_n 0, 1) := by decide +kernel
theorem dJ1_canEncode_9a6ad_1 : decode cJ1_canEncode_9a6ad 1 = .ok (.ifCond .lt 14, 3) := by decide +kernel
theorem dJ1_canEncode_9a6ad_4 : decode cJ1_canEncode_9a6ad 4 = .ok (.iload_n 0, 1) := by decide +kernel
theorem dJ1_canEncode_9a6ad_5 : decode cJ1_canEncode_9a6ad 5 = .ok (.sipush 255, 3) := by decide +kernel
theorem dJ1_canEncode_9a6ad_8 : decode cJ1_canEncode_9a6ad 8 = .ok (.if_icmp .gt 7, 3) := by decide +kernel
theorem dJ1_canEncode_9a6ad_11 : decode cJ1_canEncode_9a6ad 11 = .ok (.iconst 1, 1) := by decide +kernel
theorem dJ1_canEncode_9a6ad_12 : decode cJ1_canEncode_9a6ad 12 = .ok (.goto 4, 3) := by decide +kernel
theorem dJ1_canEncode_9a6ad_15 : decode cJ1_canEncode_9a6ad 15 = .ok (.iconst 0, 1) := by decide +kernel
theorem dJ1_canEncode_9a6ad_16 : decode cJ1_canEncode_9a6ad 16 = .ok (.ireturn, 1) := by decide +kernel
theorem dJ1_indexOf_4cfef_0 : decode cJ1_indexOf_4cfef 0 = .ok (.iload_n 1, 1) := by decide +kernel
theorem dJ1_indexOf_4cfef_1 : decode cJ1_indexOf_4cfef 1 = .ok (.invokestatic 88, 3) := by decide +kernel
theorem dJ1_indexOf_4cfef_4 : decode cJ1_indexOf_4cfef 4 = .ok (.ifCond .ne 5, 3) := by decide +kernel
theorem dJ1_indexOf_4cfef_7 : decode cJ1_indexOf_4cfef 7 = .ok (.iconst (-1), 1) := by decide +kernel
theorem dJ1_indexOf_4cfef_8 : decode cJ1_indexOf_4cfef 8 = .ok (.ireturn, 1) := by decide +kernel
theorem dJ1_indexOf_4cfef_9 : decode cJ1_indexOf_4cfef 9 = .ok (.iload_n 2, 1) := by decide +kernel
theorem dJ1_indexOf_4cfef_10 : decode cJ1_indexOf_4cfef 10 = .ok (.iconst 0, 1) := by decide +kernel
theorem dJ1_indexOf_4cfef_11 : decode cJ1_indexOf_4cfef 11 = .ok (.invokestatic 92, 3) := by decide +kernel
theorem dJ1_indexOf_4cfef_14 : decode cJ1_indexOf_4cfef 14 = .ok (.istore_n 2, 1) := by decide +kernel
theorem dJ1_indexOf_4cfef_15 : decode cJ1_indexOf_4cfef 15 = .ok (.iload_n 3, 1) := by decide +kernel
theorem dJ1_indexOf_4cfef_16 : decode cJ1_indexOf_4cfef 16 = .ok (.aload_n 0, 1) := by decide +kernel
theorem dJ1_indexOf_4cfef_17 : decode cJ1_indexOf_4cfef 17 = .ok (.arraylength, 1) := by decide +kernel
theorem dJ1_indexOf_4cfef_18 : decode cJ1_indexOf_4cfef 18 = .ok (.invokestatic 38, 3) := by decide +kernel
theorem dJ1_indexOf_4cfef_21 : decode cJ1_indexOf_4cfef 21 = .ok (.istore_n 3, 1) := by decide +kernel
theorem dJ1_indexOf_4cfef_22 : decode cJ1_indexOf_4cfef 22 = .ok (.iload_n 2, 1) := by decide +kernel
theorem dJ1_indexOf_4cfef_23 : decode cJ1_indexOf_4cfef 23 = .ok (.iload_n 3, 1) := by decide +kernel
theorem dJ1_indexOf_4cfef_24 : decode cJ1_indexOf_4cfef 24 = .ok (.if_icmp .lt 5, 3) := by decide +kernel
theorem dJ1_indexOf_4cfef_27 : decode cJ1_indexOf_4cfef 27 = .ok (.iconst (-1), 1) := by decide +kernel
theorem dJ1_indexOf_4cfef_28 : decode cJ1_indexOf_4cfef 28 = .ok (.ireturn, 1) := by decide +kernel
theorem dJ1_indexOf_4cfef_29 : decode cJ1_indexOf_4cfef 29 = .ok (.aload_n 0, 1) := by decide +kernel
theorem dJ1_indexOf_4cfef_30 : decode cJ1_indexOf_4cfef 30 = .ok (.iload_n 1, 1) := by decide +kernel
theorem dJ1_indexOf_4cfef_31 : decode cJ1_indexOf_4cfef 31 = .ok (.iload_n 2, 1) := by decide +kernel
theorem dJ1_indexOf_4cfef_32 : decode cJ1_indexOf_4cfef 32 = .ok (.iload_n 3, 1) := by decide +kernel
theorem dJ1_indexOf_4cfef_33 : decode cJ1_indexOf_4cfef 33 = .ok (.invokestatic 95, 3) := by decide +kernel
theorem dJ1_indexOf_4cfef_36 : decode cJ1_indexOf_4cfef 36 = .ok (.ireturn, 1) := by decide +kernel
theorem dJ1_indexOfChar_4cfef_0 : decode cJ1_indexOfChar_4cfef 0 = .ok (.iload_n 1, 1) := by decide +kernel
theorem dJ1_indexOfChar_4cfef_1 : decode cJ1_indexOfChar_4cfef 1 = .ok (.i2b, 1) := by decide +kernel
theorem dJ1_indexOfChar_4cfef_2 : decode cJ1_indexOfChar_4cfef 2 = .ok (.istore 4, 2) := by decide +kernel
theorem dJ1_indexOfChar_4cfef_4 : decode cJ1_indexOfChar_4cfef 4 = .ok (.iload_n 2, 1) := by decide +kernel
theorem dJ1_indexOfChar_4cfef_5 : decode cJ1_indexOfChar_4cfef 5 = .ok (.istore 5, 2) := by decide +kernel
theorem dJ1_indexOfChar_4cfef_7 : decode cJ1_indexOfChar_4cfef 7 = .ok (.iload 5, 2) := by decide +kernel
theorem dJ1_indexOfChar_4cfef_9 : decode cJ1_indexOfChar_4cfef 9 = .ok (.iload_n 3, 1) := by decide +kernel
theorem dJ1_indexOfChar_4cfef_10 : decode cJ1_indexOfChar_4cfef 10 = .ok (.if_icmp .ge 21, 3) := by decide +kernel
theorem dJ1_indexOfChar_4cfef_13 : decode cJ1_indexOfChar_4cfef 13 = .ok (.aload_n 0, 1) := by decide +kernel
theorem dJ1_indexOfChar_4cfef_14 : decode cJ1_indexOfChar_4cfef 14 = .ok (.iload 5, 2) := by decide +kernel
theorem dJ1_indexOfChar_4cfef_16 : decode cJ1_indexOfChar_4cfef 16 = .ok (.baload, 1) := by decide +kernel
theorem dJ1_indexOfChar_4cfef_17 : decode cJ1_indexOfChar_4cfef 17 = .ok (.iload 4, 2) := by decide +kernel
theorem dJ1_indexOfChar_4cfef_19 : decode cJ1_indexOfChar_4cfef 19 = .ok (.if_icmp .ne 6, 3) := by decide +kernel
theorem dJ1_indexOfChar_4cfef_22 : decode cJ1_indexOfChar_4cfef 22 = .ok (.iload 5, 2) := by decide +kernel
theorem dJ1_indexOfChar_4cfef_24 : decode cJ1_indexOfChar_4cfef 24 = .ok (.ireturn, 1) := by decide +kernel
theorem dJ1_indexOfChar_4cfef_25 : decode cJ1_indexOfChar_4cfef 25 = .ok (.iinc 5 1, 3) := by decide +kernel
theorem dJ1_indexOfChar_4cfef_28 : decode cJ1_indexOfChar_4cfef 28 = .ok (.goto (-21), 3) := by decide +kernel
theorem dJ1_indexOfChar_4cfef_31 : decode cJ1_indexOfChar_4cfef 31 = .ok (.iconst (-1), 1) := by decide +kernel
theorem dJ1_indexOfChar_4cfef_32 : decode cJ1_indexOfChar_4cfef 32 = .ok (.ireturn, 1) := by decide +kernel
theorem dJ2_getChar_3b067_0 : decode cJ2_getChar_3b067 0 = .ok (.getstatic 44, 3) := by decide +kernel
theorem dJ2_getChar_3b067_3 : decode cJ2_getChar_3b067 3 = .ok (.ifCond .ne 25, 3) := by decide +kernel
theorem dJ2_getChar_3b067_6 : decode cJ2_getChar_3b067 6 = .ok (.iload_n 1, 1) := by decide +kernel
theorem dJ2_getChar_3b067_7 : decode cJ2_getChar_3b067 7 = .ok (.ifCond .lt 11, 3) := by decide +kernel
theorem dJ2_getChar_3b067_10 : decode cJ2_getChar_3b067 10 = .ok (.iload_n 1, 1) := by decide +kernel
theorem dJ2_getChar_3b067_11 : decode cJ2_getChar_3b067 11 = .ok (.aload_n 0, 1) := by decide +kernel
theorem dJ2_getChar_3b067_12 : decode cJ2_getChar_3b067 12 = .ok (.invokestatic 48, 3) := by decide +kernel
theorem dJ2_getChar_3b067_15 : decode cJ2_getChar_3b067 15 = .ok (.if_icmp .lt 13, 3) := by decide +kernel
theorem dJ2_getChar_3b067_18 : decode cJ2_getChar_3b067 18 = .ok (.new 52, 3) := by decide +kernel
theorem dJ2_getChar_3b067_21 : decode cJ2_getChar_3b067 21 = .ok (.dup, 1) := by decide +kernel
theorem dJ2_getChar_3b067_22 : decode cJ2_getChar_3b067 22 = .ok (.ldc 54, 2) := by decide +kernel
theorem dJ2_getChar_3b067_24 : decode cJ2_getChar_3b067 24 = .ok (.invokespecial 56, 3) := by decide +kernel
theorem dJ2_getChar_3b067_27 : decode cJ2_getChar_3b067 27 = .ok (.athrow, 1) := by decide +kernel
theorem dJ2_getChar_3b067_28 : decode cJ2_getChar_3b067 28 = .ok (.iload_n 1, 1) := by decide +kernel
theorem dJ2_getChar_3b067_29 : decode cJ2_getChar_3b067 29 = .ok (.iconst 1, 1) := by decide +kernel
theorem dJ2_getChar_3b067_30 : decode cJ2_getChar_3b067 30 = .ok (.ishl, 1) := by decide +kernel
theorem dJ2_getChar_3b067_31 : decode cJ2_getChar_3b067 31 = .ok (.istore_n 1, 1) := by decide +kernel
theorem dJ2_getChar_3b067_32 : decode cJ2_getChar_3b067 32 = .ok (.aload_n 0, 1) := by decide +kernel
theorem dJ2_getChar_3b067_33 : decode cJ2_getChar_3b067 33 = .ok (.iload_n 1, 1) := by decide +kernel
theorem dJ2_getChar_3b067_34 : decode cJ2_getChar_3b067 34 = .ok (.iinc 1 1, 3) := by decide +kernel
theorem dJ2_getChar_3b067_37 : decode cJ2_getChar_3b067 37 = .ok (.baload, 1) := by decide +kernel
theorem dJ2_getChar_3b067_38 : decode cJ2_getChar_3b067 38 = .ok (.sipush 255, 3) := by decide +kernel
theorem dJ2_getChar_3b067_41 : decode cJ2_getChar_3b067 41 = .ok (.iand, 1) := by decide +kernel
theorem dJ2_getChar_3b067_42 : decode cJ2_getChar_3b067 42 = .ok (.getstatic 59, 3) := by decide +kernel
theorem dJ2_getChar_3b067_45 : decode cJ2_getChar_3b067 45 = .ok (.ishl, 1) := by decide +kernel
theorem dJ2_getChar_3b067_46 : decode cJ2_getChar_3b067 46 = .ok (.aload_n 0, 1) := by decide +kernel
theorem dJ2_getChar_3b067_47 : decode cJ2_getChar_3b067 47 = .ok (.iload_n 1, 1) := by decide +kernel
theorem dJ2_getChar_3b067_48 : decode cJ2_getChar_3b067 48 = .ok (.baload, 1) := by decide +kernel
theorem dJ2_getChar_3b067_49 : decode cJ2_getChar_3b067 49 = .ok (.sipush 255, 3) := by decide +kernel
theorem dJ2_getChar_3b067_52 : decode cJ2_getChar_3b067 52 = .ok (.iand, 1) := by decide +kernel
theorem dJ2_getChar_3b067_53 : decode cJ2_getChar_3b067 53 = .ok (.getstatic 63, 3) := by decide +kernel
theorem dJ2_getChar_3b067_56 : decode cJ2_getChar_3b067 56 = .ok (.ishl, 1) := by decide +kernel
theorem dJ2_getChar_3b067_57 : decode cJ2_getChar_3b067 57 = .ok (.ior, 1) := by decide +kernel
theorem dJ2_getChar_3b067_58 : decode cJ2_getChar_3b067 58 = .ok (.i2c, 1) := by decide +kernel
theorem dJ2_getChar_3b067_59 : decode cJ2_getChar_3b067 59 = .ok (.ireturn, 1) := by decide +kernel
theorem dJ2_length_9d52b_0 : decode cJ2_length_9d52b 0 = .ok (.aload_n 0, 1) := by decide +kernel
theorem dJ2_length_9d52b_1 : decode cJ2_length_9d52b 1 = .ok (.arraylength, 1) := by decide +kernel
theorem dJ2_length_9d52b_2 : decode cJ2_length_9d52b 2 = .ok (.iconst 1, 1) := by decide +kernel
theorem dJ2_length_9d52b_3 : decode cJ2_length_9d52b 3 = .ok (.ishr, 1) := by decide +kernel
theorem dJ2_length_9d52b_4 : decode cJ2_length_9d52b 4 = .ok (.ireturn, 1) := by decide +kernel
theorem dJ2_indexOf_4cfef_0 : decode cJ2_indexOf_4cfef 0 = .ok (.iload_n 2, 1) := by decide +kernel
theorem dJ2_indexOf_4cfef_1 : decode cJ2_indexOf_4cfef 1 = .ok (.iconst 0, 1) := by decide +kernel
theorem dJ2_indexOf_4cfef_2 : decode cJ2_indexOf_4cfef 2 = .ok (.invokestatic 224, 3) := by decide +kernel
theorem dJ2_indexOf_4cfef_5 : decode cJ2_indexOf_4cfef 5 = .ok (.istore_n 2, 1) := by decide +kernel
theorem dJ2_indexOf_4cfef_6 : decode cJ2_indexOf_4cfef 6 = .ok (.iload_n 3, 1) := by decide +kernel
theorem dJ2_indexOf_4cfef_7 : decode cJ2_indexOf_4cfef 7 = .ok (.aload_n 0, 1) := by decide +kernel
theorem dJ2_indexOf_4cfef_8 : decode cJ2_indexOf_4cfef 8 = .ok (.arraylength, 1) := by decide +kernel
theorem dJ2_indexOf_4cfef_9 : decode cJ2_indexOf_4cfef 9 = .ok (.iconst 1, 1) := by decide +kernel
theorem dJ2_indexOf_4cfef_10 : decode cJ2_indexOf_4cfef 10 = .ok (.ishr, 1) := by decide +kernel
theorem dJ2_indexOf_4cfef_11 : decode cJ2_indexOf_4cfef 11 = .ok (.invokestatic 183, 3) := by decide +kernel
theorem dJ2_indexOf_4cfef_14 : decode cJ2_indexOf_4cfef 14 = .ok (.istore_n 3, 1) := by decide +kernel
theorem dJ2_indexOf_4cfef_15 : decode cJ2_indexOf_4cfef 15 = .ok (.iload_n 2, 1) := by decide +kernel
theorem dJ2_indexOf_4cfef_16 : decode cJ2_indexOf_4cfef 16 = .ok (.iload_n 3, 1) := by decide +kernel
theorem dJ2_indexOf_4cfef_17 : decode cJ2_indexOf_4cfef 17 = .ok (.if_icmp .lt 5, 3) := by decide +kernel
theorem dJ2_indexOf_4cfef_20 : decode cJ2_indexOf_4cfef 20 = .ok (.iconst (-1), 1) := by decide +kernel
theorem dJ2_indexOf_4cfef_21 : decode cJ2_indexOf_4cfef 21 = .ok (.ireturn, 1) := by decide +kernel
theorem dJ2_indexOf_4cfef_22 : decode cJ2_indexOf_4cfef 22 = .ok (.iload_n 1, 1) := by decide +kernel
theorem dJ2_indexOf_4cfef_23 : decode cJ2_indexOf_4cfef 23 = .ok (.ldc 227, 2) := by decide +kernel
theorem dJ2_indexOf_4cfef_25 : decode cJ2_indexOf_4cfef 25 = .ok (.if_icmp .ge 11, 3) := by decide +kernel
theorem dJ2_indexOf_4cfef_28 : decode cJ2_indexOf_4cfef 28 = .ok (.aload_n 0, 1) := by decide +kernel
theorem dJ2_indexOf_4cfef_29 : decode cJ2_indexOf_4cfef 29 = .ok (.iload_n 1, 1) := by decide +kernel
theorem dJ2_indexOf_4cfef_30 : decode cJ2_indexOf_4cfef 30 = .ok (.iload_n 2, 1) := by decide +kernel
theorem dJ2_indexOf_4cfef_31 : decode cJ2_indexOf_4cfef 31 = .ok (.iload_n 3, 1) := by decide +kernel
theorem dJ2_indexOf_4cfef_32 : decode cJ2_indexOf_4cfef 32 = .ok (.invokestatic 228, 3) := by decide +kernel
theorem dJ2_indexOf_4cfef_35 : decode cJ2_indexOf_4cfef 35 = .ok (.ireturn, 1) := by decide +kernel
theorem dJ2_indexOf_4cfef_36 : decode cJ2_indexOf_4cfef 36 = .ok (.aload_n 0, 1) := by decide +kernel
theorem dJ2_indexOf_4cfef_37 : decode cJ2_indexOf_4cfef 37 = .ok (.iload_n 1, 1) := by decide +kernel
theorem dJ2_indexOf_4cfef_38 : decode cJ2_indexOf_4cfef 38 = .ok (.iload_n 2, 1) := by decide +kernel
theorem dJ2_indexOf_4cfef_39 : decode cJ2_indexOf_4cfef 39 = .ok (.iload_n 3, 1) := by decide +kernel
theorem dJ2_indexOf_4cfef_40 : decode cJ2_indexOf_4cfef 40 = .ok (.invokestatic 232, 3) := by decide +kernel
theorem dJ2_indexOf_4cfef_43 : decode cJ2_indexOf_4cfef 43 = .ok (.ireturn, 1) := by decide +kernel
theorem dJ2_indexOfChar_4cfef_0 : decode cJ2_indexOfChar_4cfef 0 = .ok (.iload_n 2, 1) := by decide +kernel
theorem dJ2_indexOfChar_4cfef_1 : decode cJ2_indexOfChar_4cfef 1 = .ok (.iload_n 3, 1) := by decide +kernel
theorem dJ2_indexOfChar_4cfef_2 : decode cJ2_indexOfChar_4cfef 2 = .ok (.aload_n 0, 1) := by decide +kernel
theorem dJ2_indexOfChar_4cfef_3 : decode cJ2_indexOfChar_4cfef 3 = .ok (.invokestatic 96, 3) := by decide +kernel
theorem dJ2_indexOfChar_4cfef_6 : decode cJ2_indexOfChar_4cfef 6 = .ok (.aload_n 0, 1) := by decide +kernel
theorem dJ2_indexOfChar_4cfef_7 : decode cJ2_indexOfChar_4cfef 7 = .ok (.iload_n 1, 1) := by decide +kernel
theorem dJ2_indexOfChar_4cfef_8 : decode cJ2_indexOfChar_4cfef 8 = .ok (.iload_n 2, 1) := by decide +kernel
theorem dJ2_indexOfChar_4cfef_9 : decode cJ2_indexOfChar_4cfef 9 = .ok (.iload_n 3, 1) := by decide +kernel
theorem dJ2_indexOfChar_4cfef_10 : decode cJ2_indexOfChar_4cfef 10 = .ok (.invokestatic 244, 3) := by decide +kernel
theorem dJ2_indexOfChar_4cfef_13 : decode cJ2_indexOfChar_4cfef 13 = .ok (.ireturn, 1) := by decide +kernel
theorem dJ2_indexOfCharUnsafe_4cfef_0 : decode cJ2_indexOfCharUnsafe_4cfef 0 = .ok (.iload_n 2, 1) := by decide +kernel
theorem dJ2_indexOfCharUnsafe_4cfef_1 : decode cJ2_indexOfCharUnsafe_4cfef 1 = .ok (.istore 4, 2) := by decide +kernel
theorem dJ2_indexOfCharUnsafe_4cfef_3 : decode cJ2_indexOfCharUnsafe_4cfef 3 = .ok (.iload 4, 2) := by decide +kernel
theorem dJ2_indexOfCharUnsafe_4cfef_5 : decode cJ2_indexOfCharUnsafe_4cfef 5 = .ok (.iload_n 3, 1) := by decide +kernel
theorem dJ2_indexOfCharUnsafe_4cfef_6 : decode cJ2_indexOfCharUnsafe_4cfef 6 = .ok (.if_icmp .ge 22, 3) := by decide +kernel
theorem dJ2_indexOfCharUnsafe_4cfef_9 : decode cJ2_indexOfCharUnsafe_4cfef 9 = .ok (.aload_n 0, 1) := by decide +kernel
theorem dJ2_indexOfCharUnsafe_4cfef_10 : decode cJ2_indexOfCharUnsafe_4cfef 10 = .ok (.iload 4, 2) := by decide +kernel
theorem dJ2_indexOfCharUnsafe_4cfef_12 : decode cJ2_indexOfCharUnsafe_4cfef 12 = .ok (.invokestatic 71, 3) := by decide +kernel
theorem dJ2_indexOfCharUnsafe_4cfef_15 : decode cJ2_indexOfCharUnsafe_4cfef 15 = .ok (.iload_n 1, 1) := by decide +kernel
theorem dJ2_indexOfCharUnsafe_4cfef_16 : decode cJ2_indexOfCharUnsafe_4cfef 16 = .ok (.if_icmp .ne 6, 3) := by decide +kernel
theorem dJ2_indexOfCharUnsafe_4cfef_19 : decode cJ2_indexOfCharUnsafe_4cfef 19 = .ok (.iload 4, 2) := by decide +kernel
theorem dJ2_indexOfCharUnsafe_4cfef_21 : decode cJ2_indexOfCharUnsafe_4cfef 21 = .ok (.ireturn, 1) := by decide +kernel
theorem dJ2_indexOfCharUnsafe_4cfef_22 : decode cJ2_indexOfCharUnsafe_4cfef 22 = .ok (.iinc 4 1, 3) := by decide +kernel
theorem dJ2_indexOfCharUnsafe_4cfef_25 : decode cJ2_indexOfCharUnsafe_4cfef 25 = .ok (.goto (-22), 3) := by decide +kernel
theorem dJ2_indexOfCharUnsafe_4cfef_28 : decode cJ2_indexOfCharUnsafe_4cfef 28 = .ok (.iconst (-1), 1) := by decide +kernel
theorem dJ2_indexOfCharUnsafe_4cfef_29 : decode cJ2_indexOfCharUnsafe_4cfef 29 = .ok (.ireturn, 1) := by decide +kernel
theorem dJ2_indexOfSupplementary_4cfef_0 : decode cJ2_indexOfSupplementary_4cfef 0 = .ok (.iload_n 1, 1) := by decide +kernel
theorem dJ2_indexOfSupplementary_4cfef_1 : decode cJ2_indexOfSupplementary_4cfef 1 = .ok (.invokestatic 164, 3) := by decide +kernel
theorem dJ2_indexOfSupplementary_4cfef_4 : decode cJ2_indexOfSupplementary_4cfef 4 = .ok (.ifCond .eq 65, 3) := by decide +kernel
theorem dJ2_indexOfSupplementary_4cfef_7 : decode cJ2_indexOfSupplementary_4cfef 7 = .ok (.iload_n 1, 1) := by decide +kernel
theorem dJ2_indexOfSupplementary_4cfef_8 : decode cJ2_indexOfSupplementary_4cfef 8 = .ok (.invokestatic 157, 3) := by decide +kernel
theorem dJ2_indexOfSupplementary_4cfef_11 : decode cJ2_indexOfSupplementary_4cfef 11 = .ok (.istore 4, 2) := by decide +kernel
theorem dJ2_indexOfSupplementary_4cfef_13 : decode cJ2_indexOfSupplementary_4cfef 13 = .ok (.iload_n 1, 1) := by decide +kernel
theorem dJ2_indexOfSupplementary_4cfef_14 : decode cJ2_indexOfSupplementary_4cfef 14 = .ok (.invokestatic 161, 3) := by decide +kernel
theorem dJ2_indexOfSupplementary_4cfef_17 : decode cJ2_indexOfSupplementary_4cfef 17 = .ok (.istore 5, 2) := by decide +kernel
theorem dJ2_indexOfSupplementary_4cfef_19 : decode cJ2_indexOfSupplementary_4cfef 19 = .ok (.iload_n 2, 1) := by decide +kernel
theorem dJ2_indexOfSupplementary_4cfef_20 : decode cJ2_indexOfSupplementary_4cfef 20 = .ok (.iload_n 3, 1) := by decide +kernel
theorem dJ2_indexOfSupplementary_4cfef_21 : decode cJ2_indexOfSupplementary_4cfef 21 = .ok (.aload_n 0, 1) := by decide +kernel
theorem dJ2_indexOfSupplementary_4cfef_22 : decode cJ2_indexOfSupplementary_4cfef 22 = .ok (.invokestatic 96, 3) := by decide +kernel
theorem dJ2_indexOfSupplementary_4cfef_25 : decode cJ2_indexOfSupplementary_4cfef 25 = .ok (.iload_n 2, 1) := by decide +kernel
theorem dJ2_indexOfSupplementary_4cfef_26 : decode cJ2_indexOfSupplementary_4cfef 26 = .ok (.istore 6, 2) := by decide +kernel
theorem dJ2_indexOfSupplementary_4cfef_28 : decode cJ2_indexOfSupplementary_4cfef 28 = .ok (.iload 6, 2) := by decide +kernel
theorem dJ2_indexOfSupplementary_4cfef_30 : decode cJ2_indexOfSupplementary_4cfef 30 = .ok (.iload_n 3, 1) := by decide +kernel
theorem dJ2_indexOfSupplementary_4cfef_31 : decode cJ2_indexOfSupplementary_4cfef 31 = .ok (.iconst 1, 1) := by decide +kernel
theorem dJ2_indexOfSupplementary_4cfef_32 : decode cJ2_indexOfSupplementary_4cfef 32 = .ok (.isub, 1) := by decide +kernel
theorem dJ2_indexOfSupplementary_4cfef_33 : decode cJ2_indexOfSupplementary_4cfef 33 = .ok (.if_icmp .ge 36, 3) := by decide +kernel
theorem dJ2_indexOfSupplementary_4cfef_36 : decode cJ2_indexOfSupplementary_4cfef 36 = .ok (.aload_n 0, 1) := by decide +kernel
theorem dJ2_indexOfSupplementary_4cfef_37 : decode cJ2_indexOfSupplementary_4cfef 37 = .ok (.iload 6, 2) := by decide +kernel
theorem dJ2_indexOfSupplementary_4cfef_39 : decode cJ2_indexOfSupplementary_4cfef 39 = .ok (.invokestatic 71, 3) := by decide +kernel
theorem dJ2_indexOfSupplementary_4cfef_42 : decode cJ2_indexOfSupplementary_4cfef 42 = .ok (.iload 4, 2) := by decide +kernel
theorem dJ2_indexOfSupplementary_4cfef_44 : decode cJ2_indexOfSupplementary_4cfef 44 = .ok (.if_icmp .ne 19, 3) := by decide +kernel
theorem dJ2_indexOfSupplementary_4cfef_47 : decode cJ2_indexOfSupplementary_4cfef 47 = .ok (.aload_n 0, 1) := by decide +kernel
theorem dJ2_indexOfSupplementary_4cfef_48 : decode cJ2_indexOfSupplementary_4cfef 48 = .ok (.iload 6, 2) := by decide +kernel
theorem dJ2_indexOfSupplementary_4cfef_50 : decode cJ2_indexOfSupplementary_4cfef 50 = .ok (.iconst 1, 1) := by decide +kernel
theorem dJ2_indexOfSupplementary_4cfef_51 : decode cJ2_indexOfSupplementary_4cfef 51 = .ok (.iadd, 1) := by decide +kernel
theorem dJ2_indexOfSupplementary_4cfef_52 : decode cJ2_indexOfSupplementary_4cfef 52 = .ok (.invokestatic 71, 3) := by decide +kernel
theorem dJ2_indexOfSupplementary_4cfef_55 : decode cJ2_indexOfSupplementary_4cfef 55 = .ok (.iload 5, 2) := by decide +kernel
theorem dJ2_indexOfSupplementary_4cfef_57 : decode cJ2_indexOfSupplementary_4cfef 57 = .ok (.if_icmp .ne 6, 3) := by decide +kernel
theorem dJ2_indexOfSupplementary_4cfef_60 : decode cJ2_indexOfSupplementary_4cfef 60 = .ok (.iload 6, 2) := by decide +kernel
theorem dJ2_indexOfSupplementary_4cfef_62 : decode cJ2_indexOfSupplementary_4cfef 62 = .ok (.ireturn, 1) := by decide +kernel
theorem dJ2_indexOfSupplementary_4cfef_63 : decode cJ2_indexOfSupplementary_4cfef 63 = .ok (.iinc 6 1, 3) := by decide +kernel
theorem dJ2_indexOfSupplementary_4cfef_66 : decode cJ2_indexOfSupplementary_4cfef 66 = .ok (.goto (-38), 3) := by decide +kernel
theorem dJ2_indexOfSupplementary_4cfef_69 : decode cJ2_indexOfSupplementary_4cfef 69 = .ok (.iconst (-1), 1) := by decide +kernel
theorem dJ2_indexOfSupplementary_4cfef_70 : decode cJ2_indexOfSupplementary_4cfef 70 = .ok (.ireturn, 1) := by decide +kernel
theorem dJ2_checkBoundsBeginEnd_d044e_0 : decode cJ2_checkBoundsBeginEnd_d044e 0 = .ok (.iload_n 0, 1) := by decide +kernel
theorem dJ2_checkBoundsBeginEnd_d044e_1 : decode cJ2_checkBoundsBeginEnd_d044e 1 = .ok (.iload_n 1, 1) := by decide +kernel
theorem dJ2_checkBoundsBeginEnd_d044e_2 : decode cJ2_checkBoundsBeginEnd_d044e 2 = .ok (.aload_n 2, 1) := by decide +kernel
theorem dJ2_checkBoundsBeginEnd_d044e_3 : decode cJ2_checkBoundsBeginEnd_d044e 3 = .ok (.invokestatic 48, 3) := by decide +kernel
theorem dJ2_checkBoundsBeginEnd_d044e_6 : decode cJ2_checkBoundsBeginEnd_d044e 6 = .ok (.invokestatic 241, 3) := by decide +kernel
theorem dJ2_checkBoundsBeginEnd_d044e_9 : decode cJ2_checkBoundsBeginEnd_d044e 9 = .ok (.return_, 1) := by decide +kernel
theorem dJ7_fill_53178_0 : decode cJ7_fill_53178 0 = .ok (.iconst 0, 1) := by decide +kernel
theorem dJ7_fill_53178_1 : decode cJ7_fill_53178 1 = .ok (.istore_n 2, 1) := by decide +kernel
theorem dJ7_fill_53178_2 : decode cJ7_fill_53178 2 = .ok (.aload_n 0, 1) := by decide +kernel
theorem dJ7_fill_53178_3 : decode cJ7_fill_53178 3 = .ok (.arraylength, 1) := by decide +kernel
theorem dJ7_fill_53178_4 : decode cJ7_fill_53178 4 = .ok (.istore_n 3, 1) := by decide +kernel
theorem dJ7_fill_53178_5 : decode cJ7_fill_53178 5 = .ok (.iload_n 2, 1) := by decide +kernel
theorem dJ7_fill_53178_6 : decode cJ7_fill_53178 6 = .ok (.iload_n 3, 1) := by decide +kernel
theorem dJ7_fill_53178_7 : decode cJ7_fill_53178 7 = .ok (.if_icmp .ge 13, 3) := by decide +kernel
theorem dJ7_fill_53178_10 : decode cJ7_fill_53178 10 = .ok (.aload_n 0, 1) := by decide +kernel
theorem dJ7_fill_53178_11 : decode cJ7_fill_53178 11 = .ok (.iload_n 2, 1) := by decide +kernel
theorem dJ7_fill_53178_12 : decode cJ7_fill_53178 12 = .ok (.iload_n 1, 1) := by decide +kernel
theorem dJ7_fill_53178_13 : decode cJ7_fill_53178 13 = .ok (.iastore, 1) := by decide +kernel
theorem dJ7_fill_53178_14 : decode cJ7_fill_53178 14 = .ok (.iinc 2 1, 3) := by decide +kernel
theorem dJ7_fill_53178_17 : decode cJ7_fill_53178 17 = .ok (.goto (-12), 3) := by decide +kernel
theorem dJ7_fill_53178_20 : decode cJ7_fill_53178 20 = .ok (.return_, 1) := by decide +kernel
end
section
theorem dJ3_checkFromToIndex_8c36e_0 : decode cJ3_checkFromToIndex_8c36e 0 = .ok (.iload_n 0, 1) := by decide +kernel
theorem dJ3_checkFromToIndex_8c36e_1 : decode cJ3_checkFromToIndex_8c36e 1 = .ok (.ifCond .lt 13, 3) := by decide +kernel
theorem dJ3_checkFromToIndex_8c36e_4 : decode cJ3_checkFromToIndex_8c36e 4 = .ok (.iload_n 0, 1) := by decide +kernel
theorem dJ3_checkFromToIndex_8c36e_5 : decode cJ3_checkFromToIndex_8c36e 5 = .ok (.iload_n 1, 1) := by decide +kernel
theorem dJ3_checkFromToIndex_8c36e_6 : decode cJ3_checkFromToIndex_8c36e 6 = .ok (.if_icmp .gt 8, 3) := by decide +kernel
theorem dJ3_checkFromToIndex_8c36e_9 : decode cJ3_checkFromToIndex_8c36e 9 = .ok (.iload_n 1, 1) := by decide +kernel
theorem dJ3_checkFromToIndex_8c36e_10 : decode cJ3_checkFromToIndex_8c36e 10 = .ok (.iload_n 2, 1) := by decide +kernel
theorem dJ3_checkFromToIndex_8c36e_11 : decode cJ3_checkFromToIndex_8c36e 11 = .ok (.if_icmp .le 11, 3) := by decide +kernel
theorem dJ3_checkFromToIndex_8c36e_14 : decode cJ3_checkFromToIndex_8c36e 14 = .ok (.aload_n 3, 1) := by decide +kernel
theorem dJ3_checkFromToIndex_8c36e_15 : decode cJ3_checkFromToIndex_8c36e 15 = .ok (.iload_n 0, 1) := by decide +kernel
theorem dJ3_checkFromToIndex_8c36e_16 : decode cJ3_checkFromToIndex_8c36e 16 = .ok (.iload_n 1, 1) := by decide +kernel
theorem dJ3_checkFromToIndex_8c36e_17 : decode cJ3_checkFromToIndex_8c36e 17 = .ok (.iload_n 2, 1) := by decide +kernel
theorem dJ3_checkFromToIndex_8c36e_18 : decode cJ3_checkFromToIndex_8c36e 18 = .ok (.invokestatic 99, 3) := by decide +kernel
theorem dJ3_checkFromToIndex_8c36e_21 : decode cJ3_checkFromToIndex_8c36e 21 = .ok (.athrow, 1) := by decide +kernel
theorem dJ3_checkFromToIndex_8c36e_22 : decode cJ3_checkFromToIndex_8c36e 22 = .ok (.iload_n 0, 1) := by decide +kernel
theorem dJ3_checkFromToIndex_8c36e_23 : decode cJ3_checkFromToIndex_8c36e 23 = .ok (.ireturn, 1) := by decide +kernel
theorem dL_law_0 : decode cL_law 0 = .ok (.new 7, 3) := by decide +kernel
theorem dL_law_3 : decode cL_law 3 = .ok (.dup, 1) := by decide +kernel
theorem dL_law_4 : decode cL_law 4 = .ok (.invokespecial 9, 3) := by decide +kernel
theorem dL_law_7 : decode cL_law 7 = .ok (.astore_n 1, 1) := by decide +kernel
theorem dL_law_8 : decode cL_law 8 = .ok (.new 10, 3) := by decide +kernel
theorem dL_law_11 : decode cL_law 11 = .ok (.dup, 1) := by decide +kernel
theorem dL_law_12 : decode cL_law 12 = .ok (.invokespecial 12, 3) := by decide +kernel
theorem dL_law_15 : decode cL_law 15 = .ok (.astore_n 2, 1) := by decide +kernel
theorem dL_law_16 : decode cL_law 16 = .ok (.iconst 0, 1) := by decide +kernel
theorem dL_law_17 : decode cL_law 17 = .ok (.istore_n 3, 1) := by decide +kernel
theorem dL_law_18 : decode cL_law 18 = .ok (.iload_n 3, 1) := by decide +kernel
theorem dL_law_19 : decode cL_law 19 = .ok (.aload_n 0, 1) := by decide +kernel
theorem dL_law_20 : decode cL_law 20 = .ok (.arraylength, 1) := by decide +kernel
theorem dL_law_21 : decode cL_law 21 = .ok (.iconst 4, 1) := by decide +kernel
theorem dL_law_22 : decode cL_law 22 = .ok (.isub, 1) := by decide +kernel
theorem dL_law_23 : decode cL_law 23 = .ok (.if_icmp .gt 712, 3) := by decide +kernel
theorem dL_law_26 : decode cL_law 26 = .ok (.aload_n 0, 1) := by decide +kernel
theorem dL_law_27 : decode cL_law 27 = .ok (.iload_n 3, 1) := by decide +kernel
theorem dL_law_28 : decode cL_law 28 = .ok (.iaload, 1) := by decide +kernel
theorem dL_law_29 : decode cL_law 29 = .ok (.bipush 31, 2) := by decide +kernel
theorem dL_law_31 : decode cL_law 31 = .ok (.iand, 1) := by decide +kernel
theorem dL_law_32 : decode cL_law 32 = .ok (.tableswitch 697 0 21 #[104, 127, 140, 153, 166, 179, 212, 245, 278, 311, 334, 377, 420, 453, 496, 519, 578, 591, 634, 647, 660, 683], 104) := by decide +kernel
theorem dL_law_136 : decode cL_law 136 = .ok (.aload_n 1, 1) := by decide +kernel
theorem dL_law_137 : decode cL_law 137 = .ok (.aload_n 0, 1) := by decide +kernel
theorem dL_law_138 : decode cL_law 138 = .ok (.iload_n 3, 1) := by decide +kernel
theorem dL_law_139 : decode cL_law 139 = .ok (.iconst 1, 1) := by decide +kernel
theorem dL_law_140 : decode cL_law 140 = .ok (.iadd, 1) := by decide +kernel
theorem dL_law_141 : decode cL_law 141 = .ok (.iaload, 1) := by decide +kernel
theorem dL_law_142 : decode cL_law 142 = .ok (.invokevirtual 13, 3) := by decide +kernel
theorem dL_law_145 : decode cL_law 145 = .ok (.aload_n 2, 1) := by decide +kernel
theorem dL_law_146 : decode cL_law 146 = .ok (.aload_n 0, 1) := by decide +kernel
theorem dL_law_147 : decode cL_law 147 = .ok (.iload_n 3, 1) := by decide +kernel
theorem dL_law_148 : decode cL_law 148 = .ok (.iconst 1, 1) := by decide +kernel
theorem dL_law_149 : decode cL_law 149 = .ok (.iadd, 1) := by decide +kernel
theorem dL_law_150 : decode cL_law 150 = .ok (.iaload, 1) := by decide +kernel
theorem dL_law_151 : decode cL_law 151 = .ok (.invokevirtual 17, 3) := by decide +kernel
theorem dL_law_154 : decode cL_law 154 = .ok (.if_icmp .eq 575, 3) := by decide +kernel
theorem dL_law_157 : decode cL_law 157 = .ok (.iconst 0, 1) := by decide +kernel
theorem dL_law_158 : decode cL_law 158 = .ok (.ireturn, 1) := by decide +kernel
theorem dL_law_159 : decode cL_law 159 = .ok (.aload_n 1, 1) := by decide +kernel
theorem dL_law_160 : decode cL_law 160 = .ok (.invokevirtual 18, 3) := by decide +kernel
theorem dL_law_163 : decode cL_law 163 = .ok (.aload_n 2, 1) := by decide +kernel
theorem dL_law_164 : decode cL_law 164 = .ok (.invokevirtual 22, 3) := by decide +kernel
theorem dL_law_167 : decode cL_law 167 = .ok (.if_icmp .eq 562, 3) := by decide +kernel
theorem dL_law_170 : decode cL_law 170 = .ok (.iconst 0, 1) := by decide +kernel
theorem dL_law_171 : decode cL_law 171 = .ok (.ireturn, 1) := by decide +kernel
theorem dL_law_172 : decode cL_law 172 = .ok (.aload_n 1, 1) := by decide +kernel
theorem dL_law_173 : decode cL_law 173 = .ok (.invokevirtual 23, 3) := by decide +kernel
theorem dL_law_176 : decode cL_law 176 = .ok (.aload_n 2, 1) := by decide +kernel
theorem dL_law_177 : decode cL_law 177 = .ok (.invokevirtual 26, 3) := by decide +kernel
theorem dL_law_180 : decode cL_law 180 = .ok (.if_icmp .eq 549, 3) := by decide +kernel
theorem dL_law_183 : decode cL_law 183 = .ok (.iconst 0, 1) := by decide +kernel
theorem dL_law_184 : decode cL_law 184 = .ok (.ireturn, 1) := by decide +kernel
theorem dL_law_185 : decode cL_law 185 = .ok (.aload_n 1, 1) := by decide +kernel
theorem dL_law_186 : decode cL_law 186 = .ok (.invokevirtual 27, 3) := by decide +kernel
theorem dL_law_189 : decode cL_law 189 = .ok (.aload_n 2, 1) := by decide +kernel
theorem dL_law_190 : decode cL_law 190 = .ok (.invokevirtual 30, 3) := by decide +kernel
theorem dL_law_193 : decode cL_law 193 = .ok (.if_icmp .eq 536, 3) := by decide +kernel
theorem dL_law_196 : decode cL_law 196 = .ok (.iconst 0, 1) := by decide +kernel
theorem dL_law_197 : decode cL_law 197 = .ok (.ireturn, 1) := by decide +kernel
theorem dL_law_198 : decode cL_law 198 = .ok (.aload_n 1, 1) := by decide +kernel
theorem dL_law_199 : decode cL_law 199 = .ok (.invokevirtual 31, 3) := by decide +kernel
theorem dL_law_202 : decode cL_law 202 = .ok (.aload_n 2, 1) := by decide +kernel
theorem dL_law_203 : decode cL_law 203 = .ok (.invokevirtual 34, 3) := by decide +kernel
theorem dL_law_206 : decode cL_law 206 = .ok (.if_icmp .eq 523, 3) := by decide +kernel
theorem dL_law_209 : decode cL_law 209 = .ok (.iconst 0, 1) := by decide +kernel
theorem dL_law_210 : decode cL_law 210 = .ok (.ireturn, 1) := by decide +kernel
theorem dL_law_211 : decode cL_law 211 = .ok (.aload_n 1, 1) := by decide +kernel
theorem dL_law_212 : decode cL_law 212 = .ok (.aload_n 0, 1) := by decide +kernel
theorem dL_law_213 : decode cL_law 213 = .ok (.iload_n 3, 1) := by decide +kernel
theorem dL_law_214 : decode cL_law 214 = .ok (.iconst 1, 1) := by decide +kernel
theorem dL_law_215 : decode cL_law 215 = .ok (.iadd, 1) := by decide +kernel
theorem dL_law_216 : decode cL_law 216 = .ok (.iaload, 1) := by decide +kernel
theorem dL_law_217 : decode cL_law 217 = .ok (.aload_n 0, 1) := by decide +kernel
theorem dL_law_218 : decode cL_law 218 = .ok (.iload_n 3, 1) := by decide +kernel
theorem dL_law_219 : decode cL_law 219 = .ok (.iconst 2, 1) := by decide +kernel
theorem dL_law_220 : decode cL_law 220 = .ok (.iadd, 1) := by decide +kernel
theorem dL_law_221 : decode cL_law 221 = .ok (.iaload, 1) := by decide +kernel
theorem dL_law_222 : decode cL_law 222 = .ok (.invokevirtual 35, 3) := by decide +kernel
theorem dL_law_225 : decode cL_law 225 = .ok (.aload_n 2, 1) := by decide +kernel
theorem dL_law_226 : decode cL_law 226 = .ok (.aload_n 0, 1) := by decide +kernel
theorem dL_law_227 : decode cL_law 227 = .ok (.iload_n 3, 1) := by decide +kernel
theorem dL_law_228 : decode cL_law 228 = .ok (.iconst 1, 1) := by decide +kernel
theorem dL_law_229 : decode cL_law 229 = .ok (.iadd, 1) := by decide +kernel
theorem dL_law_230 : decode cL_law 230 = .ok (.iaload, 1) := by decide +kernel
theorem dL_law_231 : decode cL_law 231 = .ok (.aload_n 0, 1) := by decide +kernel
theorem dL_law_232 : decode cL_law 232 = .ok (.iload_n 3, 1) := by decide +kernel
theorem dL_law_233 : decode cL_law 233 = .ok (.iconst 2, 1) := by decide +kernel
theorem dL_law_234 : decode cL_law 234 = .ok (.iadd, 1) := by decide +kernel
theorem dL_law_235 : decode cL_law 235 = .ok (.iaload, 1) := by decide +kernel
theorem dL_law_236 : decode cL_law 236 = .ok (.invokevirtual 39, 3) := by decide +kernel
theorem dL_law_239 : decode cL_law 239 = .ok (.if_icmp .eq 490, 3) := by decide +kernel
theorem dL_law_242 : decode cL_law 242 = .ok (.iconst 0, 1) := by decide +kernel
theorem dL_law_243 : decode cL_law 243 = .ok (.ireturn, 1) := by decide +kernel
theorem dL_law_244 : decode cL_law 244 = .ok (.aload_n 1, 1) := by decide +kernel
theorem dL_law_245 : decode cL_law 245 = .ok (.aload_n 0, 1) := by decide +kernel
theorem dL_law_246 : decode cL_law 246 = .ok (.iload_n 3, 1) := by decide +kernel
theorem dL_law_247 : decode cL_law 247 = .ok (.iconst 1, 1) := by decide +kernel
theorem dL_law_248 : decode cL_law 248 = .ok (.iadd, 1) := by decide +kernel
theorem dL_law_249 : decode cL_law 249 = .ok (.iaload, 1) := by decide +kernel
theorem dL_law_250 : decode cL_law 250 = .ok (.aload_n 0, 1) := by decide +kernel
theorem dL_law_251 : decode cL_law 251 = .ok (.iload_n 3, 1) := by decide +kernel
theorem dL_law_252 : decode cL_law 252 = .ok (.iconst 2, 1) := by decide +kernel
theorem dL_law_253 : decode cL_law 253 = .ok (.iadd, 1) := by decide +kernel
theorem dL_law_254 : decode cL_law 254 = .ok (.iaload, 1) := by decide +kernel
theorem dL_law_255 : decode cL_law 255 = .ok (.invokevirtual 40, 3) := by decide +kernel
theorem dL_law_258 : decode cL_law 258 = .ok (.aload_n 2, 1) := by decide +kernel
theorem dL_law_259 : decode cL_law 259 = .ok (.aload_n 0, 1) := by decide +kernel
theorem dL_law_260 : decode cL_law 260 = .ok (.iload_n 3, 1) := by decide +kernel
theorem dL_law_261 : decode cL_law 261 = .ok (.iconst 1, 1) := by decide +kernel
theorem dL_law_262 : decode cL_law 262 = .ok (.iadd, 1) := by decide +kernel
theorem dL_law_263 : decode cL_law 263 = .ok (.iaload, 1) := by decide +kernel
theorem dL_law_264 : decode cL_law 264 = .ok (.aload_n 0, 1) := by decide +kernel
theorem dL_law_265 : decode cL_law 265 = .ok (.iload_n 3, 1) := by decide +kernel
theorem dL_law_266 : decode cL_law 266 = .ok (.iconst 2, 1) := by decide +kernel
theorem dL_law_267 : decode cL_law 267 = .ok (.iadd, 1) := by decide +kernel
theorem dL_law_268 : decode cL_law 268 = .ok (.iaload, 1) := by decide +kernel
theorem dL_law_269 : decode cL_law 269 = .ok (.invokevirtual 43, 3) := by decide +kernel
theorem dL_law_272 : decode cL_law 272 = .ok (.if_icmp .eq 457, 3) := by decide +kernel
theorem dL_law_275 : decode cL_law 275 = .ok (.iconst 0, 1) := by decide +kernel
theorem dL_law_276 : decode cL_law 276 = .ok (.ireturn, 1) := by decide +kernel
theorem dL_law_277 : decode cL_law 277 = .ok (.aload_n 1, 1) := by decide +kernel
theorem dL_law_278 : decode cL_law 278 = .ok (.aload_n 0, 1) := by decide +kernel
theorem dL_law_279 : decode cL_law 279 = .ok (.iload_n 3, 1) := by decide +kernel
theorem dL_law_280 : decode cL_law 280 = .ok (.iconst 1, 1) := by decide +kernel
theorem dL_law_281 : decode cL_law 281 = .ok (.iadd, 1) := by decide +kernel
theorem dL_law_282 : decode cL_law 282 = .ok (.iaload, 1) := by decide +kernel
theorem dL_law_283 : decode cL_law 283 = .ok (.aload_n 0, 1) := by decide +kernel
theorem dL_law_284 : decode cL_law 284 = .ok (.iload_n 3, 1) := by decide +kernel
theorem dL_law_285 : decode cL_law 285 = .ok (.iconst 2, 1) := by decide +kernel
theorem dL_law_286 : decode cL_law 286 = .ok (.iadd, 1) := by decide +kernel
theorem dL_law_287 : decode cL_law 287 = .ok (.iaload, 1) := by decide +kernel
theorem dL_law_288 : decode cL_law 288 = .ok (.invokevirtual 44, 3) := by decide +kernel
theorem dL_law_291 : decode cL_law 291 = .ok (.aload_n 2, 1) := by decide +kernel
theorem dL_law_292 : decode cL_law 292 = .ok (.aload_n 0, 1) := by decide +kernel
theorem dL_law_293 : decode cL_law 293 = .ok (.iload_n 3, 1) := by decide +kernel
theorem dL_law_294 : decode cL_law 294 = .ok (.iconst 1, 1) := by decide +kernel
theorem dL_law_295 : decode cL_law 295 = .ok (.iadd, 1) := by decide +kernel
theorem dL_law_296 : decode cL_law 296 = .ok (.iaload, 1) := by decide +kernel
theorem dL_law_297 : decode cL_law 297 = .ok (.aload_n 0, 1) := by decide +kernel
theorem dL_law_298 : decode cL_law 298 = .ok (.iload_n 3, 1) := by decide +kernel
theorem dL_law_299 : decode cL_law 299 = .ok (.iconst 2, 1) := by decide +kernel
theorem dL_law_300 : decode cL_law 300 = .ok (.iadd, 1) := by decide +kernel
theorem dL_law_301 : decode cL_law 301 = .ok (.iaload, 1) := by decide +kernel
theorem dL_law_302 : decode cL_law 302 = .ok (.invokevirtual 47, 3) := by decide +kernel
theorem dL_law_305 : decode cL_law 305 = .ok (.if_icmp .eq 424, 3) := by decide +kernel
theorem dL_law_308 : decode cL_law 308 = .ok (.iconst 0, 1) := by decide +kernel
theorem dL_law_309 : decode cL_law 309 = .ok (.ireturn, 1) := by decide +kernel
theorem dL_law_310 : decode cL_law 310 = .ok (.aload_n 1, 1) := by decide +kernel
theorem dL_law_311 : decode cL_law 311 = .ok (.aload_n 0, 1) := by decide +kernel
theorem dL_law_312 : decode cL_law 312 = .ok (.iload_n 3, 1) := by decide +kernel
theorem dL_law_313 : decode cL_law 313 = .ok (.iconst 1, 1) := by decide +kernel
theorem dL_law_314 : decode cL_law 314 = .ok (.iadd, 1) := by decide +kernel
theorem dL_law_315 : decode cL_law 315 = .ok (.iaload, 1) := by decide +kernel
theorem dL_law_316 : decode cL_law 316 = .ok (.aload_n 0, 1) := by decide +kernel
theorem dL_law_317 : decode cL_law 317 = .ok (.iload_n 3, 1) := by decide +kernel
theorem dL_law_318 : decode cL_law 318 = .ok (.iconst 2, 1) := by decide +kernel
theorem dL_law_319 : decode cL_law 319 = .ok (.iadd, 1) := by decide +kernel
theorem dL_law_320 : decode cL_law 320 = .ok (.iaload, 1) := by decide +kernel
theorem dL_law_321 : decode cL_law 321 = .ok (.invokevirtual 48, 3) := by decide +kernel
theorem dL_law_324 : decode cL_law 324 = .ok (.aload_n 2, 1) := by decide +kernel
theorem dL_law_325 : decode cL_law 325 = .ok (.aload_n 0, 1) := by decide +kernel
theorem dL_law_326 : decode cL_law 326 = .ok (.iload_n 3, 1) := by decide +kernel
theorem dL_law_327 : decode cL_law 327 = .ok (.iconst 1, 1) := by decide +kernel
theorem dL_law_328 : decode cL_law 328 = .ok (.iadd, 1) := by decide +kernel
theorem dL_law_329 : decode cL_law 329 = .ok (.iaload, 1) := by decide +kernel
theorem dL_law_330 : decode cL_law 330 = .ok (.aload_n 0, 1) := by decide +kernel
theorem dL_law_331 : decode cL_law 331 = .ok (.iload_n 3, 1) := by decide +kernel
theorem dL_law_332 : decode cL_law 332 = .ok (.iconst 2, 1) := by decide +kernel
theorem dL_law_333 : decode cL_law 333 = .ok (.iadd, 1) := by decide +kernel
theorem dL_law_334 : decode cL_law 334 = .ok (.iaload, 1) := by decide +kernel
theorem dL_law_335 : decode cL_law 335 = .ok (.invokevirtual 51, 3) := by decide +kernel
theorem dL_law_338 : decode cL_law 338 = .ok (.if_icmp .eq 391, 3) := by decide +kernel
theorem dL_law_341 : decode cL_law 341 = .ok (.iconst 0, 1) := by decide +kernel
theorem dL_law_342 : decode cL_law 342 = .ok (.ireturn, 1) := by decide +kernel
theorem dL_law_343 : decode cL_law 343 = .ok (.aload_n 1, 1) := by decide +kernel
theorem dL_law_344 : decode cL_law 344 = .ok (.aload_n 0, 1) := by decide +kernel
theorem dL_law_345 : decode cL_law 345 = .ok (.iload_n 3, 1) := by decide +kernel
theorem dL_law_346 : decode cL_law 346 = .ok (.iconst 1, 1) := by decide +kernel
theorem dL_law_347 : decode cL_law 347 = .ok (.iadd, 1) := by decide +kernel
theorem dL_law_348 : decode cL_law 348 = .ok (.iaload, 1) := by decide +kernel
theorem dL_law_349 : decode cL_law 349 = .ok (.invokevirtual 52, 3) := by decide +kernel
theorem dL_law_352 : decode cL_law 352 = .ok (.aload_n 2, 1) := by decide +kernel
theorem dL_law_353 : decode cL_law 353 = .ok (.aload_n 0, 1) := by decide +kernel
theorem dL_law_354 : decode cL_law 354 = .ok (.iload_n 3, 1) := by decide +kernel
theorem dL_law_355 : decode cL_law 355 = .ok (.iconst 1, 1) := by decide +kernel
theorem dL_law_356 : decode cL_law 356 = .ok (.iadd, 1) := by decide +kernel
theorem dL_law_357 : decode cL_law 357 = .ok (.iaload, 1) := by decide +kernel
theorem dL_law_358 : decode cL_law 358 = .ok (.invokevirtual 55, 3) := by decide +kernel
theorem dL_law_361 : decode cL_law 361 = .ok (.if_icmp .eq 368, 3) := by decide +kernel
theorem dL_law_364 : decode cL_law 364 = .ok (.iconst 0, 1) := by decide +kernel
theorem dL_law_365 : decode cL_law 365 = .ok (.ireturn, 1) := by decide +kernel
theorem dL_law_366 : decode cL_law 366 = .ok (.aload_n 1, 1) := by decide +kernel
theorem dL_law_367 : decode cL_law 367 = .ok (.aload_n 0, 1) := by decide +kernel
theorem dL_law_368 : decode cL_law 368 = .ok (.iload_n 3, 1) := by decide +kernel
theorem dL_law_369 : decode cL_law 369 = .ok (.iconst 1, 1) := by decide +kernel
theorem dL_law_370 : decode cL_law 370 = .ok (.iadd, 1) := by decide +kernel
theorem dL_law_371 : decode cL_law 371 = .ok (.iaload, 1) := by decide +kernel
theorem dL_law_372 : decode cL_law 372 = .ok (.aload_n 0, 1) := by decide +kernel
theorem dL_law_373 : decode cL_law 373 = .ok (.iload_n 3, 1) := by decide +kernel
theorem dL_law_374 : decode cL_law 374 = .ok (.iconst 2, 1) := by decide +kernel
theorem dL_law_375 : decode cL_law 375 = .ok (.iadd, 1) := by decide +kernel
theorem dL_law_376 : decode cL_law 376 = .ok (.iaload, 1) := by decide +kernel
theorem dL_law_377 : decode cL_law 377 = .ok (.aload_n 0, 1) := by decide +kernel
theorem dL_law_378 : decode cL_law 378 = .ok (.iload_n 3, 1) := by decide +kernel
theorem dL_law_379 : decode cL_law 379 = .ok (.iconst 3, 1) := by decide +kernel
theorem dL_law_380 : decode cL_law 380 = .ok (.iadd, 1) := by decide +kernel
theorem dL_law_381 : decode cL_law 381 = .ok (.iaload, 1) := by decide +kernel
theorem dL_law_382 : decode cL_law 382 = .ok (.invokevirtual 56, 3) := by decide +kernel
theorem dL_law_385 : decode cL_law 385 = .ok (.aload_n 2, 1) := by decide +kernel
theorem dL_law_386 : decode cL_law 386 = .ok (.aload_n 0, 1) := by decide +kernel
theorem dL_law_387 : decode cL_law 387 = .ok (.iload_n 3, 1) := by decide +kernel
theorem dL_law_388 : decode cL_law 388 = .ok (.iconst 1, 1) := by decide +kernel
theorem dL_law_389 : decode cL_law 389 = .ok (.iadd, 1) := by decide +kernel
theorem dL_law_390 : decode cL_law 390 = .ok (.iaload, 1) := by decide +kernel
theorem dL_law_391 : decode cL_law 391 = .ok (.aload_n 0, 1) := by decide +kernel
theorem dL_law_392 : decode cL_law 392 = .ok (.iload_n 3, 1) := by decide +kernel
theorem dL_law_393 : decode cL_law 393 = .ok (.iconst 2, 1) := by decide +kernel
theorem dL_law_394 : decode cL_law 394 = .ok (.iadd, 1) := by decide +kernel
theorem dL_law_395 : decode cL_law 395 = .ok (.iaload, 1) := by decide +kernel
theorem dL_law_396 : decode cL_law 396 = .ok (.aload_n 0, 1) := by decide +kernel
theorem dL_law_397 : decode cL_law 397 = .ok (.iload_n 3, 1) := by decide +kernel
theorem dL_law_398 : decode cL_law 398 = .ok (.iconst 3, 1) := by decide +kernel
theorem dL_law_399 : decode cL_law 399 = .ok (.iadd, 1) := by decide +kernel
theorem dL_law_400 : decode cL_law 400 = .ok (.iaload, 1) := by decide +kernel
theorem dL_law_401 : decode cL_law 401 = .ok (.invokevirtual 60, 3) := by decide +kernel
theorem dL_law_404 : decode cL_law 404 = .ok (.if_icmp .eq 325, 3) := by decide +kernel
theorem dL_law_407 : decode cL_law 407 = .ok (.iconst 0, 1) := by decide +kernel
theorem dL_law_408 : decode cL_law 408 = .ok (.ireturn, 1) := by decide +kernel
theorem dL_law_409 : decode cL_law 409 = .ok (.aload_n 1, 1) := by decide +kernel
theorem dL_law_410 : decode cL_law 410 = .ok (.aload_n 0, 1) := by decide +kernel
theorem dL_law_411 : decode cL_law 411 = .ok (.iload_n 3, 1) := by decide +kernel
theorem dL_law_412 : decode cL_law 412 = .ok (.iconst 1, 1) := by decide +kernel
theorem dL_law_413 : decode cL_law 413 = .ok (.iadd, 1) := by decide +kernel
theorem dL_law_414 : decode cL_law 414 = .ok (.iaload, 1) := by decide +kernel
theorem dL_law_415 : decode cL_law 415 = .ok (.aload_n 0, 1) := by decide +kernel
theorem dL_law_416 : decode cL_law 416 = .ok (.iload_n 3, 1) := by decide +kernel
theorem dL_law_417 : decode cL_law 417 = .ok (.iconst 2, 1) := by decide +kernel
theorem dL_law_418 : decode cL_law 418 = .ok (.iadd, 1) := by decide +kernel
theorem dL_law_419 : decode cL_law 419 = .ok (.iaload, 1) := by decide +kernel
theorem dL_law_420 : decode cL_law 420 = .ok (.aload_n 0, 1) := by decide +kernel
theorem dL_law_421 : decode cL_law 421 = .ok (.iload_n 3, 1) := by decide +kernel
theorem dL_law_422 : decode cL_law 422 = .ok (.iconst 3, 1) := by decide +kernel
theorem dL_law_423 : decode cL_law 423 = .ok (.iadd, 1) := by decide +kernel
theorem dL_law_424 : decode cL_law 424 = .ok (.iaload, 1) := by decide +kernel
theorem dL_law_425 : decode cL_law 425 = .ok (.invokevirtual 61, 3) := by decide +kernel
theorem dL_law_428 : decode cL_law 428 = .ok (.aload_n 2, 1) := by decide +kernel
theorem dL_law_429 : decode cL_law 429 = .ok (.aload_n 0, 1) := by decide +kernel
theorem dL_law_430 : decode cL_law 430 = .ok (.iload_n 3, 1) := by decide +kernel
theorem dL_law_431 : decode cL_law 431 = .ok (.iconst 1, 1) := by decide +kernel
theorem dL_law_432 : decode cL_law 432 = .ok (.iadd, 1) := by decide +kernel
theorem dL_law_433 : decode cL_law 433 = .ok (.iaload, 1) := by decide +kernel
theorem dL_law_434 : decode cL_law 434 = .ok (.aload_n 0, 1) := by decide +kernel
theorem dL_law_435 : decode cL_law 435 = .ok (.iload_n 3, 1) := by decide +kernel
theorem dL_law_436 : decode cL_law 436 = .ok (.iconst 2, 1) := by decide +kernel
theorem dL_law_437 : decode cL_law 437 = .ok (.iadd, 1) := by decide +kernel
theorem dL_law_438 : decode cL_law 438 = .ok (.iaload, 1) := by decide +kernel
theorem dL_law_439 : decode cL_law 439 = .ok (.aload_n 0, 1) := by decide +kernel
theorem dL_law_440 : decode cL_law 440 = .ok (.iload_n 3, 1) := by decide +kernel
theorem dL_law_441 : decode cL_law 441 = .ok (.iconst 3, 1) := by decide +kernel
theorem dL_law_442 : decode cL_law 442 = .ok (.iadd, 1) := by decide +kernel
theorem dL_law_443 : decode cL_law 443 = .ok (.iaload, 1) := by decide +kernel
theorem dL_law_444 : decode cL_law 444 = .ok (.invokevirtual 64, 3) := by decide +kernel
theorem dL_law_447 : decode cL_law 447 = .ok (.if_icmp .eq 282, 3) := by decide +kernel
theorem dL_law_450 : decode cL_law 450 = .ok (.iconst 0, 1) := by decide +kernel
theorem dL_law_451 : decode cL_law 451 = .ok (.ireturn, 1) := by decide +kernel
theorem dL_law_452 : decode cL_law 452 = .ok (.aload_n 1, 1) := by decide +kernel
theorem dL_law_453 : decode cL_law 453 = .ok (.aload_n 0, 1) := by decide +kernel
theorem dL_law_454 : decode cL_law 454 = .ok (.iload_n 3, 1) := by decide +kernel
theorem dL_law_455 : decode cL_law 455 = .ok (.iconst 1, 1) := by decide +kernel
theorem dL_law_456 : decode cL_law 456 = .ok (.iadd, 1) := by decide +kernel
theorem dL_law_457 : decode cL_law 457 = .ok (.iaload, 1) := by decide +kernel
theorem dL_law_458 : decode cL_law 458 = .ok (.aload_n 0, 1) := by decide +kernel
theorem dL_law_459 : decode cL_law 459 = .ok (.iload_n 3, 1) := by decide +kernel
theorem dL_law_460 : decode cL_law 460 = .ok (.iconst 2, 1) := by decide +kernel
theorem dL_law_461 : decode cL_law 461 = .ok (.iadd, 1) := by decide +kernel
theorem dL_law_462 : decode cL_law 462 = .ok (.iaload, 1) := by decide +kernel
theorem dL_law_463 : decode cL_law 463 = .ok (.invokevirtual 65, 3) := by decide +kernel
theorem dL_law_466 : decode cL_law 466 = .ok (.aload_n 2, 1) := by decide +kernel
theorem dL_law_467 : decode cL_law 467 = .ok (.aload_n 0, 1) := by decide +kernel
theorem dL_law_468 : decode cL_law 468 = .ok (.iload_n 3, 1) := by decide +kernel
theorem dL_law_469 : decode cL_law 469 = .ok (.iconst 1, 1) := by decide +kernel
theorem dL_law_470 : decode cL_law 470 = .ok (.iadd, 1) := by decide +kernel
theorem dL_law_471 : decode cL_law 471 = .ok (.iaload, 1) := by decide +kernel
theorem dL_law_472 : decode cL_law 472 = .ok (.aload_n 0, 1) := by decide +kernel
theorem dL_law_473 : decode cL_law 473 = .ok (.iload_n 3, 1) := by decide +kernel
theorem dL_law_474 : decode cL_law 474 = .ok (.iconst 2, 1) := by decide +kernel
theorem dL_law_475 : decode cL_law 475 = .ok (.iadd, 1) := by decide +kernel
theorem dL_law_476 : decode cL_law 476 = .ok (.iaload, 1) := by decide +kernel
theorem dL_law_477 : decode cL_law 477 = .ok (.invokevirtual 68, 3) := by decide +kernel
theorem dL_law_480 : decode cL_law 480 = .ok (.if_icmp .eq 249, 3) := by decide +kernel
theorem dL_law_483 : decode cL_law 483 = .ok (.iconst 0, 1) := by decide +kernel
theorem dL_law_484 : decode cL_law 484 = .ok (.ireturn, 1) := by decide +kernel
theorem dL_law_485 : decode cL_law 485 = .ok (.aload_n 1, 1) := by decide +kernel
theorem dL_law_486 : decode cL_law 486 = .ok (.aload_n 0, 1) := by decide +kernel
theorem dL_law_487 : decode cL_law 487 = .ok (.iload_n 3, 1) := by decide +kernel
theorem dL_law_488 : decode cL_law 488 = .ok (.iconst 1, 1) := by decide +kernel
theorem dL_law_489 : decode cL_law 489 = .ok (.iadd, 1) := by decide +kernel
theorem dL_law_490 : decode cL_law 490 = .ok (.iaload, 1) := by decide +kernel
theorem dL_law_491 : decode cL_law 491 = .ok (.aload_n 0, 1) := by decide +kernel
theorem dL_law_492 : decode cL_law 492 = .ok (.iload_n 3, 1) := by decide +kernel
theorem dL_law_493 : decode cL_law 493 = .ok (.iconst 2, 1) := by decide +kernel
theorem dL_law_494 : decode cL_law 494 = .ok (.iadd, 1) := by decide +kernel
theorem dL_law_495 : decode cL_law 495 = .ok (.iaload, 1) := by decide +kernel
theorem dL_law_496 : decode cL_law 496 = .ok (.aload_n 0, 1) := by decide +kernel
theorem dL_law_497 : decode cL_law 497 = .ok (.iload_n 3, 1) := by decide +kernel
theorem dL_law_498 : decode cL_law 498 = .ok (.iconst 3, 1) := by decide +kernel
theorem dL_law_499 : decode cL_law 499 = .ok (.iadd, 1) := by decide +kernel
theorem dL_law_500 : decode cL_law 500 = .ok (.iaload, 1) := by decide +kernel
theorem dL_law_501 : decode cL_law 501 = .ok (.invokevirtual 69, 3) := by decide +kernel
theorem dL_law_504 : decode cL_law 504 = .ok (.aload_n 2, 1) := by decide +kernel
theorem dL_law_505 : decode cL_law 505 = .ok (.aload_n 0, 1) := by decide +kernel
theorem dL_law_506 : decode cL_law 506 = .ok (.iload_n 3, 1) := by decide +kernel
theorem dL_law_507 : decode cL_law 507 = .ok (.iconst 1, 1) := by decide +kernel
theorem dL_law_508 : decode cL_law 508 = .ok (.iadd, 1) := by decide +kernel
theorem dL_law_509 : decode cL_law 509 = .ok (.iaload, 1) := by decide +kernel
theorem dL_law_510 : decode cL_law 510 = .ok (.aload_n 0, 1) := by decide +kernel
theorem dL_law_511 : decode cL_law 511 = .ok (.iload_n 3, 1) := by decide +kernel
theorem dL_law_512 : decode cL_law 512 = .ok (.iconst 2, 1) := by decide +kernel
theorem dL_law_513 : decode cL_law 513 = .ok (.iadd, 1) := by decide +kernel
theorem dL_law_514 : decode cL_law 514 = .ok (.iaload, 1) := by decide +kernel
theorem dL_law_515 : decode cL_law 515 = .ok (.aload_n 0, 1) := by decide +kernel
theorem dL_law_516 : decode cL_law 516 = .ok (.iload_n 3, 1) := by decide +kernel
theorem dL_law_517 : decode cL_law 517 = .ok (.iconst 3, 1) := by decide +kernel
theorem dL_law_518 : decode cL_law 518 = .ok (.iadd, 1) := by decide +kernel
theorem dL_law_519 : decode cL_law 519 = .ok (.iaload, 1) := by decide +kernel
theorem dL_law_520 : decode cL_law 520 = .ok (.invokevirtual 72, 3) := by decide +kernel
theorem dL_law_523 : decode cL_law 523 = .ok (.if_icmp .eq 206, 3) := by decide +kernel
theorem dL_law_526 : decode cL_law 526 = .ok (.iconst 0, 1) := by decide +kernel
theorem dL_law_527 : decode cL_law 527 = .ok (.ireturn, 1) := by decide +kernel
theorem dL_law_528 : decode cL_law 528 = .ok (.aload_n 1, 1) := by decide +kernel
theorem dL_law_529 : decode cL_law 529 = .ok (.aload_n 0, 1) := by decide +kernel
theorem dL_law_530 : decode cL_law 530 = .ok (.iload_n 3, 1) := by decide +kernel
theorem dL_law_531 : decode cL_law 531 = .ok (.iconst 1, 1) := by decide +kernel
theorem dL_law_532 : decode cL_law 532 = .ok (.iadd, 1) := by decide +kernel
theorem dL_law_533 : decode cL_law 533 = .ok (.iaload, 1) := by decide +kernel
theorem dL_law_534 : decode cL_law 534 = .ok (.invokevirtual 73, 3) := by decide +kernel
theorem dL_law_537 : decode cL_law 537 = .ok (.aload_n 2, 1) := by decide +kernel
theorem dL_law_538 : decode cL_law 538 = .ok (.aload_n 0, 1) := by decide +kernel
theorem dL_law_539 : decode cL_law 539 = .ok (.iload_n 3, 1) := by decide +kernel
theorem dL_law_540 : decode cL_law 540 = .ok (.iconst 1, 1) := by decide +kernel
theorem dL_law_541 : decode cL_law 541 = .ok (.iadd, 1) := by decide +kernel
theorem dL_law_542 : decode cL_law 542 = .ok (.iaload, 1) := by decide +kernel
theorem dL_law_543 : decode cL_law 543 = .ok (.invokevirtual 76, 3) := by decide +kernel
theorem dL_law_546 : decode cL_law 546 = .ok (.if_icmp .eq 183, 3) := by decide +kernel
theorem dL_law_549 : decode cL_law 549 = .ok (.iconst 0, 1) := by decide +kernel
theorem dL_law_550 : decode cL_law 550 = .ok (.ireturn, 1) := by decide +kernel
theorem dL_law_551 : decode cL_law 551 = .ok (.aload_n 1, 1) := by decide +kernel
theorem dL_law_552 : decode cL_law 552 = .ok (.aload_n 0, 1) := by decide +kernel
theorem dL_law_553 : decode cL_law 553 = .ok (.iload_n 3, 1) := by decide +kernel
theorem dL_law_554 : decode cL_law 554 = .ok (.iconst 1, 1) := by decide +kernel
theorem dL_law_555 : decode cL_law 555 = .ok (.iadd, 1) := by decide +kernel
theorem dL_law_556 : decode cL_law 556 = .ok (.iaload, 1) := by decide +kernel
theorem dL_law_557 : decode cL_law 557 = .ok (.aload_n 0, 1) := by decide +kernel
theorem dL_law_558 : decode cL_law 558 = .ok (.iload_n 3, 1) := by decide +kernel
theorem dL_law_559 : decode cL_law 559 = .ok (.iconst 2, 1) := by decide +kernel
theorem dL_law_560 : decode cL_law 560 = .ok (.iadd, 1) := by decide +kernel
theorem dL_law_561 : decode cL_law 561 = .ok (.iaload, 1) := by decide +kernel
theorem dL_law_562 : decode cL_law 562 = .ok (.aload_n 0, 1) := by decide +kernel
theorem dL_law_563 : decode cL_law 563 = .ok (.iload_n 3, 1) := by decide +kernel
theorem dL_law_564 : decode cL_law 564 = .ok (.iconst 3, 1) := by decide +kernel
theorem dL_law_565 : decode cL_law 565 = .ok (.iadd, 1) := by decide +kernel
theorem dL_law_566 : decode cL_law 566 = .ok (.iaload, 1) := by decide +kernel
theorem dL_law_567 : decode cL_law 567 = .ok (.ifCond .eq 7, 3) := by decide +kernel
theorem dL_law_570 : decode cL_law 570 = .ok (.iconst 1, 1) := by decide +kernel
theorem dL_law_571 : decode cL_law 571 = .ok (.goto 4, 3) := by decide +kernel
theorem dL_law_574 : decode cL_law 574 = .ok (.iconst 0, 1) := by decide +kernel
theorem dL_law_575 : decode cL_law 575 = .ok (.invokevirtual 77, 3) := by decide +kernel
theorem dL_law_578 : decode cL_law 578 = .ok (.aload_n 2, 1) := by decide +kernel
theorem dL_law_579 : decode cL_law 579 = .ok (.aload_n 0, 1) := by decide +kernel
theorem dL_law_580 : decode cL_law 580 = .ok (.iload_n 3, 1) := by decide +kernel
theorem dL_law_581 : decode cL_law 581 = .ok (.iconst 1, 1) := by decide +kernel
theorem dL_law_582 : decode cL_law 582 = .ok (.iadd, 1) := by decide +kernel
theorem dL_law_583 : decode cL_law 583 = .ok (.iaload, 1) := by decide +kernel
theorem dL_law_584 : decode cL_law 584 = .ok (.aload_n 0, 1) := by decide +kernel
theorem dL_law_585 : decode cL_law 585 = .ok (.iload_n 3, 1) := by decide +kernel
theorem dL_law_586 : decode cL_law 586 = .ok (.iconst 2, 1) := by decide +kernel
theorem dL_law_587 : decode cL_law 587 = .ok (.iadd, 1) := by decide +kernel
theorem dL_law_588 : decode cL_law 588 = .ok (.iaload, 1) := by decide +kernel
theorem dL_law_589 : decode cL_law 589 = .ok (.aload_n 0, 1) := by decide +kernel
theorem dL_law_590 : decode cL_law 590 = .ok (.iload_n 3, 1) := by decide +kernel
theorem dL_law_591 : decode cL_law 591 = .ok (.iconst 3, 1) := by decide +kernel
theorem dL_law_592 : decode cL_law 592 = .ok (.iadd, 1) := by decide +kernel
theorem dL_law_593 : decode cL_law 593 = .ok (.iaload, 1) := by decide +kernel
theorem dL_law_594 : decode cL_law 594 = .ok (.ifCond .eq 7, 3) := by decide +kernel
theorem dL_law_597 : decode cL_law 597 = .ok (.iconst 1, 1) := by decide +kernel
theorem dL_law_598 : decode cL_law 598 = .ok (.goto 4, 3) := by decide +kernel
theorem dL_law_601 : decode cL_law 601 = .ok (.iconst 0, 1) := by decide +kernel
theorem dL_law_602 : decode cL_law 602 = .ok (.invokevirtual 81, 3) := by decide +kernel
theorem dL_law_605 : decode cL_law 605 = .ok (.if_icmp .eq 124, 3) := by decide +kernel
theorem dL_law_608 : decode cL_law 608 = .ok (.iconst 0, 1) := by decide +kernel
theorem dL_law_609 : decode cL_law 609 = .ok (.ireturn, 1) := by decide +kernel
theorem dL_law_610 : decode cL_law 610 = .ok (.aload_n 1, 1) := by decide +kernel
theorem dL_law_611 : decode cL_law 611 = .ok (.invokevirtual 82, 3) := by decide +kernel
theorem dL_law_614 : decode cL_law 614 = .ok (.aload_n 2, 1) := by decide +kernel
theorem dL_law_615 : decode cL_law 615 = .ok (.invokevirtual 85, 3) := by decide +kernel
theorem dL_law_618 : decode cL_law 618 = .ok (.if_icmp .eq 111, 3) := by decide +kernel
theorem dL_law_621 : decode cL_law 621 = .ok (.iconst 0, 1) := by decide +kernel
theorem dL_law_622 : decode cL_law 622 = .ok (.ireturn, 1) := by decide +kernel
theorem dL_law_623 : decode cL_law 623 = .ok (.aload_n 1, 1) := by decide +kernel
theorem dL_law_624 : decode cL_law 624 = .ok (.aload_n 0, 1) := by decide +kernel
theorem dL_law_625 : decode cL_law 625 = .ok (.iload_n 3, 1) := by decide +kernel
theorem dL_law_626 : decode cL_law 626 = .ok (.iconst 1, 1) := by decide +kernel
theorem dL_law_627 : decode cL_law 627 = .ok (.iadd, 1) := by decide +kernel
theorem dL_law_628 : decode cL_law 628 = .ok (.iaload, 1) := by decide +kernel
theorem dL_law_629 : decode cL_law 629 = .ok (.aload_n 0, 1) := by decide +kernel
theorem dL_law_630 : decode cL_law 630 = .ok (.iload_n 3, 1) := by decide +kernel
theorem dL_law_631 : decode cL_law 631 = .ok (.iconst 2, 1) := by decide +kernel
theorem dL_law_632 : decode cL_law 632 = .ok (.iadd, 1) := by decide +kernel
theorem dL_law_633 : decode cL_law 633 = .ok (.iaload, 1) := by decide +kernel
theorem dL_law_634 : decode cL_law 634 = .ok (.aload_n 0, 1) := by decide +kernel
theorem dL_law_635 : decode cL_law 635 = .ok (.iload_n 3, 1) := by decide +kernel
theorem dL_law_636 : decode cL_law 636 = .ok (.iconst 3, 1) := by decide +kernel
theorem dL_law_637 : decode cL_law 637 = .ok (.iadd, 1) := by decide +kernel
theorem dL_law_638 : decode cL_law 638 = .ok (.iaload, 1) := by decide +kernel
theorem dL_law_639 : decode cL_law 639 = .ok (.invokevirtual 86, 3) := by decide +kernel
theorem dL_law_642 : decode cL_law 642 = .ok (.aload_n 2, 1) := by decide +kernel
theorem dL_law_643 : decode cL_law 643 = .ok (.aload_n 0, 1) := by decide +kernel
theorem dL_law_644 : decode cL_law 644 = .ok (.iload_n 3, 1) := by decide +kernel
theorem dL_law_645 : decode cL_law 645 = .ok (.iconst 1, 1) := by decide +kernel
theorem dL_law_646 : decode cL_law 646 = .ok (.iadd, 1) := by decide +kernel
theorem dL_law_647 : decode cL_law 647 = .ok (.iaload, 1) := by decide +kernel
theorem dL_law_648 : decode cL_law 648 = .ok (.aload_n 0, 1) := by decide +kernel
theorem dL_law_649 : decode cL_law 649 = .ok (.iload_n 3, 1) := by decide +kernel
theorem dL_law_650 : decode cL_law 650 = .ok (.iconst 2, 1) := by decide +kernel
theorem dL_law_651 : decode cL_law 651 = .ok (.iadd, 1) := by decide +kernel
theorem dL_law_652 : decode cL_law 652 = .ok (.iaload, 1) := by decide +kernel
theorem dL_law_653 : decode cL_law 653 = .ok (.aload_n 0, 1) := by decide +kernel
theorem dL_law_654 : decode cL_law 654 = .ok (.iload_n 3, 1) := by decide +kernel
theorem dL_law_655 : decode cL_law 655 = .ok (.iconst 3, 1) := by decide +kernel
theorem dL_law_656 : decode cL_law 656 = .ok (.iadd, 1) := by decide +kernel
theorem dL_law_657 : decode cL_law 657 = .ok (.iaload, 1) := by decide +kernel
theorem dL_law_658 : decode cL_law 658 = .ok (.invokevirtual 89, 3) := by decide +kernel
theorem dL_law_661 : decode cL_law 661 = .ok (.if_icmp .eq 68, 3) := by decide +kernel
theorem dL_law_664 : decode cL_law 664 = .ok (.iconst 0, 1) := by decide +kernel
theorem dL_law_665 : decode cL_law 665 = .ok (.ireturn, 1) := by decide +kernel
theorem dL_law_666 : decode cL_law 666 = .ok (.aload_n 1, 1) := by decide +kernel
theorem dL_law_667 : decode cL_law 667 = .ok (.invokevirtual 90, 3) := by decide +kernel
theorem dL_law_670 : decode cL_law 670 = .ok (.aload_n 2, 1) := by decide +kernel
theorem dL_law_671 : decode cL_law 671 = .ok (.invokevirtual 93, 3) := by decide +kernel
theorem dL_law_674 : decode cL_law 674 = .ok (.if_icmp .eq 55, 3) := by decide +kernel
theorem dL_law_677 : decode cL_law 677 = .ok (.iconst 0, 1) := by decide +kernel
theorem dL_law_678 : decode cL_law 678 = .ok (.ireturn, 1) := by decide +kernel
theorem dL_law_679 : decode cL_law 679 = .ok (.aload_n 1, 1) := by decide +kernel
theorem dL_law_680 : decode cL_law 680 = .ok (.invokevirtual 94, 3) := by decide +kernel
theorem dL_law_683 : decode cL_law 683 = .ok (.aload_n 2, 1) := by decide +kernel
theorem dL_law_684 : decode cL_law 684 = .ok (.invokevirtual 97, 3) := by decide +kernel
theorem dL_law_687 : decode cL_law 687 = .ok (.if_icmp .eq 42, 3) := by decide +kernel
theorem dL_law_690 : decode cL_law 690 = .ok (.iconst 0, 1) := by decide +kernel
theorem dL_law_691 : decode cL_law 691 = .ok (.ireturn, 1) := by decide +kernel
theorem dL_law_692 : decode cL_law 692 = .ok (.aload_n 1, 1) := by decide +kernel
theorem dL_law_693 : decode cL_law 693 = .ok (.aload_n 0, 1) := by decide +kernel
theorem dL_law_694 : decode cL_law 694 = .ok (.iload_n 3, 1) := by decide +kernel
theorem dL_law_695 : decode cL_law 695 = .ok (.iconst 1, 1) := by decide +kernel
theorem dL_law_696 : decode cL_law 696 = .ok (.iadd, 1) := by decide +kernel
theorem dL_law_697 : decode cL_law 697 = .ok (.iaload, 1) := by decide +kernel
theorem dL_law_698 : decode cL_law 698 = .ok (.invokevirtual 98, 3) := by decide +kernel
theorem dL_law_701 : decode cL_law 701 = .ok (.aload_n 2, 1) := by decide +kernel
theorem dL_law_702 : decode cL_law 702 = .ok (.aload_n 0, 1) := by decide +kernel
theorem dL_law_703 : decode cL_law 703 = .ok (.iload_n 3, 1) := by decide +kernel
theorem dL_law_704 : decode cL_law 704 = .ok (.iconst 1, 1) := by decide +kernel
theorem dL_law_705 : decode cL_law 705 = .ok (.iadd, 1) := by decide +kernel
theorem dL_law_706 : decode cL_law 706 = .ok (.iaload, 1) := by decide +kernel
theorem dL_law_707 : decode cL_law 707 = .ok (.invokevirtual 101, 3) := by decide +kernel
theorem dL_law_710 : decode cL_law 710 = .ok (.if_icmp .eq 19, 3) := by decide +kernel
theorem dL_law_713 : decode cL_law 713 = .ok (.iconst 0, 1) := by decide +kernel
theorem dL_law_714 : decode cL_law 714 = .ok (.ireturn, 1) := by decide +kernel
theorem dL_law_715 : decode cL_law 715 = .ok (.aload_n 1, 1) := by decide +kernel
theorem dL_law_716 : decode cL_law 716 = .ok (.invokevirtual 102, 3) := by decide +kernel
theorem dL_law_719 : decode cL_law 719 = .ok (.aload_n 2, 1) := by decide +kernel
theorem dL_law_720 : decode cL_law 720 = .ok (.invokevirtual 106, 3) := by decide +kernel
theorem dL_law_723 : decode cL_law 723 = .ok (.lcmp, 1) := by decide +kernel
theorem dL_law_724 : decode cL_law 724 = .ok (.ifCond .eq 5, 3) := by decide +kernel
theorem dL_law_727 : decode cL_law 727 = .ok (.iconst 0, 1) := by decide +kernel
theorem dL_law_728 : decode cL_law 728 = .ok (.ireturn, 1) := by decide +kernel
theorem dL_law_729 : decode cL_law 729 = .ok (.iinc 3 4, 3) := by decide +kernel
theorem dL_law_732 : decode cL_law 732 = .ok (.goto (-714), 3) := by decide +kernel
theorem dL_law_735 : decode cL_law 735 = .ok (.iconst 1, 1) := by decide +kernel
theorem dL_law_736 : decode cL_law 736 = .ok (.ireturn, 1) := by decide +kernel
end
section
def GG : List Cond := lw_tbl.filter goodWord
theorem GG_mem {w : Cond} (h : w ∈ lw_tbl) (hg : goodWord w = true) : w ∈ GG := List.mem_filter.mpr ⟨h, hg⟩
theorem GG_good {w : Cond} (h : w ∈ GG) : (w.onTables && w.keeps) = true ∨ ∃ ty, w = .arrayClass ty := good_of_word (List.mem_filter.mp h).2
theorem GG_tbl {w : Cond} (h : w ∈ GG) : w ∈ lw_tbl := (List.mem_filter.mp h).1
theorem GG_at (k : Nat) {w : Cond} (h : tables_1[k]? = some w) (hg : goodWord w = true) : w ∈ GG := GG_mem (List.mem_append_right _ (List.mem_of_getElem? h)) hg
theorem GG_sel (k : Nat) {w : Cond} (h : (k2_sels lw_privs)[k]? = some w) (hg : goodWord w = true) : w ∈ GG := GG_mem (List.mem_append_left _ (List.mem_of_getElem? h)) hg
theorem GG_sub (ws : List Cond) (ps : List Nat) (hp : ws = ps.filterMap (fun i => tables_1[i]?)) (hg : ws.all goodWord = true) : ∀ w ∈ ws, w ∈ GG := by
  intro w hw
  have h1 := List.all_eq_true.mp hg w hw
  rw [hp] at hw
  obtain ⟨i, -, hi⟩ := List.mem_filterMap.mp hw
  exact GG_at i hi h1
abbrev wsG (y : MethodName) (c : ByteArray) (n : Nat) (r : Option FieldType) : List Cond := .code y c n r :: GG
theorem wsG_good {y : MethodName} {c : ByteArray} {n : Nat} {r : Option FieldType} (h : Cond.code y c n r ∈ GG) : GoodIn GG (wsG y c n r) := by
  intro w hw
  rcases List.mem_cons.mp hw with rfl | hw
  · exact ⟨h, GG_good h⟩
  · exact ⟨hw, GG_good hw⟩
/-! what the machine's statics hold -/
def kso (j : Nat) : Int32 := match j with
  | 0 => 25
  | 1 => 23
  | 2 => 6
  | _ => 16
def ST (ks sk sv : Nat) (A : Nat → Prop) (U : State) (H : Heap) : Prop :=
  va_Z "PlaySeason" "KINDS_IF_SO" "[I" (.ref ks) A U H ∧ va_T .int ks 4 (fun j => .int (kso j)) A U H ∧ va_Z "java/lang/String" "COMPACT_STRINGS" "Z" (.int 1) A U H ∧ vk_R "PlaySeason$Page" 31 "tgfrd" sk U ∧ vk_R "PlaySeason$Title" 32 "tgfrd" sk U ∧ vk_S 1 [5] [[116, 103, 102, 114, 100]] (fun _ => sk) (fun _ => sv) A U H
theorem ST.warm {ks sk sv : Nat} {A : Nat → Prop} {s U : State} {H : Heap} (hW : s.WarmedH U.vm) (h : ST ks sk sv A s H) : ST ks sk sv A U H :=
  ⟨va_Z.moved hW.alike h.1, va_T.moved hW.alike h.2.1, va_Z.moved hW.alike h.2.2.1, vk_R.warm hW h.2.2.2.1, vk_R.warm hW h.2.2.2.2.1, vk_S.moved hW.alike h.2.2.2.2.2⟩
theorem ST.same {ks sk sv : Nat} {A : Nat → Prop} {u U : State} {H : Heap} (hv : U.vm = u.vm) (h : ST ks sk sv A u H) : ST ks sk sv A U H := by
  have ha : u.vm.Alike U.vm := by rw [hv]; exact Vm.Alike.refl u.vm
  exact ⟨va_Z.moved ha h.1, va_T.moved ha h.2.1, va_Z.moved ha h.2.2.1, vk_R.same hv h.2.2.2.1, vk_R.same hv h.2.2.2.2.1, vk_S.moved ha h.2.2.2.2.2⟩
theorem ST.kept {ks sk sv : Nat} {A : Nat → Prop} {U : State} {H H1 : Heap} (h : ST ks sk sv A U H) (hq : ∀ a : Nat, a < H.size → ¬ A a → H1[a]? = H[a]?) : ST ks sk sv A U H1 :=
  ⟨h.1.kept hq, h.2.1.kept hq, h.2.2.1.kept hq, h.2.2.2.1, h.2.2.2.2.1, h.2.2.2.2.2.kept hq⟩
theorem ST.narrow {ks sk sv : Nat} {A B : Nat → Prop} {U : State} {H : Heap} (h : ST ks sk sv A U H) (hAB : ∀ q, B q → A q) : ST ks sk sv B U H :=
  ⟨h.1.narrow hAB, h.2.1.narrow hAB, h.2.2.1.narrow hAB, h.2.2.2.1, h.2.2.2.2.1, h.2.2.2.2.2.narrow hAB⟩
def nestQ : List (String × Nat × MethodName × String) := [("PlaySeason", 9, ⟨"PlaySeason$Page", "<init>", "()V"⟩, "PlaySeason"), ("PlaySeason", 18, ⟨"PlaySeason$Season", "<init>", "()V"⟩, "PlaySeason"), ("PlaySeason$Titles", 17, ⟨"PlaySeason$Title", "<init>", "()V"⟩, "PlaySeason"), ("PlaySeason$Season", 27, ⟨"PlaySeason$Seen", "<init>", "()V"⟩, "PlaySeason"), ("PlaySeason$Plan", 58, ⟨"PlaySeason", "isNight", "(I)Z"⟩, "PlaySeason")]
abbrev tyL (kB kI kT : ClassId) : List (ClassId × FieldType) := [(kI, .int), (kB, .byte), (kT, .object "PlaySeason$Title")]
def EN (D : va_G) (kB kI kT : ClassId) (ks sk sv : Nat) (A : Nat → Prop) (U : State) : Prop :=
  va_K D vwCl (tyL kB kI kT) U ∧ (∀ q ∈ nestQ, va_Nw (.methodLinkNest q.1 q.2.1 q.2.2.1 q.2.2.2) U) ∧ ST ks sk sv A U U.heap
def NA : Nat → Prop := fun _ => False
def NT : Nat → Prop := fun _ => True
def AA (ws : va_W) : Nat → Prop := fun q => ∃ (k : Nat) (e : va_E), ws[k]? = some (q, e)
section RULES
variable {l : Launch} {D : va_G} {kB kI kT : ClassId} {ks sk sv : Nat}
theorem EN.go {A B : Nat → Prop} {s U : State} {H : Heap} {locs : List Loc} (h : EN D kB kI kT ks sk sv A s) (hS : va_S A s.heap H locs) (hH : U.heap = H) (hW : s.WarmedH U.vm) (hAB : ∀ q, B q → A q) : EN D kB kI kT ks sk sv B U :=
  ⟨va_K.moved hW.alike h.1, fun q hq => va_Nw.warmM hW (h.2.1 q hq), by rw [hH]; exact (ST.warm hW (h.2.2.kept hS.2.1)).narrow hAB⟩
theorem EN.calling {A : Nat → Prop} {U : State} {g : JFrame} {mk : MethodId} {a : Array Value} (h : EN D kB kI kT ks sk sv A U) : EN D kB kI kT ks sk sv A (U.calling g mk a) :=
  ⟨va_K.moved (u := U) (U := U.calling g mk a) (Vm.Alike.refl U.vm) h.1, fun q hq => va_Nw.same rfl (u := U) (U := U.calling g mk a) rfl (h.2.1 q hq), ST.same (u := U) (U := U.calling g mk a) rfl h.2.2⟩
def QR (w : Option Value) : Array Value → State → Outcome → State → Prop := fun _ st o t => o = .returned w ∧ t.heap = st.heap
def QW (D : va_G) (w : Option Value) (w1 : va_W) (A : Nat → Prop) : Array Value → State → Outcome → State → Prop := fun _ st o t => (o = .returned w ∧ va_P D vwCl w1 t.heap) ∧ va_F A st t
def PR (D : va_G) (kB kI kT : ClassId) (ks sk sv : Nat) (as : List Value) (ws : va_W) : Array Value → State → Prop := va_Pc as (fun U => EN D kB kI kT ks sk sv NA U ∧ va_P D vwCl ws U.heap)
def PW (D : va_G) (kB kI kT : ClassId) (ks sk sv : Nat) (as : List Value) (ws : va_W) : Array Value → State → Prop := va_Pc as (fun U => EN D kB kI kT ks sk sv (AA ws) U ∧ va_P D vwCl ws U.heap ∧ va_D NT ws)
def rmO (fr lo : Nat) : Room := { frames := fr, cells := 0, slots := 0, locals := lo }
def MR (l : Launch) (y : MethodName) (c : ByteArray) (n : Nat) (ret : Option FieldType) (fr lo : Nat) (D : va_G) (kB kI kT : ClassId) (ks sk sv : Nat) (as : List Value) (ws : va_W) (w : Option Value) : Prop :=
  Met l y (wsG y c n ret) (rmO fr lo) (PR D kB kI kT ks sk sv as ws) (QR w) 0 0 NA
def MW (l : Launch) (y : MethodName) (c : ByteArray) (n : Nat) (ret : Option FieldType) (fr lo : Nat) (D : va_G) (kB kI kT : ClassId) (ks sk sv : Nat) (as : List Value) (ws : va_W) (w : Option Value) (w1 : va_W) : Prop :=
  Met l y (wsG y c n ret) (rmO fr lo) (PW D kB kI kT ks sk sv as ws) (QW D w w1 (AA ws)) 0 0 (AA ws)
theorem PR_blind {as : List Value} {ws : va_W} : FrameBlind (PR D kB kI kT ks sk sv as ws) := fun _ _ _ _ q => ⟨q.1, q.2.1.calling, q.2.2⟩
theorem PW_blind {as : List Value} {ws : va_W} : FrameBlind (PW D kB kI kT ks sk sv as ws) := fun _ _ _ _ q => ⟨q.1, q.2.1.calling, q.2.2.1, q.2.2.2⟩
theorem AA_self {ws : va_W} {A : Nat → Prop} (h : va_D A ws) : va_D (AA ws) ws := ⟨h.1, fun k q hk => ⟨k, q.2, hk⟩⟩
theorem MR.of {y : MethodName} {c : ByteArray} {n : Nat} {ret : Option FieldType} {fr lo : Nat} {as : List Value} {ws : va_W} {w : Option Value} (hy : plainName y.cls = true) (hn : (lg_sl as).length ≤ n)
    (body : ∀ (p : Program) (e : Env) (s : State) (m : MethodId) (below : List Frame) (meth : Method) (c0 : Code) (ls : Array Slot), p.tables.exec = Jvm.exec → c0.code = c → meth.sig.returnType = ret → c0.maxLocals = n → s.vm.findClass y.cls = some m.cls → (∀ w ∈ GG, w.before as.toArray s = true) → meth.locks = false → EN D kB kI kT ks sk sv NA s → va_P D vwCl ws s.heap → va_S NA s.heap s.heap [] → lv_has ls n (lv_args 0 as) →
      W p l e (rmO fr lo) s m as.toArray below meth c0 s.heap [] 0 0 (MQ below (QR w) as.toArray s 0 0 NA) (F0 m 0 ls [])) : MR l y c n ret fr lo D kB kI kT ks sk sv as ws w := by
  refine Met.ofW (cc := c) (maxL := n) (ret := ret) hy rfl ?_
  intro p e s m args below meth c0 s₁ B hml hv
  obtain ⟨rfl, hE, hP⟩ := hv
  have hts := atoms_spec (ws := wsG y c n ret) B.pre
  rw [lg_entry_eq]
  exact body p e s m below meth c0 _ B.exec B.bytes B.returns hml (findClass_of_methodNamed B.named) (fun w hw => hts w (List.mem_cons_of_mem _ hw)) B.notSynchronized hE hP va_S.rf (lv_entry as hn)
theorem MW.of {y : MethodName} {c : ByteArray} {n : Nat} {ret : Option FieldType} {fr lo : Nat} {as : List Value} {ws w1 : va_W} {w : Option Value} (hy : plainName y.cls = true) (hn : (lg_sl as).length ≤ n)
    (body : ∀ (p : Program) (e : Env) (s : State) (m : MethodId) (below : List Frame) (meth : Method) (c0 : Code) (ls : Array Slot) (A : Nat → Prop), p.tables.exec = Jvm.exec → c0.code = c → meth.sig.returnType = ret → c0.maxLocals = n → s.vm.findClass y.cls = some m.cls → (∀ w ∈ GG, w.before as.toArray s = true) → meth.locks = false → EN D kB kI kT ks sk sv A s → va_P D vwCl ws s.heap → va_D A ws → va_S A s.heap s.heap [] → lv_has ls n (lv_args 0 as) →
      W p l e (rmO fr lo) s m as.toArray below meth c0 s.heap [] 0 0 (MQ below (QW D w w1 A) as.toArray s 0 0 A) (F0 m 0 ls [])) : MW l y c n ret fr lo D kB kI kT ks sk sv as ws w w1 := by
  refine Met.ofW (cc := c) (maxL := n) (ret := ret) hy rfl ?_
  intro p e s m args below meth c0 s₁ B hml hv
  obtain ⟨rfl, hE, hP, hD⟩ := hv
  have hts := atoms_spec (ws := wsG y c n ret) B.pre
  rw [lg_entry_eq]
  exact body p e s m below meth c0 _ (AA ws) B.exec B.bytes B.returns hml (findClass_of_methodNamed B.named) (fun w hw => hts w (List.mem_cons_of_mem _ hw)) B.notSynchronized hE hP (AA_self hD) va_S.rf (lv_entry as hn)
/-! call words -/
def CWV (own : String) (index : Nat) (y : MethodName) (bytes : ByteArray) (maxL : Nat) (ret : Option FieldType) (n : Nat) : Prop :=
  (Cond.methodLink own index y ∈ GG ∧ Cond.instanceMethod y ∈ GG ∧ Cond.selects y.cls y y ∈ GG ∧ Cond.initialized y.cls ∈ GG ∧ Cond.code y bytes maxL ret ∈ GG) ∧ y.cls ≠ "java/lang/invoke/MethodHandle" ∧ y.cls ≠ "java/lang/invoke/VarHandle" ∧ (parseMethodDescriptor y.desc).map (fun d => d.parameters.length) = some n
def CWS (own : String) (index : Nat) (y : MethodName) (bytes : ByteArray) (maxL : Nat) (ret : Option FieldType) (n : Nat) : Prop :=
  (Cond.methodLink own index y ∈ GG ∧ Cond.static y ∈ GG ∧ Cond.initialized y.cls ∈ GG ∧ Cond.code y bytes maxL ret ∈ GG) ∧ y.cls ≠ "java/lang/invoke/MethodHandle" ∧ y.cls ≠ "java/lang/invoke/VarHandle" ∧ (parseMethodDescriptor y.desc).map (fun d => d.parameters.length) = some n
def CNS (own : String) (index : Nat) (y : MethodName) (host : String) (bytes : ByteArray) (maxL : Nat) (ret : Option FieldType) (n : Nat) : Prop :=
  ((own, index, y, host) ∈ nestQ ∧ Cond.static y ∈ GG ∧ Cond.initialized y.cls ∈ GG ∧ Cond.code y bytes maxL ret ∈ GG) ∧ y.cls ≠ "java/lang/invoke/MethodHandle" ∧ y.cls ≠ "java/lang/invoke/VarHandle" ∧ (parseMethodDescriptor y.desc).map (fun d => d.parameters.length) = some n
variable {p : Program} {e : Env} {R : Room} {s : State} {m : MethodId} {args : Array Value} {below : List Frame} {meth : Method} {c : Code} {H : Heap} {locs : List Loc} {cells slots : Nat} {Q : State → Prop}
variable {own : String} {index : Nat} {y : MethodName} {bytes cc : ByteArray} {maxL nL n : Nat} {ret : Option FieldType} {fr lo : Nat} {As rest st0 : List Value} {b pc : Nat} {ls : Array Slot} {ws w1 wc : va_W} {A : Nat → Prop} {w : Option Value}
theorem CWV.cw {rm : Room} (h : CWV own index y bytes maxL ret n) (ht : ∀ w ∈ GG, w.before args s = true) (hrc : rm.cells = 0) (hrs : rm.slots = 0) (hR : rm.frames + 1 ≤ R.frames ∧ 8 + (maxL + 11) + rm.locals ≤ R.locals) : CallW R s args own y.cls index y bytes maxL ret (wsG y bytes maxL ret) rm 0 0 n :=
  ⟨callB_of n ht (wsG_good h.1.2.2.2.2) rfl hrc hrs (ht _ h.1.2.2.2.1) (ht _ h.1.1) h.2 hR, ht _ h.1.2.1, ht _ h.1.2.2.1⟩
theorem CWS.cw {rm : Room} (h : CWS own index y bytes maxL ret n) (ht : ∀ w ∈ GG, w.before args s = true) (hrc : rm.cells = 0) (hrs : rm.slots = 0) (hR : rm.frames + 1 ≤ R.frames ∧ 8 + (maxL + 11) + rm.locals ≤ R.locals) : CallB R s args own index y bytes maxL ret (wsG y bytes maxL ret) rm 0 0 n ∧ (Cond.static y).before args s = true :=
  ⟨callB_of n ht (wsG_good h.1.2.2.2) rfl hrc hrs (ht _ h.1.2.2.1) (ht _ h.1.1) h.2 hR, ht _ h.1.2.1⟩
/-! a reader's call -/
theorem rdK {args' : Array Value} (hr : CallRun p l e R s m args below meth c H locs cells slots 0 0 (F0 m pc ls st0) rest (QR w args') NA) (kk : W p l e R s m args below meth c H locs cells slots Q (F0 m (pc + 3) ls (w.toList ++ rest))) : W p l e R s m args below meth c H locs cells slots Q (F0 m pc ls st0) := by
  intro T hT X
  obtain ⟨v, st₀, t, T', L, h0, X', hL, e1, ⟨hv, hh⟩, st⟩ := hr T hT X
  cases hv
  obtain ⟨t2, a1, b1⟩ := kk T' (by rw [e1, hh, h0]) (Stand.forget X' (fun q h => (hL q h).elim))
  exact ⟨t2, st t2 a1, b1⟩
theorem rV (S : CallFix p m c cc nL s args GG own) (hM : MR l y bytes maxL ret fr lo D kB kI kT ks sk sv (.ref b :: As) ws w) (cw : CWV own index y bytes maxL ret n) (hR : fr + 1 ≤ R.frames ∧ 8 + (maxL + 11) + lo ≤ R.locals) (hE : EN D kB kI kT ks sk sv A s) (hS : va_S A s.heap H locs) (hP : va_P D vwCl ws H)
    {ci : Nat} {fs : List Value} {q : vw_C} (hrc : ws[0]? = some (b, .inr (ci, fs))) (hcl : vwCl[ci]? = some q) (hq : q.1 = y.cls) (hn : As.length = n) (hsize : ls.size = nL) (hst : st0 = As.reverse ++ .ref b :: rest) (hcat : (rest.map fun v => v.category).sum ≤ 8) (hdg : decode cc pc = .ok (.invokevirtual index, 3)) (hf : cells + 0 ≤ R.cells ∧ slots + 0 ≤ R.slots)
    (kk : W p l e R s m args below meth c H locs cells slots Q (F0 m (pc + 3) ls (w.toList ++ rest))) : W p l e R s m args below meth c H locs cells slots Q (F0 m pc ls st0) := by
  refine rdK (args' := (Value.ref b :: As).toArray) (W.runV (C := y.cls) (n := n) S hM (cw.cw S.2.2.2.2 rfl rfl hR) ⟨PR_blind, ?_, fun U hU hW => ⟨rfl, hE.go hS hU hW (fun _ h => h.elim), by rw [hU]; exact hP⟩⟩ rfl hn hsize hst (lv_room hcat) hdg hf) kk
  rw [← hq]
  exact va_recv hE.1 hP hcl hrc
theorem rS (S : CallFix p m c cc nL s args GG own) (hM : MR l y bytes maxL ret fr lo D kB kI kT ks sk sv As ws w) (cw : CWS own index y bytes maxL ret n) (hR : fr + 1 ≤ R.frames ∧ 8 + (maxL + 11) + lo ≤ R.locals) (hE : EN D kB kI kT ks sk sv A s) (hS : va_S A s.heap H locs) (hP : va_P D vwCl ws H)
    (hn : As.length = n) (hsize : ls.size = nL) (hst : st0 = As.reverse ++ rest) (hcat : (rest.map fun v => v.category).sum ≤ 8) (hdg : decode cc pc = .ok (.invokestatic index, 3)) (hf : cells + 0 ≤ R.cells ∧ slots + 0 ≤ R.slots)
    (kk : W p l e R s m args below meth c H locs cells slots Q (F0 m (pc + 3) ls (w.toList ++ rest))) : W p l e R s m args below meth c H locs cells slots Q (F0 m pc ls st0) :=
  rdK (args' := As.toArray) (W.runS (n := n) S hM (cw.cw S.2.2.2.2 rfl rfl hR) ⟨PR_blind, fun U hU hW => ⟨rfl, hE.go hS hU hW (fun _ h => h.elim), by rw [hU]; exact hP⟩⟩ rfl hn hsize hst (lv_room hcat) hdg hf) kk
theorem rSN {host : String} (S : CallFix p m c cc nL s args GG own) (hM : MR l y bytes maxL ret fr lo D kB kI kT ks sk sv As ws w) (cw : CNS own index y host bytes maxL ret n) (hR : fr + 1 ≤ R.frames ∧ 8 + (maxL + 11) + lo ≤ R.locals) (hE : EN D kB kI kT ks sk sv A s) (hS : va_S A s.heap H locs) (hP : va_P D vwCl ws H)
    (hn : As.length = n) (hsize : ls.size = nL) (hst : st0 = As.reverse ++ rest) (hcat : (rest.map fun v => v.category).sum ≤ 8) (hdg : decode cc pc = .ok (.invokestatic index, 3)) (hf : cells + 0 ≤ R.cells ∧ slots + 0 ≤ R.slots)
    (kk : W p l e R s m args below meth c H locs cells slots Q (F0 m (pc + 3) ls (w.toList ++ rest))) : W p l e R s m args below meth c H locs cells slots Q (F0 m pc ls st0) := by
  have hr := va_runSN (n := n) (rest := rest) S hM ⟨va_cnB n S.2.2.2.2 (wsG_good cw.1.2.2.2) rfl rfl rfl (hE.2.1 _ cw.1.1) (S.2.2.2.2 _ cw.1.2.2.1) cw.2 hR, S.2.2.2.2 _ cw.1.2.1, trivial⟩ ⟨PR_blind, fun U hU hW => ⟨rfl, hE.go hS hU hW (fun _ h => h.elim), by rw [hU]; exact hP⟩⟩ (g := F0 m pc ls st0) rfl hn hsize hst (lv_room hcat) hdg hf (H := H) (locs := locs) (cells := cells) (slots := slots) (meth := meth) (below := below) (e := e) (p := p)
  intro T hT X
  obtain ⟨v, st₀, t, T', L, h0, X', hL, e1, -, ⟨hv, hh⟩, st⟩ := hr T hT X
  cases hv
  obtain ⟨t2, a1, b1⟩ := kk T' (by rw [e1, hh, h0]) (Stand.forget X' (fun q h => (hL q h).elim))
  exact ⟨t2, st t2 a1, b1⟩
end RULES
end
section
def spl : va_W → List Nat → va_W → va_W
  | ws, i :: is, c :: cs => spl (ws.set i c) is cs
  | ws, _, _ => ws
theorem spl_get : ∀ (is : List Nat) (ws w1 : va_W), is.length = w1.length → ∀ (k : Nat) (q : Nat × va_E), (spl ws is w1)[k]? = some q → (∃ j : Nat, is[j]? = some k ∧ w1[j]? = some q) ∨ (k ∉ is ∧ ws[k]? = some q)
  | [], ws, w1, _, k, q, h => by
    refine Or.inr ⟨by simp, ?_⟩
    cases w1 <;> exact h
  | i :: is, ws, [], hl, k, q, h => by simp at hl
  | i :: is, ws, c :: cs, hl, k, q, h => by
    have hl' : is.length = cs.length := by simpa using hl
    rcases spl_get is (ws.set i c) cs hl' k q h with ⟨j, h1, h2⟩ | ⟨h1, h2⟩
    · exact Or.inl ⟨j + 1, by simpa using h1, by simpa using h2⟩
    · by_cases hk : k = i
      · subst hk
        rw [List.getElem?_set] at h2
        simp only [if_true] at h2
        split at h2
        · exact Or.inl ⟨0, by simp, by simpa using h2⟩
        · cases h2
      · rw [List.getElem?_set_ne (fun h => hk h.symm)] at h2
        refine Or.inr ⟨fun hm => ?_, h2⟩
        rcases List.mem_cons.mp hm with h | h
        · exact hk h
        · exact h1 h
theorem spl_at {is : List Nat} {ws wc : va_W} (hC : is.map (fun i => ws[i]?) = wc.map some) {j k : Nat} (h : is[j]? = some k) : ws[k]? = wc[j]? := by
  have h1 : (is.map (fun i => ws[i]?))[j]? = some (ws[k]?) := by rw [List.getElem?_map, h]; rfl
  rw [hC, List.getElem?_map] at h1
  cases hw : wc[j]? with
  | none => rw [hw] at h1; cases h1
  | some x => rw [hw] at h1; exact (Option.some.inj h1).symm
theorem spl_ok {D : va_G} {A : Nat → Prop} {ws wc w1 : va_W} {H H1 : Heap} (hP : va_P D vwCl ws H) (hD : va_D A ws) (is : List Nat) (hC : is.map (fun i => ws[i]?) = wc.map some) (ha : w1.map (fun q => q.1) = wc.map (fun q => q.1)) (hP1 : va_P D vwCl w1 H1) (hk : ∀ q : Nat, q < H.size → ¬ AA wc q → H1[q]? = H[q]?) :
    va_P D vwCl (spl ws is w1) H1 ∧ va_D A (spl ws is w1) := by
  have hlen : is.length = w1.length := by
    have h1 := congrArg List.length hC
    have h2 := congrArg List.length ha
    simp at h1 h2
    omega
  have key : ∀ (k : Nat) (q : Nat × va_E), (spl ws is w1)[k]? = some q → ∃ q0 : Nat × va_E, ws[k]? = some q0 ∧ q0.1 = q.1 := by
    intro k q h
    rcases spl_get is ws w1 hlen k q h with ⟨j, h1, h2⟩ | ⟨h1, h2⟩
    · have h3 := spl_at hC h1
      have h4 : (w1.map (fun q => q.1))[j]? = some q.1 := by rw [List.getElem?_map, h2]; rfl
      rw [ha, List.getElem?_map] at h4
      cases hw : wc[j]? with
      | none => rw [hw] at h4; cases h4
      | some x => rw [hw] at h4 h3; exact ⟨x, h3, Option.some.inj h4⟩
    · exact ⟨q, h2, rfl⟩
  refine ⟨fun k q h => ?_, fun i j x y hx hy hxy => ?_, fun k q h => ?_⟩
  · rcases spl_get is ws w1 hlen k q h with ⟨j, h1, h2⟩ | ⟨h1, h2⟩
    · exact hP1 j q h2
    · refine (hP k q h2).kept (hk q.1 (hP k q h2).lt (fun hA => ?_))
      obtain ⟨j, e, hj⟩ := hA
      have hjl : j < is.length := by
        have h3 := congrArg List.length hC
        simp at h3
        rw [h3]
        exact (List.getElem?_eq_some_iff.mp hj).1
      obtain ⟨i, hi⟩ : ∃ i, is[j]? = some i := ⟨is[j], List.getElem?_eq_getElem hjl⟩
      have h4 := spl_at hC hi
      rw [hj] at h4
      have h5 := hD.1 k i q (q.1, e) h2 h4 rfl
      subst h5
      exact h1 (List.mem_of_getElem? hi)
  · obtain ⟨x0, hx0, hx1⟩ := key i x hx
    obtain ⟨y0, hy0, hy1⟩ := key j y hy
    exact hD.1 i j x0 y0 hx0 hy0 (by rw [hx1, hy1, hxy])
  · obtain ⟨q0, h0, h1⟩ := key k q h
    rw [← h1]
    exact hD.2 k q0 h0
section RULES2
variable {l : Launch} {D : va_G} {kB kI kT : ClassId} {ks sk sv : Nat}
variable {p : Program} {e : Env} {R : Room} {s : State} {m : MethodId} {args : Array Value} {below : List Frame} {meth : Method} {c : Code} {H : Heap} {locs : List Loc} {cells slots : Nat} {Q : State → Prop}
variable {own : String} {index : Nat} {y : MethodName} {bytes cc : ByteArray} {maxL nL n : Nat} {ret : Option FieldType} {fr lo : Nat} {As rest st0 : List Value} {b pc : Nat} {ls : Array Slot} {ws w1 wc : va_W} {A : Nat → Prop} {w : Option Value}
theorem wrK {args' : Array Value} (hr : CallRun p l e R s m args below meth c H locs cells slots 0 0 (F0 m pc ls st0) rest (QW D w w1 (AA wc) args') (AA wc)) (hS : va_S A s.heap H locs) (hP : va_P D vwCl ws H) (hD : va_D A ws) (is : List Nat) (hC : is.map (fun i => ws[i]?) = wc.map some) (ha : w1.map (fun q => q.1) = wc.map (fun q => q.1))
    (kk : ∀ (H1 : Heap) (locs1 : List Loc), va_P D vwCl (spl ws is w1) H1 → va_D A (spl ws is w1) → va_S A s.heap H1 locs1 → W p l e R s m args below meth c H1 locs1 cells slots Q (F0 m (pc + 3) ls (w.toList ++ rest))) : W p l e R s m args below meth c H locs cells slots Q (F0 m pc ls st0) := by
  intro T hT X
  obtain ⟨v, st₀, t, T', L, h0, X', hL, e1, ⟨⟨hv, hp1⟩, hz, hk⟩, st⟩ := hr T hT X
  cases hv
  rw [h0] at hz hk
  have hsub : ∀ q, AA wc q → A q := by
    intro q ⟨j, e, hj⟩
    have hjl : j < is.length := by
      have h3 := congrArg List.length hC
      simp at h3
      rw [h3]
      exact (List.getElem?_eq_some_iff.mp hj).1
    have hi : is[j]? = some is[j] := List.getElem?_eq_getElem hjl
    have h4 := spl_at hC hi
    rw [hj] at h4
    exact hD.2 _ _ h4
  rw [← e1] at hp1 hz hk
  obtain ⟨g1, g2⟩ := spl_ok hP hD is hC ha hp1 hk
  obtain ⟨t2, a1, b1⟩ := kk T'.heap (locs ++ L) g1 g2
    ⟨Nat.le_trans hS.1 hz, fun q h1 h2 => by rw [hk q (Nat.lt_of_lt_of_le h1 hS.1) (fun z => h2 (hsub q z))]; exact hS.2.1 q h1 h2, fun q hq => by
      rcases List.mem_append.mp hq with h | h
      · exact hS.2.2 q h
      · exact hsub _ (hL q h)⟩ T' rfl X'
  exact ⟨t2, st t2 a1, b1⟩
theorem sub_AA (hD : va_D A ws) (is : List Nat) (hC : is.map (fun i => ws[i]?) = wc.map some) : ∀ q, AA wc q → A q := by
  intro q ⟨j, e, hj⟩
  have hjl : j < is.length := by
    have h3 := congrArg List.length hC
    simp at h3
    rw [h3]
    exact (List.getElem?_eq_some_iff.mp hj).1
  have hi : is[j]? = some is[j] := List.getElem?_eq_getElem hjl
  have h4 := spl_at hC hi
  rw [hj] at h4
  exact hD.2 _ _ h4
theorem sub_P (hP : va_P D vwCl ws H) (is : List Nat) (hC : is.map (fun i => ws[i]?) = wc.map some) : va_P D vwCl wc H := by
  intro j q hj
  have hjl : j < is.length := by
    have h3 := congrArg List.length hC
    simp at h3
    rw [h3]
    exact (List.getElem?_eq_some_iff.mp hj).1
  have hi : is[j]? = some is[j] := List.getElem?_eq_getElem hjl
  have h4 := spl_at hC hi
  rw [hj] at h4
  exact hP _ _ h4
theorem wV (S : CallFix p m c cc nL s args GG own) (hM : MW l y bytes maxL ret fr lo D kB kI kT ks sk sv (.ref b :: As) wc w w1) (cw : CWV own index y bytes maxL ret n) (hR : fr + 1 ≤ R.frames ∧ 8 + (maxL + 11) + lo ≤ R.locals) (hE : EN D kB kI kT ks sk sv A s) (hP : va_P D vwCl ws H) (hD : va_D A ws) (hS : va_S A s.heap H locs) (is : List Nat) (hnd : va_nd is = true) (hC : is.map (fun i => ws[i]?) = wc.map some) (ha : w1.map (fun q => q.1) = wc.map (fun q => q.1))
    {ci : Nat} {fs : List Value} {q : vw_C} (hrc : wc[0]? = some (b, .inr (ci, fs))) (hcl : vwCl[ci]? = some q) (hq : q.1 = y.cls) (hn : As.length = n) (hsize : ls.size = nL) (hst : st0 = As.reverse ++ .ref b :: rest) (hcat : (rest.map fun v => v.category).sum ≤ 8) (hdg : decode cc pc = .ok (.invokevirtual index, 3)) (hf : cells + 0 ≤ R.cells ∧ slots + 0 ≤ R.slots)
    (kk : ∀ (H1 : Heap) (locs1 : List Loc), va_P D vwCl (spl ws is w1) H1 → va_D A (spl ws is w1) → va_S A s.heap H1 locs1 → W p l e R s m args below meth c H1 locs1 cells slots Q (F0 m (pc + 3) ls (w.toList ++ rest))) : W p l e R s m args below meth c H locs cells slots Q (F0 m pc ls st0) := by
  have hPc := sub_P hP is hC
  refine wrK (wc := wc) (args' := (Value.ref b :: As).toArray) (W.runV (C := y.cls) (n := n) S hM (cw.cw S.2.2.2.2 rfl rfl hR) ⟨PW_blind, ?_, fun U hU hW => ⟨rfl, hE.go hS hU hW (sub_AA hD is hC), by rw [hU]; exact hPc, (hD.sub is hnd hC).weaken (fun _ _ _ _ => trivial)⟩⟩ rfl hn hsize hst (lv_room hcat) hdg hf) hS hP hD is hC ha kk
  rw [← hq]
  exact va_recv hE.1 hPc hcl hrc
theorem wS (S : CallFix p m c cc nL s args GG own) (hM : MW l y bytes maxL ret fr lo D kB kI kT ks sk sv As wc w w1) (cw : CWS own index y bytes maxL ret n) (hR : fr + 1 ≤ R.frames ∧ 8 + (maxL + 11) + lo ≤ R.locals) (hE : EN D kB kI kT ks sk sv A s) (hP : va_P D vwCl ws H) (hD : va_D A ws) (hS : va_S A s.heap H locs) (is : List Nat) (hnd : va_nd is = true) (hC : is.map (fun i => ws[i]?) = wc.map some) (ha : w1.map (fun q => q.1) = wc.map (fun q => q.1))
    (hn : As.length = n) (hsize : ls.size = nL) (hst : st0 = As.reverse ++ rest) (hcat : (rest.map fun v => v.category).sum ≤ 8) (hdg : decode cc pc = .ok (.invokestatic index, 3)) (hf : cells + 0 ≤ R.cells ∧ slots + 0 ≤ R.slots)
    (kk : ∀ (H1 : Heap) (locs1 : List Loc), va_P D vwCl (spl ws is w1) H1 → va_D A (spl ws is w1) → va_S A s.heap H1 locs1 → W p l e R s m args below meth c H1 locs1 cells slots Q (F0 m (pc + 3) ls (w.toList ++ rest))) : W p l e R s m args below meth c H locs cells slots Q (F0 m pc ls st0) :=
  wrK (wc := wc) (args' := As.toArray) (W.runS (n := n) S hM (cw.cw S.2.2.2.2 rfl rfl hR) ⟨PW_blind, fun U hU hW => ⟨rfl, hE.go hS hU hW (sub_AA hD is hC), by rw [hU]; exact sub_P hP is hC, (hD.sub is hnd hC).weaken (fun _ _ _ _ => trivial)⟩⟩ rfl hn hsize hst (lv_room hcat) hdg hf) hS hP hD is hC ha kk
/-! fields and rows -/
def FLD (own : String) (index ci k : Nat) : Prop := ∃ (C : String) (T : u_T) (N : Nat), vwCl[ci]? = some (C, T, N) ∧ k < N ∧ (∀ w ∈ u_ws C T N, w ∈ GG) ∧ Cond.fieldLink own index (T k).1 (T k).2.1 (T k).2.2.1 ∈ GG
def FPT (own : String) (index ci k : Nat) (ty : FieldType) : Prop := ∃ (C : String) (T : u_T) (N : Nat) (t0 : Nat → FieldType), vwCl[ci]? = some (C, T, N) ∧ k < N ∧ (∀ w ∈ u_ws C T N, w ∈ GG) ∧ Cond.fieldLink own index (T k).1 (T k).2.1 (T k).2.2.1 ∈ GG ∧ (∀ k, k < N → parseFieldDescriptor (T k).2.2.1 = some (t0 k)) ∧ (∀ a, a < N → ∀ b, b < N → a ≠ b → (T a).2.1 ≠ (T b).2.1) ∧ (T k).2.2.2 = false ∧ parseFieldDescriptor (T k).2.2.1 = some ty
theorem fget (hx : p.tables.exec = Jvm.exec) (hb : c.code = cc) (hts : ∀ w ∈ GG, w.before args s = true) (hown : s.vm.findClass own = some m.cls) (hE : EN D kB kI kT ks sk sv A s) (hP : va_P D vwCl ws H) {ci k a : Nat} (hF : FLD own index ci k) (q0 : Nat) {fs : List Value} {v : Value} (he : ws[q0]? = some (a, .inr (ci, fs))) (hv : fs[k]? = some v) (hdg : decode cc pc = .ok (.getfield index, 3))
    (kk : W p l e R s m args below meth c H locs cells slots Q (F0 m (pc + 3) ls (v :: rest))) : W p l e R s m args below meth c H locs cells slots Q (F0 m pc ls (.ref a :: rest)) := by
  obtain ⟨C, T, N, hc, hk, hin, hl⟩ := hF
  exact va_get hx hb hts hin hown hE.1 hP q0 he hc k hk (hts _ hl) (fun _ h => h) hv hdg kk
theorem fput (hx : p.tables.exec = Jvm.exec) (hb : c.code = cc) (hts : ∀ w ∈ GG, w.before args s = true) (hown : s.vm.findClass own = some m.cls) (hE : EN D kB kI kT ks sk sv A s) (hP : va_P D vwCl ws H) (hD : va_D A ws) (hS : va_S A s.heap H locs) {ci k a : Nat} {ty : FieldType} (hF : FPT own index ci k ty) (q0 : Nat) {fs : List Value} {v : Value} (he : ws[q0]? = some (a, .inr (ci, fs))) (hn : narrow ty v = v) (hfit : fits ty v = true) (hl : k < fs.length) (hdg : decode cc pc = .ok (.putfield index, 3))
    (kk : ∀ (H1 : Heap) (locs1 : List Loc), va_P D vwCl (ws.set q0 (a, .inr (ci, fs.set k v))) H1 → va_D A (ws.set q0 (a, .inr (ci, fs.set k v))) → va_S A s.heap H1 locs1 → W p l e R s m args below meth c H1 locs1 cells slots Q (F0 m (pc + 3) ls rest)) : W p l e R s m args below meth c H locs cells slots Q (F0 m pc ls (v :: .ref a :: rest)) := by
  obtain ⟨C, T, N, t0, hc, hk, hin, hlk, hty, hnm, hfin, hd⟩ := hF
  exact va_put hx hb hts hin t0 hty hnm hown hE.1 hP hD hS q0 he hc k hk (hts _ hlk) (fun _ h => h) hfin hd hn hfit hl hdg kk
theorem aldN (hx : p.tables.exec = Jvm.exec) (hb : c.code = cc) (hE : EN D kB kI kT ks sk sv A s) (hP : va_P D vwCl ws H) {a N : Nat} {f : Nat → Int32} (q0 : Nat) (he : ws[q0]? = some (a, .inl (kI, N, .inl f))) (j : Nat) (hj : j < N) (hN : N < 2147483648) (hdg : decode cc pc = .ok (.iaload, 1))
    (kk : W p l e R s m args below meth c H locs cells slots Q (F0 m (pc + 1) ls (.int (f j) :: rest))) : W p l e R s m args below meth c H locs cells slots Q (F0 m pc ls (.int (nI j) :: .ref a :: rest)) := by
  refine va_iald hx hb hE.1 hP q0 0 he rfl (vp_in_nI hj hN) hdg ?_
  rw [nI_clamp (Nat.lt_trans hj hN)]
  exact kk
theorem aldX (hx : p.tables.exec = Jvm.exec) (hb : c.code = cc) (hE : EN D kB kI kT ks sk sv A s) (hP : va_P D vwCl ws H) {a N : Nat} {f : Nat → Int32} (q0 : Nat) (he : ws[q0]? = some (a, .inl (kI, N, .inl f))) {x : Int32} (hj : vp_in x N) (hdg : decode cc pc = .ok (.iaload, 1))
    (kk : W p l e R s m args below meth c H locs cells slots Q (F0 m (pc + 1) ls (.int (f x.toNatClampNeg) :: rest))) : W p l e R s m args below meth c H locs cells slots Q (F0 m pc ls (.int x :: .ref a :: rest)) :=
  va_iald hx hb hE.1 hP q0 0 he rfl hj hdg kk
theorem aldB (hx : p.tables.exec = Jvm.exec) (hb : c.code = cc) (hE : EN D kB kI kT ks sk sv A s) (hP : va_P D vwCl ws H) {a N : Nat} {f : Nat → Int32} (q0 : Nat) (he : ws[q0]? = some (a, .inl (kB, N, .inl f))) (j : Nat) (hj : j < N) (hN : N < 2147483648) (hdg : decode cc pc = .ok (.baload, 1))
    (kk : W p l e R s m args below meth c H locs cells slots Q (F0 m (pc + 1) ls (.int (f j) :: rest))) : W p l e R s m args below meth c H locs cells slots Q (F0 m pc ls (.int (nI j) :: .ref a :: rest)) := by
  refine va_bald hx hb hE.1 hP q0 1 he rfl (vp_in_nI hj hN) hdg ?_
  rw [nI_clamp (Nat.lt_trans hj hN)]
  exact kk
theorem astN (hx : p.tables.exec = Jvm.exec) (hb : c.code = cc) (hE : EN D kB kI kT ks sk sv A s) (hP : va_P D vwCl ws H) (hD : va_D A ws) (hS : va_S A s.heap H locs) {a N : Nat} {f : Nat → Int32} {x : Int32} (q0 : Nat) (he : ws[q0]? = some (a, .inl (kI, N, .inl f))) (j : Nat) (hj : j < N) (hN : N < 2147483648) (hdg : decode cc pc = .ok (.iastore, 1))
    (kk : ∀ (H1 : Heap) (locs1 : List Loc), va_P D vwCl (ws.set q0 (a, .inl (kI, N, .inl (upd f j x)))) H1 → va_D A (ws.set q0 (a, .inl (kI, N, .inl (upd f j x)))) → va_S A s.heap H1 locs1 → W p l e R s m args below meth c H1 locs1 cells slots Q (F0 m (pc + 1) ls rest)) : W p l e R s m args below meth c H locs cells slots Q (F0 m pc ls (.int x :: .int (nI j) :: .ref a :: rest)) := by
  refine va_iast hx hb hE.1 hP hD hS q0 0 he rfl (vp_in_nI hj hN) hdg ?_
  rw [nI_clamp (Nat.lt_trans hj hN)]
  exact kk
theorem astX (hx : p.tables.exec = Jvm.exec) (hb : c.code = cc) (hE : EN D kB kI kT ks sk sv A s) (hP : va_P D vwCl ws H) (hD : va_D A ws) (hS : va_S A s.heap H locs) {a N : Nat} {f : Nat → Int32} {x i : Int32} (q0 : Nat) (he : ws[q0]? = some (a, .inl (kI, N, .inl f))) (hj : vp_in i N) (hdg : decode cc pc = .ok (.iastore, 1))
    (kk : ∀ (H1 : Heap) (locs1 : List Loc), va_P D vwCl (ws.set q0 (a, .inl (kI, N, .inl (upd f i.toNatClampNeg x)))) H1 → va_D A (ws.set q0 (a, .inl (kI, N, .inl (upd f i.toNatClampNeg x)))) → va_S A s.heap H1 locs1 → W p l e R s m args below meth c H1 locs1 cells slots Q (F0 m (pc + 1) ls rest)) : W p l e R s m args below meth c H locs cells slots Q (F0 m pc ls (.int x :: .int i :: .ref a :: rest)) :=
  va_iast hx hb hE.1 hP hD hS q0 0 he rfl hj hdg kk
/-! branches on a truth, compares of numbers -/
abbrev bi (c : Prop) [Decidable c] : Int32 := if c then 1 else 0
theorem bi_0 {c : Prop} [Decidable c] : bi c = 0 ↔ ¬ c := by
  by_cases h : c <;> simp [bi, h]
theorem bif_eq {c0 : Prop} [Decidable c0] (hx : p.tables.exec = Jvm.exec) (hb : c.code = cc) {off : Int} {tgt : Nat} (hdg : decode cc pc = .ok (.ifCond .eq off, 3)) (ht : (pc : Int) + off = (tgt : Int))
    (kt : ¬ c0 → W p l e R s m args below meth c H locs cells slots Q (F0 m tgt ls rest)) (kf : c0 → W p l e R s m args below meth c H locs cells slots Q (F0 m (pc + 3) ls rest)) : W p l e R s m args below meth c H locs cells slots Q (F0 m pc ls (.int (bi c0) :: rest)) :=
  lv_if_eq hx hb hdg ht (fun h => kt (bi_0.mp h)) (fun h => kf (Decidable.byContradiction fun q => h (bi_0.mpr q)))
theorem bif_ne {c0 : Prop} [Decidable c0] (hx : p.tables.exec = Jvm.exec) (hb : c.code = cc) {off : Int} {tgt : Nat} (hdg : decode cc pc = .ok (.ifCond .ne off, 3)) (ht : (pc : Int) + off = (tgt : Int))
    (kt : c0 → W p l e R s m args below meth c H locs cells slots Q (F0 m tgt ls rest)) (kf : ¬ c0 → W p l e R s m args below meth c H locs cells slots Q (F0 m (pc + 3) ls rest)) : W p l e R s m args below meth c H locs cells slots Q (F0 m pc ls (.int (bi c0) :: rest)) :=
  lv_if_ne hx hb hdg ht (fun h => kt (Decidable.byContradiction fun q => h (bi_0.mpr q))) (fun h => kf (bi_0.mp h))
end RULES2
end
section
theorem inX0 : ∀ w ∈ u_ws RX0 TX0 2, w ∈ GG := GG_sub _ [40, 42] (by decide +kernel) (by decide +kernel)
theorem inX1 : ∀ w ∈ u_ws RX1 TX1 10, w ∈ GG := GG_sub _ [141, 143, 145, 147, 149, 151, 153, 155, 157, 159] (by decide +kernel) (by decide +kernel)
theorem inX2 : ∀ w ∈ u_ws RX2 TX2 7, w ∈ GG := GG_sub _ [210, 212, 214, 216, 218, 220, 222] (by decide +kernel) (by decide +kernel)
theorem inX3 : ∀ w ∈ u_ws RX3 TX3 3, w ∈ GG := GG_sub _ [185, 187, 189] (by decide +kernel) (by decide +kernel)
theorem inX4 : ∀ w ∈ u_ws RX4 TX4 3, w ∈ GG := GG_sub _ [172, 174, 176] (by decide +kernel) (by decide +kernel)
theorem inX5 : ∀ w ∈ u_ws RX5 TX5 6, w ∈ GG := GG_sub _ [89, 91, 93, 95, 97, 99] (by decide +kernel) (by decide +kernel)
theorem inX6 : ∀ w ∈ u_ws RX6 TX6 2, w ∈ GG := GG_sub _ [107, 109] (by decide +kernel) (by decide +kernel)
theorem inX7 : ∀ w ∈ u_ws RX7 TX7 8, w ∈ GG := GG_sub _ [233, 235, 237, 239, 241, 243, 245, 247] (by decide +kernel) (by decide +kernel)
theorem inX8 : ∀ w ∈ u_ws RX8 TX8 42, w ∈ GG := GG_sub _ [712, 714, 716, 718, 720, 722, 724, 726, 728, 730, 732, 734, 736, 738, 740, 742, 744, 746, 748, 750, 752, 754, 756, 758, 760, 762, 764, 766, 768, 770, 772, 774, 776, 778, 780, 782, 784, 786, 788, 790, 792, 794] (by decide +kernel) (by decide +kernel)
theorem fl_X0_11 : FLD RX0 11 0 0 := ⟨RX0, TX0, 2, rfl, by decide, inX0, GG_at 33 (by decide +kernel) rfl⟩
theorem fl_X1_47 : FLD RX1 47 0 0 := ⟨RX0, TX0, 2, rfl, by decide, inX0, GG_at 34 (by decide +kernel) rfl⟩
theorem fl_X5_34 : FLD RX5 34 0 0 := ⟨RX0, TX0, 2, rfl, by decide, inX0, GG_at 35 (by decide +kernel) rfl⟩
theorem fl_X7_211 : FLD RX7 211 0 0 := ⟨RX0, TX0, 2, rfl, by decide, inX0, GG_at 36 (by decide +kernel) rfl⟩
theorem fl_X0_15 : FLD RX0 15 0 1 := ⟨RX0, TX0, 2, rfl, by decide, inX0, GG_at 37 (by decide +kernel) rfl⟩
theorem fp_X0_15 : FPT RX0 15 0 1 .int := ⟨RX0, TX0, 2, tyX0, rfl, by decide, inX0, GG_at 37 (by decide +kernel) rfl, tyX0_ok, nmX0, rfl, by decide +kernel⟩
theorem fl_X7_48 : FLD RX7 48 0 1 := ⟨RX0, TX0, 2, rfl, by decide, inX0, GG_at 38 (by decide +kernel) rfl⟩
theorem fp_X7_48 : FPT RX7 48 0 1 .int := ⟨RX0, TX0, 2, tyX0, rfl, by decide, inX0, GG_at 38 (by decide +kernel) rfl, tyX0_ok, nmX0, rfl, by decide +kernel⟩
theorem fl_X6_40 : FLD RX6 40 0 1 := ⟨RX0, TX0, 2, rfl, by decide, inX0, GG_at 39 (by decide +kernel) rfl⟩
theorem fp_X6_40 : FPT RX6 40 0 1 .int := ⟨RX0, TX0, 2, tyX0, rfl, by decide, inX0, GG_at 39 (by decide +kernel) rfl, tyX0_ok, nmX0, rfl, by decide +kernel⟩
theorem fl_X5_9 : FLD RX5 9 5 0 := ⟨RX5, TX5, 6, rfl, by decide, inX5, GG_at 65 (by decide +kernel) rfl⟩
theorem fp_X5_9 : FPT RX5 9 5 0 .int := ⟨RX5, TX5, 6, tyX5, rfl, by decide, inX5, GG_at 65 (by decide +kernel) rfl, tyX5_ok, nmX5, rfl, by decide +kernel⟩
theorem fl_X6_22 : FLD RX6 22 5 0 := ⟨RX5, TX5, 6, rfl, by decide, inX5, GG_at 66 (by decide +kernel) rfl⟩
theorem fp_X6_22 : FPT RX6 22 5 0 .int := ⟨RX5, TX5, 6, tyX5, rfl, by decide, inX5, GG_at 66 (by decide +kernel) rfl, tyX5_ok, nmX5, rfl, by decide +kernel⟩
theorem fl_X7_156 : FLD RX7 156 5 0 := ⟨RX5, TX5, 6, rfl, by decide, inX5, GG_at 67 (by decide +kernel) rfl⟩
theorem fp_X7_156 : FPT RX7 156 5 0 .int := ⟨RX5, TX5, 6, tyX5, rfl, by decide, inX5, GG_at 67 (by decide +kernel) rfl, tyX5_ok, nmX5, rfl, by decide +kernel⟩
theorem fl_X1_133 : FLD RX1 133 5 0 := ⟨RX5, TX5, 6, rfl, by decide, inX5, GG_at 68 (by decide +kernel) rfl⟩
theorem fp_X1_133 : FPT RX1 133 5 0 .int := ⟨RX5, TX5, 6, tyX5, rfl, by decide, inX5, GG_at 68 (by decide +kernel) rfl, tyX5_ok, nmX5, rfl, by decide +kernel⟩
theorem fl_X5_15 : FLD RX5 15 5 1 := ⟨RX5, TX5, 6, rfl, by decide, inX5, GG_at 69 (by decide +kernel) rfl⟩
theorem fp_X5_15 : FPT RX5 15 5 1 .int := ⟨RX5, TX5, 6, tyX5, rfl, by decide, inX5, GG_at 69 (by decide +kernel) rfl, tyX5_ok, nmX5, rfl, by decide +kernel⟩
theorem fl_X6_25 : FLD RX6 25 5 1 := ⟨RX5, TX5, 6, rfl, by decide, inX5, GG_at 70 (by decide +kernel) rfl⟩
theorem fp_X6_25 : FPT RX6 25 5 1 .int := ⟨RX5, TX5, 6, tyX5, rfl, by decide, inX5, GG_at 70 (by decide +kernel) rfl, tyX5_ok, nmX5, rfl, by decide +kernel⟩
theorem fl_X1_124 : FLD RX1 124 5 1 := ⟨RX5, TX5, 6, rfl, by decide, inX5, GG_at 71 (by decide +kernel) rfl⟩
theorem fp_X1_124 : FPT RX1 124 5 1 .int := ⟨RX5, TX5, 6, tyX5, rfl, by decide, inX5, GG_at 71 (by decide +kernel) rfl, tyX5_ok, nmX5, rfl, by decide +kernel⟩
theorem fl_X7_217 : FLD RX7 217 5 1 := ⟨RX5, TX5, 6, rfl, by decide, inX5, GG_at 72 (by decide +kernel) rfl⟩
theorem fp_X7_217 : FPT RX7 217 5 1 .int := ⟨RX5, TX5, 6, tyX5, rfl, by decide, inX5, GG_at 72 (by decide +kernel) rfl, tyX5_ok, nmX5, rfl, by decide +kernel⟩
theorem fl_X5_18 : FLD RX5 18 5 2 := ⟨RX5, TX5, 6, rfl, by decide, inX5, GG_at 73 (by decide +kernel) rfl⟩
theorem fp_X5_18 : FPT RX5 18 5 2 .int := ⟨RX5, TX5, 6, tyX5, rfl, by decide, inX5, GG_at 73 (by decide +kernel) rfl, tyX5_ok, nmX5, rfl, by decide +kernel⟩
theorem fl_X6_28 : FLD RX6 28 5 2 := ⟨RX5, TX5, 6, rfl, by decide, inX5, GG_at 74 (by decide +kernel) rfl⟩
theorem fp_X6_28 : FPT RX6 28 5 2 .int := ⟨RX5, TX5, 6, tyX5, rfl, by decide, inX5, GG_at 74 (by decide +kernel) rfl, tyX5_ok, nmX5, rfl, by decide +kernel⟩
theorem fl_X1_113 : FLD RX1 113 5 2 := ⟨RX5, TX5, 6, rfl, by decide, inX5, GG_at 75 (by decide +kernel) rfl⟩
theorem fp_X1_113 : FPT RX1 113 5 2 .int := ⟨RX5, TX5, 6, tyX5, rfl, by decide, inX5, GG_at 75 (by decide +kernel) rfl, tyX5_ok, nmX5, rfl, by decide +kernel⟩
theorem fl_X7_220 : FLD RX7 220 5 2 := ⟨RX5, TX5, 6, rfl, by decide, inX5, GG_at 76 (by decide +kernel) rfl⟩
theorem fp_X7_220 : FPT RX7 220 5 2 .int := ⟨RX5, TX5, 6, tyX5, rfl, by decide, inX5, GG_at 76 (by decide +kernel) rfl, tyX5_ok, nmX5, rfl, by decide +kernel⟩
theorem fl_X5_21 : FLD RX5 21 5 3 := ⟨RX5, TX5, 6, rfl, by decide, inX5, GG_at 77 (by decide +kernel) rfl⟩
theorem fp_X5_21 : FPT RX5 21 5 3 .int := ⟨RX5, TX5, 6, tyX5, rfl, by decide, inX5, GG_at 77 (by decide +kernel) rfl, tyX5_ok, nmX5, rfl, by decide +kernel⟩
theorem fl_X6_31 : FLD RX6 31 5 3 := ⟨RX5, TX5, 6, rfl, by decide, inX5, GG_at 78 (by decide +kernel) rfl⟩
theorem fp_X6_31 : FPT RX6 31 5 3 .int := ⟨RX5, TX5, 6, tyX5, rfl, by decide, inX5, GG_at 78 (by decide +kernel) rfl, tyX5_ok, nmX5, rfl, by decide +kernel⟩
theorem fl_X7_150 : FLD RX7 150 5 3 := ⟨RX5, TX5, 6, rfl, by decide, inX5, GG_at 79 (by decide +kernel) rfl⟩
theorem fp_X7_150 : FPT RX7 150 5 3 .int := ⟨RX5, TX5, 6, tyX5, rfl, by decide, inX5, GG_at 79 (by decide +kernel) rfl, tyX5_ok, nmX5, rfl, by decide +kernel⟩
theorem fl_X1_118 : FLD RX1 118 5 3 := ⟨RX5, TX5, 6, rfl, by decide, inX5, GG_at 80 (by decide +kernel) rfl⟩
theorem fp_X1_118 : FPT RX1 118 5 3 .int := ⟨RX5, TX5, 6, tyX5, rfl, by decide, inX5, GG_at 80 (by decide +kernel) rfl, tyX5_ok, nmX5, rfl, by decide +kernel⟩
theorem fl_X5_24 : FLD RX5 24 5 4 := ⟨RX5, TX5, 6, rfl, by decide, inX5, GG_at 81 (by decide +kernel) rfl⟩
theorem fp_X5_24 : FPT RX5 24 5 4 .int := ⟨RX5, TX5, 6, tyX5, rfl, by decide, inX5, GG_at 81 (by decide +kernel) rfl, tyX5_ok, nmX5, rfl, by decide +kernel⟩
theorem fl_X6_34 : FLD RX6 34 5 4 := ⟨RX5, TX5, 6, rfl, by decide, inX5, GG_at 82 (by decide +kernel) rfl⟩
theorem fp_X6_34 : FPT RX6 34 5 4 .int := ⟨RX5, TX5, 6, tyX5, rfl, by decide, inX5, GG_at 82 (by decide +kernel) rfl, tyX5_ok, nmX5, rfl, by decide +kernel⟩
theorem fl_X7_153 : FLD RX7 153 5 4 := ⟨RX5, TX5, 6, rfl, by decide, inX5, GG_at 83 (by decide +kernel) rfl⟩
theorem fp_X7_153 : FPT RX7 153 5 4 .int := ⟨RX5, TX5, 6, tyX5, rfl, by decide, inX5, GG_at 83 (by decide +kernel) rfl, tyX5_ok, nmX5, rfl, by decide +kernel⟩
theorem fl_X1_121 : FLD RX1 121 5 4 := ⟨RX5, TX5, 6, rfl, by decide, inX5, GG_at 84 (by decide +kernel) rfl⟩
theorem fp_X1_121 : FPT RX1 121 5 4 .int := ⟨RX5, TX5, 6, tyX5, rfl, by decide, inX5, GG_at 84 (by decide +kernel) rfl, tyX5_ok, nmX5, rfl, by decide +kernel⟩
theorem fl_X5_27 : FLD RX5 27 5 5 := ⟨RX5, TX5, 6, rfl, by decide, inX5, GG_at 85 (by decide +kernel) rfl⟩
theorem fp_X5_27 : FPT RX5 27 5 5 .int := ⟨RX5, TX5, 6, tyX5, rfl, by decide, inX5, GG_at 85 (by decide +kernel) rfl, tyX5_ok, nmX5, rfl, by decide +kernel⟩
theorem fl_X6_37 : FLD RX6 37 5 5 := ⟨RX5, TX5, 6, rfl, by decide, inX5, GG_at 86 (by decide +kernel) rfl⟩
theorem fp_X6_37 : FPT RX6 37 5 5 .int := ⟨RX5, TX5, 6, tyX5, rfl, by decide, inX5, GG_at 86 (by decide +kernel) rfl, tyX5_ok, nmX5, rfl, by decide +kernel⟩
theorem fl_X1_136 : FLD RX1 136 5 5 := ⟨RX5, TX5, 6, rfl, by decide, inX5, GG_at 87 (by decide +kernel) rfl⟩
theorem fp_X1_136 : FPT RX1 136 5 5 .int := ⟨RX5, TX5, 6, tyX5, rfl, by decide, inX5, GG_at 87 (by decide +kernel) rfl, tyX5_ok, nmX5, rfl, by decide +kernel⟩
theorem fl_X7_223 : FLD RX7 223 5 5 := ⟨RX5, TX5, 6, rfl, by decide, inX5, GG_at 88 (by decide +kernel) rfl⟩
theorem fp_X7_223 : FPT RX7 223 5 5 .int := ⟨RX5, TX5, 6, tyX5, rfl, by decide, inX5, GG_at 88 (by decide +kernel) rfl, tyX5_ok, nmX5, rfl, by decide +kernel⟩
theorem fl_X6_11 : FLD RX6 11 6 0 := ⟨RX6, TX6, 2, rfl, by decide, inX6, GG_at 102 (by decide +kernel) rfl⟩
theorem fl_X6_18 : FLD RX6 18 6 1 := ⟨RX6, TX6, 2, rfl, by decide, inX6, GG_at 103 (by decide +kernel) rfl⟩
theorem fp_X6_18 : FPT RX6 18 6 1 .int := ⟨RX6, TX6, 2, tyX6, rfl, by decide, inX6, GG_at 103 (by decide +kernel) rfl, tyX6_ok, nmX6, rfl, by decide +kernel⟩
theorem fl_X2_43 : FLD RX2 43 6 1 := ⟨RX6, TX6, 2, rfl, by decide, inX6, GG_at 104 (by decide +kernel) rfl⟩
theorem fp_X2_43 : FPT RX2 43 6 1 .int := ⟨RX6, TX6, 2, tyX6, rfl, by decide, inX6, GG_at 104 (by decide +kernel) rfl, tyX6_ok, nmX6, rfl, by decide +kernel⟩
theorem fl_X7_92 : FLD RX7 92 6 1 := ⟨RX6, TX6, 2, rfl, by decide, inX6, GG_at 105 (by decide +kernel) rfl⟩
theorem fp_X7_92 : FPT RX7 92 6 1 .int := ⟨RX6, TX6, 2, tyX6, rfl, by decide, inX6, GG_at 105 (by decide +kernel) rfl, tyX6_ok, nmX6, rfl, by decide +kernel⟩
theorem fl_X1_70 : FLD RX1 70 6 1 := ⟨RX6, TX6, 2, rfl, by decide, inX6, GG_at 106 (by decide +kernel) rfl⟩
theorem fp_X1_70 : FPT RX1 70 6 1 .int := ⟨RX6, TX6, 2, tyX6, rfl, by decide, inX6, GG_at 106 (by decide +kernel) rfl, tyX6_ok, nmX6, rfl, by decide +kernel⟩
theorem cw_X1_34 : CWS RX1 34 yJ7_fill_53178 cJ7_fill_53178 4 none 2 := ⟨⟨GG_at 118 (by decide +kernel) rfl, GG_at 119 (by decide +kernel) rfl, GG_at 7 (by decide +kernel) rfl, GG_at 120 (by decide +kernel) rfl⟩, by decide +kernel, by decide +kernel, by decide +kernel⟩
theorem fl_X1_30 : FLD RX1 30 1 0 := ⟨RX1, TX1, 10, rfl, by decide, inX1, GG_at 121 (by decide +kernel) rfl⟩
theorem fl_X1_9 : FLD RX1 9 1 1 := ⟨RX1, TX1, 10, rfl, by decide, inX1, GG_at 122 (by decide +kernel) rfl⟩
theorem fl_X2_30 : FLD RX2 30 1 1 := ⟨RX1, TX1, 10, rfl, by decide, inX1, GG_at 123 (by decide +kernel) rfl⟩
theorem fl_X3_35 : FLD RX3 35 1 1 := ⟨RX1, TX1, 10, rfl, by decide, inX1, GG_at 124 (by decide +kernel) rfl⟩
theorem fl_X7_129 : FLD RX7 129 1 1 := ⟨RX1, TX1, 10, rfl, by decide, inX1, GG_at 125 (by decide +kernel) rfl⟩
theorem fl_X1_15 : FLD RX1 15 1 2 := ⟨RX1, TX1, 10, rfl, by decide, inX1, GG_at 126 (by decide +kernel) rfl⟩
theorem fl_X7_235 : FLD RX7 235 1 2 := ⟨RX1, TX1, 10, rfl, by decide, inX1, GG_at 127 (by decide +kernel) rfl⟩
theorem fl_X1_18 : FLD RX1 18 1 3 := ⟨RX1, TX1, 10, rfl, by decide, inX1, GG_at 128 (by decide +kernel) rfl⟩
theorem fl_X7_238 : FLD RX7 238 1 3 := ⟨RX1, TX1, 10, rfl, by decide, inX1, GG_at 129 (by decide +kernel) rfl⟩
theorem fl_X1_21 : FLD RX1 21 1 4 := ⟨RX1, TX1, 10, rfl, by decide, inX1, GG_at 130 (by decide +kernel) rfl⟩
theorem fl_X1_24 : FLD RX1 24 1 5 := ⟨RX1, TX1, 10, rfl, by decide, inX1, GG_at 131 (by decide +kernel) rfl⟩
theorem fl_X1_27 : FLD RX1 27 1 6 := ⟨RX1, TX1, 10, rfl, by decide, inX1, GG_at 132 (by decide +kernel) rfl⟩
theorem fl_X7_136 : FLD RX7 136 1 7 := ⟨RX1, TX1, 10, rfl, by decide, inX1, GG_at 133 (by decide +kernel) rfl⟩
theorem fp_X7_136 : FPT RX7 136 1 7 .int := ⟨RX1, TX1, 10, tyX1, rfl, by decide, inX1, GG_at 133 (by decide +kernel) rfl, tyX1_ok, nmX1, rfl, by decide +kernel⟩
theorem fl_X1_103 : FLD RX1 103 1 7 := ⟨RX1, TX1, 10, rfl, by decide, inX1, GG_at 134 (by decide +kernel) rfl⟩
theorem fp_X1_103 : FPT RX1 103 1 7 .int := ⟨RX1, TX1, 10, tyX1, rfl, by decide, inX1, GG_at 134 (by decide +kernel) rfl, tyX1_ok, nmX1, rfl, by decide +kernel⟩
theorem fl_X1_40 : FLD RX1 40 1 8 := ⟨RX1, TX1, 10, rfl, by decide, inX1, GG_at 135 (by decide +kernel) rfl⟩
theorem fp_X1_40 : FPT RX1 40 1 8 .int := ⟨RX1, TX1, 10, tyX1, rfl, by decide, inX1, GG_at 135 (by decide +kernel) rfl, tyX1_ok, nmX1, rfl, by decide +kernel⟩
theorem fl_X2_66 : FLD RX2 66 1 8 := ⟨RX1, TX1, 10, rfl, by decide, inX1, GG_at 136 (by decide +kernel) rfl⟩
theorem fp_X2_66 : FPT RX2 66 1 8 .int := ⟨RX1, TX1, 10, tyX1, rfl, by decide, inX1, GG_at 136 (by decide +kernel) rfl, tyX1_ok, nmX1, rfl, by decide +kernel⟩
theorem fl_X7_200 : FLD RX7 200 1 8 := ⟨RX1, TX1, 10, rfl, by decide, inX1, GG_at 137 (by decide +kernel) rfl⟩
theorem fp_X7_200 : FPT RX7 200 1 8 .int := ⟨RX1, TX1, 10, tyX1, rfl, by decide, inX1, GG_at 137 (by decide +kernel) rfl, tyX1_ok, nmX1, rfl, by decide +kernel⟩
theorem fl_X2_70 : FLD RX2 70 1 9 := ⟨RX1, TX1, 10, rfl, by decide, inX1, GG_at 138 (by decide +kernel) rfl⟩
theorem fp_X2_70 : FPT RX2 70 1 9 .int := ⟨RX1, TX1, 10, tyX1, rfl, by decide, inX1, GG_at 138 (by decide +kernel) rfl, tyX1_ok, nmX1, rfl, by decide +kernel⟩
theorem fl_X1_106 : FLD RX1 106 1 9 := ⟨RX1, TX1, 10, rfl, by decide, inX1, GG_at 139 (by decide +kernel) rfl⟩
theorem fp_X1_106 : FPT RX1 106 1 9 .int := ⟨RX1, TX1, 10, tyX1, rfl, by decide, inX1, GG_at 139 (by decide +kernel) rfl, tyX1_ok, nmX1, rfl, by decide +kernel⟩
theorem fl_X7_195 : FLD RX7 195 1 9 := ⟨RX1, TX1, 10, rfl, by decide, inX1, GG_at 140 (by decide +kernel) rfl⟩
theorem fp_X7_195 : FPT RX7 195 1 9 .int := ⟨RX1, TX1, 10, tyX1, rfl, by decide, inX1, GG_at 140 (by decide +kernel) rfl, tyX1_ok, nmX1, rfl, by decide +kernel⟩
theorem fl_X4_9 : FLD RX4 9 4 0 := ⟨RX4, TX4, 3, rfl, by decide, inX4, GG_at 168 (by decide +kernel) rfl⟩
theorem fl_X4_15 : FLD RX4 15 4 1 := ⟨RX4, TX4, 3, rfl, by decide, inX4, GG_at 169 (by decide +kernel) rfl⟩
theorem fl_X4_18 : FLD RX4 18 4 2 := ⟨RX4, TX4, 3, rfl, by decide, inX4, GG_at 170 (by decide +kernel) rfl⟩
theorem fp_X4_18 : FPT RX4 18 4 2 .int := ⟨RX4, TX4, 3, tyX4, rfl, by decide, inX4, GG_at 170 (by decide +kernel) rfl, tyX4_ok, nmX4, rfl, by decide +kernel⟩
theorem fl_X7_80 : FLD RX7 80 4 2 := ⟨RX4, TX4, 3, rfl, by decide, inX4, GG_at 171 (by decide +kernel) rfl⟩
theorem fp_X7_80 : FPT RX7 80 4 2 .int := ⟨RX4, TX4, 3, tyX4, rfl, by decide, inX4, GG_at 171 (by decide +kernel) rfl, tyX4_ok, nmX4, rfl, by decide +kernel⟩
theorem fl_X3_10 : FLD RX3 10 3 0 := ⟨RX3, TX3, 3, rfl, by decide, inX3, GG_at 179 (by decide +kernel) rfl⟩
theorem fl_X7_28 : FLD RX7 28 3 0 := ⟨RX3, TX3, 3, rfl, by decide, inX3, GG_at 180 (by decide +kernel) rfl⟩
theorem fl_X3_21 : FLD RX3 21 3 1 := ⟨RX3, TX3, 3, rfl, by decide, inX3, GG_at 181 (by decide +kernel) rfl⟩
theorem fl_X7_70 : FLD RX7 70 3 1 := ⟨RX3, TX3, 3, rfl, by decide, inX3, GG_at 182 (by decide +kernel) rfl⟩
theorem fl_X3_28 : FLD RX3 28 3 2 := ⟨RX3, TX3, 3, rfl, by decide, inX3, GG_at 183 (by decide +kernel) rfl⟩
theorem fl_X7_76 : FLD RX7 76 3 2 := ⟨RX3, TX3, 3, rfl, by decide, inX3, GG_at 184 (by decide +kernel) rfl⟩
theorem fl_X2_18 : FLD RX2 18 2 0 := ⟨RX2, TX2, 7, rfl, by decide, inX2, GG_at 200 (by decide +kernel) rfl⟩
theorem fl_X2_22 : FLD RX2 22 2 1 := ⟨RX2, TX2, 7, rfl, by decide, inX2, GG_at 201 (by decide +kernel) rfl⟩
theorem fl_X2_9 : FLD RX2 9 2 2 := ⟨RX2, TX2, 7, rfl, by decide, inX2, GG_at 202 (by decide +kernel) rfl⟩
theorem fl_X2_15 : FLD RX2 15 2 3 := ⟨RX2, TX2, 7, rfl, by decide, inX2, GG_at 203 (by decide +kernel) rfl⟩
theorem fl_X7_175 : FLD RX7 175 2 3 := ⟨RX2, TX2, 7, rfl, by decide, inX2, GG_at 204 (by decide +kernel) rfl⟩
theorem fl_X2_39 : FLD RX2 39 2 4 := ⟨RX2, TX2, 7, rfl, by decide, inX2, GG_at 205 (by decide +kernel) rfl⟩
theorem fp_X2_39 : FPT RX2 39 2 4 .int := ⟨RX2, TX2, 7, tyX2, rfl, by decide, inX2, GG_at 205 (by decide +kernel) rfl, tyX2_ok, nmX2, rfl, by decide +kernel⟩
theorem fl_X2_69 : FLD RX2 69 2 5 := ⟨RX2, TX2, 7, rfl, by decide, inX2, GG_at 206 (by decide +kernel) rfl⟩
theorem fp_X2_69 : FPT RX2 69 2 5 .int := ⟨RX2, TX2, 7, tyX2, rfl, by decide, inX2, GG_at 206 (by decide +kernel) rfl, tyX2_ok, nmX2, rfl, by decide +kernel⟩
theorem fl_X7_169 : FLD RX7 169 2 5 := ⟨RX2, TX2, 7, rfl, by decide, inX2, GG_at 207 (by decide +kernel) rfl⟩
theorem fp_X7_169 : FPT RX7 169 2 5 .int := ⟨RX2, TX2, 7, tyX2, rfl, by decide, inX2, GG_at 207 (by decide +kernel) rfl, tyX2_ok, nmX2, rfl, by decide +kernel⟩
theorem fl_X2_73 : FLD RX2 73 2 6 := ⟨RX2, TX2, 7, rfl, by decide, inX2, GG_at 208 (by decide +kernel) rfl⟩
theorem fp_X2_73 : FPT RX2 73 2 6 .int := ⟨RX2, TX2, 7, tyX2, rfl, by decide, inX2, GG_at 208 (by decide +kernel) rfl, tyX2_ok, nmX2, rfl, by decide +kernel⟩
theorem fl_X7_172 : FLD RX7 172 2 6 := ⟨RX2, TX2, 7, rfl, by decide, inX2, GG_at 209 (by decide +kernel) rfl⟩
theorem fp_X7_172 : FPT RX7 172 2 6 .int := ⟨RX2, TX2, 7, tyX2, rfl, by decide, inX2, GG_at 209 (by decide +kernel) rfl, tyX2_ok, nmX2, rfl, by decide +kernel⟩
theorem fl_X7_10 : FLD RX7 10 7 0 := ⟨RX7, TX7, 8, rfl, by decide, inX7, GG_at 225 (by decide +kernel) rfl⟩
theorem fl_X7_19 : FLD RX7 19 7 1 := ⟨RX7, TX7, 8, rfl, by decide, inX7, GG_at 226 (by decide +kernel) rfl⟩
theorem fl_X7_23 : FLD RX7 23 7 2 := ⟨RX7, TX7, 8, rfl, by decide, inX7, GG_at 227 (by decide +kernel) rfl⟩
theorem fl_X7_35 : FLD RX7 35 7 3 := ⟨RX7, TX7, 8, rfl, by decide, inX7, GG_at 228 (by decide +kernel) rfl⟩
theorem fl_X7_44 : FLD RX7 44 7 4 := ⟨RX7, TX7, 8, rfl, by decide, inX7, GG_at 229 (by decide +kernel) rfl⟩
theorem fl_X7_85 : FLD RX7 85 7 5 := ⟨RX7, TX7, 8, rfl, by decide, inX7, GG_at 230 (by decide +kernel) rfl⟩
theorem fp_X7_85 : FPT RX7 85 7 5 .boolean := ⟨RX7, TX7, 8, tyX7, rfl, by decide, inX7, GG_at 230 (by decide +kernel) rfl, tyX7_ok, nmX7, rfl, by decide +kernel⟩
theorem fl_X7_89 : FLD RX7 89 7 6 := ⟨RX7, TX7, 8, rfl, by decide, inX7, GG_at 231 (by decide +kernel) rfl⟩
theorem fp_X7_89 : FPT RX7 89 7 6 .int := ⟨RX7, TX7, 8, tyX7, rfl, by decide, inX7, GG_at 231 (by decide +kernel) rfl, tyX7_ok, nmX7, rfl, by decide +kernel⟩
theorem fl_X7_159 : FLD RX7 159 7 7 := ⟨RX7, TX7, 8, rfl, by decide, inX7, GG_at 232 (by decide +kernel) rfl⟩
theorem fp_X7_159 : FPT RX7 159 7 7 .int := ⟨RX7, TX7, 8, tyX7, rfl, by decide, inX7, GG_at 232 (by decide +kernel) rfl, tyX7_ok, nmX7, rfl, by decide +kernel⟩
theorem cw_L_13 : CWV RL 13 yX7_letter cX7_letter 2 (some .int) 1 := ⟨⟨GG_at 250 (by decide +kernel) rfl, GG_at 251 (by decide +kernel) rfl, GG_at 252 (by decide +kernel) rfl, GG_at 1 (by decide +kernel) rfl, GG_at 253 (by decide +kernel) rfl⟩, by decide +kernel, by decide +kernel, by decide +kernel⟩
theorem cw_X7_52 : CWV RX7 52 yX0_put cX0_put 2 none 1 := ⟨⟨GG_at 254 (by decide +kernel) rfl, GG_at 255 (by decide +kernel) rfl, GG_at 256 (by decide +kernel) rfl, GG_at 2 (by decide +kernel) rfl, GG_at 257 (by decide +kernel) rfl⟩, by decide +kernel, by decide +kernel, by decide +kernel⟩
theorem cw_L_18 : CWV RL 18 yX7_blank cX7_blank 2 (some .int) 0 := ⟨⟨GG_at 258 (by decide +kernel) rfl, GG_at 259 (by decide +kernel) rfl, GG_at 260 (by decide +kernel) rfl, GG_at 1 (by decide +kernel) rfl, GG_at 261 (by decide +kernel) rfl⟩, by decide +kernel, by decide +kernel, by decide +kernel⟩
theorem cw_L_23 : CWV RL 23 yX7_fault cX7_fault 1 (some .int) 0 := ⟨⟨GG_at 262 (by decide +kernel) rfl, GG_at 263 (by decide +kernel) rfl, GG_at 264 (by decide +kernel) rfl, GG_at 1 (by decide +kernel) rfl, GG_at 265 (by decide +kernel) rfl⟩, by decide +kernel, by decide +kernel, by decide +kernel⟩
theorem cw_X7_56 : CWV RX7 56 yX0_firstFault cX0_firstFault 2 (some .int) 0 := ⟨⟨GG_at 266 (by decide +kernel) rfl, GG_at 267 (by decide +kernel) rfl, GG_at 268 (by decide +kernel) rfl, GG_at 2 (by decide +kernel) rfl, GG_at 269 (by decide +kernel) rfl⟩, by decide +kernel, by decide +kernel, by decide +kernel⟩
theorem cw_X0_19 : CWV RX0 19 yX0_fits cX0_fits 2 (some .boolean) 1 := ⟨⟨GG_at 270 (by decide +kernel) rfl, GG_at 272 (by decide +kernel) rfl, GG_sel 0 (by decide +kernel) rfl, GG_at 2 (by decide +kernel) rfl, GG_at 273 (by decide +kernel) rfl⟩, by decide +kernel, by decide +kernel, by decide +kernel⟩
theorem cw_X0_33 : CWV RX0 33 yJ0_indexOf_0f7a4 cJ0_indexOf_0f7a4 2 (some .int) 1 := ⟨⟨GG_at 275 (by decide +kernel) rfl, GG_at 276 (by decide +kernel) rfl, GG_at 277 (by decide +kernel) rfl, GG_at 11 (by decide +kernel) rfl, GG_at 278 (by decide +kernel) rfl⟩, by decide +kernel, by decide +kernel, by decide +kernel⟩
theorem cw_J0_633 : CWV RJ0 633 yJ0_indexOf_7cf53 cJ0_indexOf_7cf53 3 (some .int) 2 := ⟨⟨GG_at 279 (by decide +kernel) rfl, GG_at 280 (by decide +kernel) rfl, GG_at 281 (by decide +kernel) rfl, GG_at 11 (by decide +kernel) rfl, GG_at 282 (by decide +kernel) rfl⟩, by decide +kernel, by decide +kernel, by decide +kernel⟩
theorem cw_J0_492 : CWV RJ0 492 yJ0_isLatin1_aae02 cJ0_isLatin1_aae02 1 (some .boolean) 0 := ⟨⟨GG_at 283 (by decide +kernel) rfl, GG_at 284 (by decide +kernel) rfl, GG_at 285 (by decide +kernel) rfl, GG_at 11 (by decide +kernel) rfl, GG_at 286 (by decide +kernel) rfl⟩, by decide +kernel, by decide +kernel, by decide +kernel⟩
theorem cw_J0_505 : CWV RJ0 505 yJ0_length_8abf5 cJ0_length_8abf5 1 (some .int) 0 := ⟨⟨GG_at 289 (by decide +kernel) rfl, GG_at 290 (by decide +kernel) rfl, GG_at 291 (by decide +kernel) rfl, GG_at 11 (by decide +kernel) rfl, GG_at 292 (by decide +kernel) rfl⟩, by decide +kernel, by decide +kernel, by decide +kernel⟩
theorem cw_J0_335 : CWV RJ0 335 yJ0_coder_7d493 cJ0_coder_7d493 1 (some .byte) 0 := ⟨⟨GG_at 293 (by decide +kernel) rfl, GG_at 294 (by decide +kernel) rfl, GG_at 295 (by decide +kernel) rfl, GG_at 11 (by decide +kernel) rfl, GG_at 296 (by decide +kernel) rfl⟩, by decide +kernel, by decide +kernel, by decide +kernel⟩
theorem cw_J0_637 : CWS RJ0 637 yJ1_indexOf_4cfef cJ1_indexOf_4cfef 4 (some .int) 4 := ⟨⟨GG_at 297 (by decide +kernel) rfl, GG_at 298 (by decide +kernel) rfl, GG_at 12 (by decide +kernel) rfl, GG_at 299 (by decide +kernel) rfl⟩, by decide +kernel, by decide +kernel, by decide +kernel⟩
theorem cw_J1_88 : CWS RJ1 88 yJ1_canEncode_9a6ad cJ1_canEncode_9a6ad 1 (some .boolean) 1 := ⟨⟨GG_at 300 (by decide +kernel) rfl, GG_at 301 (by decide +kernel) rfl, GG_at 12 (by decide +kernel) rfl, GG_at 302 (by decide +kernel) rfl⟩, by decide +kernel, by decide +kernel, by decide +kernel⟩
theorem cw_J1_92 : CWS RJ1 92 yJ9_max_7cf53 cJ9_max_7cf53 2 (some .int) 2 := ⟨⟨GG_at 303 (by decide +kernel) rfl, GG_at 304 (by decide +kernel) rfl, GG_at 13 (by decide +kernel) rfl, GG_at 305 (by decide +kernel) rfl⟩, by decide +kernel, by decide +kernel, by decide +kernel⟩
theorem cw_J1_38 : CWS RJ1 38 yJ9_min_7cf53 cJ9_min_7cf53 2 (some .int) 2 := ⟨⟨GG_at 306 (by decide +kernel) rfl, GG_at 307 (by decide +kernel) rfl, GG_at 13 (by decide +kernel) rfl, GG_at 308 (by decide +kernel) rfl⟩, by decide +kernel, by decide +kernel, by decide +kernel⟩
theorem cw_J1_95 : CWS RJ1 95 yJ1_indexOfChar_4cfef cJ1_indexOfChar_4cfef 6 (some .int) 4 := ⟨⟨GG_at 309 (by decide +kernel) rfl, GG_at 310 (by decide +kernel) rfl, GG_at 12 (by decide +kernel) rfl, GG_at 311 (by decide +kernel) rfl⟩, by decide +kernel, by decide +kernel, by decide +kernel⟩
theorem cw_J0_640 : CWS RJ0 640 yJ2_indexOf_4cfef cJ2_indexOf_4cfef 4 (some .int) 4 := ⟨⟨GG_at 312 (by decide +kernel) rfl, GG_at 313 (by decide +kernel) rfl, GG_at 14 (by decide +kernel) rfl, GG_at 314 (by decide +kernel) rfl⟩, by decide +kernel, by decide +kernel, by decide +kernel⟩
theorem cw_J2_224 : CWS RJ2 224 yJ9_max_7cf53 cJ9_max_7cf53 2 (some .int) 2 := ⟨⟨GG_at 315 (by decide +kernel) rfl, GG_at 304 (by decide +kernel) rfl, GG_at 13 (by decide +kernel) rfl, GG_at 305 (by decide +kernel) rfl⟩, by decide +kernel, by decide +kernel, by decide +kernel⟩
theorem cw_J2_183 : CWS RJ2 183 yJ9_min_7cf53 cJ9_min_7cf53 2 (some .int) 2 := ⟨⟨GG_at 316 (by decide +kernel) rfl, GG_at 307 (by decide +kernel) rfl, GG_at 13 (by decide +kernel) rfl, GG_at 308 (by decide +kernel) rfl⟩, by decide +kernel, by decide +kernel, by decide +kernel⟩
theorem co_J2_227 : Cond.constant RJ2 227 65536 ∈ GG := GG_at 317 (by decide +kernel) rfl
theorem cw_J2_228 : CWS RJ2 228 yJ2_indexOfChar_4cfef cJ2_indexOfChar_4cfef 4 (some .int) 4 := ⟨⟨GG_at 318 (by decide +kernel) rfl, GG_at 319 (by decide +kernel) rfl, GG_at 14 (by decide +kernel) rfl, GG_at 320 (by decide +kernel) rfl⟩, by decide +kernel, by decide +kernel, by decide +kernel⟩
theorem cw_J2_96 : CWS RJ2 96 yJ2_checkBoundsBeginEnd_d044e cJ2_checkBoundsBeginEnd_d044e 3 none 3 := ⟨⟨GG_at 321 (by decide +kernel) rfl, GG_at 322 (by decide +kernel) rfl, GG_at 14 (by decide +kernel) rfl, GG_at 323 (by decide +kernel) rfl⟩, by decide +kernel, by decide +kernel, by decide +kernel⟩
theorem cw_J2_48 : CWS RJ2 48 yJ2_length_9d52b cJ2_length_9d52b 1 (some .int) 1 := ⟨⟨GG_at 324 (by decide +kernel) rfl, GG_at 325 (by decide +kernel) rfl, GG_at 14 (by decide +kernel) rfl, GG_at 326 (by decide +kernel) rfl⟩, by decide +kernel, by decide +kernel, by decide +kernel⟩
theorem cw_J2_241 : CWS RJ2 241 yJ0_checkBoundsBeginEnd_23922 cJ0_checkBoundsBeginEnd_23922 3 none 3 := ⟨⟨GG_at 327 (by decide +kernel) rfl, GG_at 328 (by decide +kernel) rfl, GG_at 11 (by decide +kernel) rfl, GG_at 329 (by decide +kernel) rfl⟩, by decide +kernel, by decide +kernel, by decide +kernel⟩
theorem cw_J0_1062 : CWS RJ0 1062 yJ3_checkFromToIndex_8c36e cJ3_checkFromToIndex_8c36e 4 (some .int) 4 := ⟨⟨GG_at 332 (by decide +kernel) rfl, GG_at 333 (by decide +kernel) rfl, GG_at 15 (by decide +kernel) rfl, GG_at 334 (by decide +kernel) rfl⟩, by decide +kernel, by decide +kernel, by decide +kernel⟩
theorem cw_J2_244 : CWS RJ2 244 yJ2_indexOfCharUnsafe_4cfef cJ2_indexOfCharUnsafe_4cfef 5 (some .int) 4 := ⟨⟨GG_at 335 (by decide +kernel) rfl, GG_at 336 (by decide +kernel) rfl, GG_at 14 (by decide +kernel) rfl, GG_at 337 (by decide +kernel) rfl⟩, by decide +kernel, by decide +kernel, by decide +kernel⟩
theorem cw_J2_71 : CWS RJ2 71 yJ2_getChar_3b067 cJ2_getChar_3b067 2 (some .char) 2 := ⟨⟨GG_at 338 (by decide +kernel) rfl, GG_at 339 (by decide +kernel) rfl, GG_at 14 (by decide +kernel) rfl, GG_at 340 (by decide +kernel) rfl⟩, by decide +kernel, by decide +kernel, by decide +kernel⟩
theorem cw_J2_232 : CWS RJ2 232 yJ2_indexOfSupplementary_4cfef cJ2_indexOfSupplementary_4cfef 7 (some .int) 4 := ⟨⟨GG_at 347 (by decide +kernel) rfl, GG_at 348 (by decide +kernel) rfl, GG_at 14 (by decide +kernel) rfl, GG_at 349 (by decide +kernel) rfl⟩, by decide +kernel, by decide +kernel, by decide +kernel⟩
theorem cw_J2_164 : CWS RJ2 164 yJ11_isValidCodePoint_9a6ad cJ11_isValidCodePoint_9a6ad 2 (some .boolean) 1 := ⟨⟨GG_at 350 (by decide +kernel) rfl, GG_at 351 (by decide +kernel) rfl, GG_at 16 (by decide +kernel) rfl, GG_at 352 (by decide +kernel) rfl⟩, by decide +kernel, by decide +kernel, by decide +kernel⟩
theorem cw_J2_157 : CWS RJ2 157 yJ11_highSurrogate_5068e cJ11_highSurrogate_5068e 1 (some .char) 1 := ⟨⟨GG_at 353 (by decide +kernel) rfl, GG_at 354 (by decide +kernel) rfl, GG_at 16 (by decide +kernel) rfl, GG_at 355 (by decide +kernel) rfl⟩, by decide +kernel, by decide +kernel, by decide +kernel⟩
theorem co_J11_110 : Cond.constant RJ11 110 55232 ∈ GG := GG_at 356 (by decide +kernel) rfl
theorem cw_J2_161 : CWS RJ2 161 yJ11_lowSurrogate_5068e cJ11_lowSurrogate_5068e 1 (some .char) 1 := ⟨⟨GG_at 357 (by decide +kernel) rfl, GG_at 358 (by decide +kernel) rfl, GG_at 16 (by decide +kernel) rfl, GG_at 359 (by decide +kernel) rfl⟩, by decide +kernel, by decide +kernel, by decide +kernel⟩
theorem co_J11_76 : Cond.constant RJ11 76 56320 ∈ GG := GG_at 360 (by decide +kernel) rfl
theorem cw_X0_27 : CWV RX0 27 yX0_isWithin cX0_isWithin 4 (some .boolean) 3 := ⟨⟨GG_at 361 (by decide +kernel) rfl, GG_at 363 (by decide +kernel) rfl, GG_sel 1 (by decide +kernel) rfl, GG_at 2 (by decide +kernel) rfl, GG_at 364 (by decide +kernel) rfl⟩, by decide +kernel, by decide +kernel, by decide +kernel⟩
theorem cw_L_27 : CWV RL 27 yX7_house cX7_house 1 (some .int) 0 := ⟨⟨GG_at 366 (by decide +kernel) rfl, GG_at 367 (by decide +kernel) rfl, GG_at 368 (by decide +kernel) rfl, GG_at 1 (by decide +kernel) rfl, GG_at 369 (by decide +kernel) rfl⟩, by decide +kernel, by decide +kernel, by decide +kernel⟩
theorem cw_X7_60 : CWV RX7 60 yX0_isHouse cX0_isHouse 1 (some .boolean) 0 := ⟨⟨GG_at 370 (by decide +kernel) rfl, GG_at 371 (by decide +kernel) rfl, GG_at 372 (by decide +kernel) rfl, GG_at 2 (by decide +kernel) rfl, GG_at 373 (by decide +kernel) rfl⟩, by decide +kernel, by decide +kernel, by decide +kernel⟩
theorem cw_X0_23 : CWV RX0 23 yX0_firstFault cX0_firstFault 2 (some .int) 0 := ⟨⟨GG_at 374 (by decide +kernel) rfl, GG_at 267 (by decide +kernel) rfl, GG_at 268 (by decide +kernel) rfl, GG_at 2 (by decide +kernel) rfl, GG_at 269 (by decide +kernel) rfl⟩, by decide +kernel, by decide +kernel, by decide +kernel⟩
theorem cw_X7_64 : CWV RX7 64 yX6_read cX6_read 3 none 1 := ⟨⟨GG_at 375 (by decide +kernel) rfl, GG_at 376 (by decide +kernel) rfl, GG_at 377 (by decide +kernel) rfl, GG_at 4 (by decide +kernel) rfl, GG_at 378 (by decide +kernel) rfl⟩, by decide +kernel, by decide +kernel, by decide +kernel⟩
theorem cw_X6_45 : CWS RX6 45 yJ9_min_7cf53 cJ9_min_7cf53 2 (some .int) 2 := ⟨⟨GG_at 379 (by decide +kernel) rfl, GG_at 307 (by decide +kernel) rfl, GG_at 13 (by decide +kernel) rfl, GG_at 308 (by decide +kernel) rfl⟩, by decide +kernel, by decide +kernel, by decide +kernel⟩
theorem cw_X6_51 : CWV RX6 51 yX5_read cX5_read 3 none 2 := ⟨⟨GG_at 380 (by decide +kernel) rfl, GG_at 381 (by decide +kernel) rfl, GG_at 382 (by decide +kernel) rfl, GG_at 5 (by decide +kernel) rfl, GG_at 383 (by decide +kernel) rfl⟩, by decide +kernel, by decide +kernel, by decide +kernel⟩
theorem cw_X5_38 : CWV RX5 38 yJ0_indexOf_0f7a4 cJ0_indexOf_0f7a4 2 (some .int) 1 := ⟨⟨GG_at 385 (by decide +kernel) rfl, GG_at 276 (by decide +kernel) rfl, GG_at 277 (by decide +kernel) rfl, GG_at 11 (by decide +kernel) rfl, GG_at 278 (by decide +kernel) rfl⟩, by decide +kernel, by decide +kernel, by decide +kernel⟩
theorem cw_X7_73 : CWV RX7 73 yX1_darken cX1_darken 1 none 0 := ⟨⟨GG_at 386 (by decide +kernel) rfl, GG_at 387 (by decide +kernel) rfl, GG_at 388 (by decide +kernel) rfl, GG_at 6 (by decide +kernel) rfl, GG_at 389 (by decide +kernel) rfl⟩, by decide +kernel, by decide +kernel, by decide +kernel⟩
theorem cw_X1_44 : CWV RX1 44 yX1_weigh cX1_weigh 3 none 0 := ⟨⟨GG_at 390 (by decide +kernel) rfl, GG_at 391 (by decide +kernel) rfl, GG_at 392 (by decide +kernel) rfl, GG_at 6 (by decide +kernel) rfl, GG_at 393 (by decide +kernel) rfl⟩, by decide +kernel, by decide +kernel, by decide +kernel⟩
theorem cw_X1_90 : CWV RX1 90 yX1_startAnew cX1_startAnew 3 none 0 := ⟨⟨GG_at 394 (by decide +kernel) rfl, GG_at 396 (by decide +kernel) rfl, GG_sel 2 (by decide +kernel) rfl, GG_at 6 (by decide +kernel) rfl, GG_at 397 (by decide +kernel) rfl⟩, by decide +kernel, by decide +kernel, by decide +kernel⟩
theorem cw_X1_78 : CWV RX1 78 yX1_titleOn cX1_titleOn 3 (some .int) 1 := ⟨⟨GG_at 398 (by decide +kernel) rfl, GG_at 400 (by decide +kernel) rfl, GG_sel 3 (by decide +kernel) rfl, GG_at 6 (by decide +kernel) rfl, GG_at 401 (by decide +kernel) rfl⟩, by decide +kernel, by decide +kernel, by decide +kernel⟩
theorem cw_X1_109 : CWV RX1 109 yX6_at cX6_at 2 (some (.object "PlaySeason$Title")) 1 := ⟨⟨GG_at 402 (by decide +kernel) rfl, GG_at 403 (by decide +kernel) rfl, GG_at 404 (by decide +kernel) rfl, GG_at 4 (by decide +kernel) rfl, GG_at 405 (by decide +kernel) rfl⟩, by decide +kernel, by decide +kernel, by decide +kernel⟩
theorem cw_X1_93 : CWV RX1 93 yX1_breakAt cX1_breakAt 5 (some .int) 2 := ⟨⟨GG_at 406 (by decide +kernel) rfl, GG_at 408 (by decide +kernel) rfl, GG_sel 4 (by decide +kernel) rfl, GG_at 6 (by decide +kernel) rfl, GG_at 409 (by decide +kernel) rfl⟩, by decide +kernel, by decide +kernel, by decide +kernel⟩
theorem cw_X1_127 : CWV RX1 127 yX1_isCastOn cX1_isCastOn 4 (some .boolean) 2 := ⟨⟨GG_at 410 (by decide +kernel) rfl, GG_at 412 (by decide +kernel) rfl, GG_sel 5 (by decide +kernel) rfl, GG_at 6 (by decide +kernel) rfl, GG_at 413 (by decide +kernel) rfl⟩, by decide +kernel, by decide +kernel, by decide +kernel⟩
theorem cw_X1_130 : CWV RX1 130 yX5_isOf cX5_isOf 2 (some .boolean) 1 := ⟨⟨GG_at 414 (by decide +kernel) rfl, GG_at 415 (by decide +kernel) rfl, GG_at 416 (by decide +kernel) rfl, GG_at 5 (by decide +kernel) rfl, GG_at 417 (by decide +kernel) rfl⟩, by decide +kernel, by decide +kernel, by decide +kernel⟩
theorem cw_X1_96 : CWV RX1 96 yX1_seatsAt cX1_seatsAt 6 (some .int) 2 := ⟨⟨GG_at 418 (by decide +kernel) rfl, GG_at 420 (by decide +kernel) rfl, GG_sel 6 (by decide +kernel) rfl, GG_at 6 (by decide +kernel) rfl, GG_at 421 (by decide +kernel) rfl⟩, by decide +kernel, by decide +kernel, by decide +kernel⟩
theorem cw_X1_138 : CWS RX1 138 yJ9_min_7cf53 cJ9_min_7cf53 2 (some .int) 2 := ⟨⟨GG_at 422 (by decide +kernel) rfl, GG_at 307 (by decide +kernel) rfl, GG_at 13 (by decide +kernel) rfl, GG_at 308 (by decide +kernel) rfl⟩, by decide +kernel, by decide +kernel, by decide +kernel⟩
theorem cw_X1_143 : CWV RX1 143 yX1_isDrawnBy cX1_isDrawnBy 4 (some .boolean) 2 := ⟨⟨GG_at 423 (by decide +kernel) rfl, GG_at 425 (by decide +kernel) rfl, GG_sel 7 (by decide +kernel) rfl, GG_at 6 (by decide +kernel) rfl, GG_at 426 (by decide +kernel) rfl⟩, by decide +kernel, by decide +kernel, by decide +kernel⟩
theorem cw_X1_99 : CWV RX1 99 yX1_tally cX1_tally 3 none 2 := ⟨⟨GG_at 427 (by decide +kernel) rfl, GG_at 429 (by decide +kernel) rfl, GG_sel 8 (by decide +kernel) rfl, GG_at 6 (by decide +kernel) rfl, GG_at 430 (by decide +kernel) rfl⟩, by decide +kernel, by decide +kernel, by decide +kernel⟩
theorem cw_L_31 : CWV RL 31 yX7_plan cX7_plan 1 (some .int) 0 := ⟨⟨GG_at 431 (by decide +kernel) rfl, GG_at 432 (by decide +kernel) rfl, GG_at 433 (by decide +kernel) rfl, GG_at 1 (by decide +kernel) rfl, GG_at 434 (by decide +kernel) rfl⟩, by decide +kernel, by decide +kernel, by decide +kernel⟩
theorem cw_X7_93 : CWV RX7 93 yX7_hasHouse cX7_hasHouse 1 (some .boolean) 0 := ⟨⟨GG_at 435 (by decide +kernel) rfl, GG_at 437 (by decide +kernel) rfl, GG_sel 9 (by decide +kernel) rfl, GG_at 1 (by decide +kernel) rfl, GG_at 438 (by decide +kernel) rfl⟩, by decide +kernel, by decide +kernel, by decide +kernel⟩
theorem cw_X7_96 : CWV RX7 96 yX0_isPlan cX0_isPlan 3 (some .boolean) 1 := ⟨⟨GG_at 439 (by decide +kernel) rfl, GG_at 440 (by decide +kernel) rfl, GG_at 441 (by decide +kernel) rfl, GG_at 2 (by decide +kernel) rfl, GG_at 442 (by decide +kernel) rfl⟩, by decide +kernel, by decide +kernel, by decide +kernel⟩
theorem cw_X7_100 : CWV RX7 100 yX1_read cX1_read 3 none 1 := ⟨⟨GG_at 443 (by decide +kernel) rfl, GG_at 444 (by decide +kernel) rfl, GG_at 445 (by decide +kernel) rfl, GG_at 6 (by decide +kernel) rfl, GG_at 446 (by decide +kernel) rfl⟩, by decide +kernel, by decide +kernel, by decide +kernel⟩
theorem cw_X7_101 : CWV RX7 101 yX1_lit cX1_lit 1 (some .int) 0 := ⟨⟨GG_at 447 (by decide +kernel) rfl, GG_at 448 (by decide +kernel) rfl, GG_at 449 (by decide +kernel) rfl, GG_at 6 (by decide +kernel) rfl, GG_at 450 (by decide +kernel) rfl⟩, by decide +kernel, by decide +kernel, by decide +kernel⟩
theorem cw_X1_82 : CWV RX1 82 yX1_darkWithin cX1_darkWithin 5 (some .int) 2 := ⟨⟨GG_at 451 (by decide +kernel) rfl, GG_at 452 (by decide +kernel) rfl, GG_at 453 (by decide +kernel) rfl, GG_at 6 (by decide +kernel) rfl, GG_at 454 (by decide +kernel) rfl⟩, by decide +kernel, by decide +kernel, by decide +kernel⟩
theorem cw_X1_75 : CWV RX1 75 yX1_isDark cX1_isDark 2 (some .boolean) 1 := ⟨⟨GG_at 455 (by decide +kernel) rfl, GG_at 456 (by decide +kernel) rfl, GG_at 457 (by decide +kernel) rfl, GG_at 6 (by decide +kernel) rfl, GG_at 458 (by decide +kernel) rfl⟩, by decide +kernel, by decide +kernel, by decide +kernel⟩
theorem cw_L_35 : CWV RL 35 yX7_title cX7_title 3 (some .int) 2 := ⟨⟨GG_at 459 (by decide +kernel) rfl, GG_at 460 (by decide +kernel) rfl, GG_at 461 (by decide +kernel) rfl, GG_at 1 (by decide +kernel) rfl, GG_at 462 (by decide +kernel) rfl⟩, by decide +kernel, by decide +kernel, by decide +kernel⟩
theorem cw_X7_104 : CWV RX7 104 yX6_has cX6_has 2 (some .boolean) 1 := ⟨⟨GG_at 463 (by decide +kernel) rfl, GG_at 464 (by decide +kernel) rfl, GG_at 465 (by decide +kernel) rfl, GG_at 4 (by decide +kernel) rfl, GG_at 466 (by decide +kernel) rfl⟩, by decide +kernel, by decide +kernel, by decide +kernel⟩
theorem cw_X7_107 : CWV RX7 107 yX7_ofTitle cX7_ofTitle 4 (some .int) 2 := ⟨⟨GG_at 467 (by decide +kernel) rfl, GG_at 469 (by decide +kernel) rfl, GG_sel 10 (by decide +kernel) rfl, GG_at 1 (by decide +kernel) rfl, GG_at 470 (by decide +kernel) rfl⟩, by decide +kernel, by decide +kernel, by decide +kernel⟩
theorem cw_X7_114 : CWV RX7 114 yX6_at cX6_at 2 (some (.object "PlaySeason$Title")) 1 := ⟨⟨GG_at 471 (by decide +kernel) rfl, GG_at 403 (by decide +kernel) rfl, GG_at 404 (by decide +kernel) rfl, GG_at 4 (by decide +kernel) rfl, GG_at 405 (by decide +kernel) rfl⟩, by decide +kernel, by decide +kernel, by decide +kernel⟩
theorem cw_X7_226 : CWV RX7 226 yX1_timesOf cX1_timesOf 2 (some .int) 1 := ⟨⟨GG_at 472 (by decide +kernel) rfl, GG_at 473 (by decide +kernel) rfl, GG_at 474 (by decide +kernel) rfl, GG_at 6 (by decide +kernel) rfl, GG_at 475 (by decide +kernel) rfl⟩, by decide +kernel, by decide +kernel, by decide +kernel⟩
theorem cw_X7_229 : CWV RX7 229 yX4_sortsOf cX4_sortsOf 4 (some .int) 1 := ⟨⟨GG_at 476 (by decide +kernel) rfl, GG_at 477 (by decide +kernel) rfl, GG_at 478 (by decide +kernel) rfl, GG_at 8 (by decide +kernel) rfl, GG_at 479 (by decide +kernel) rfl⟩, by decide +kernel, by decide +kernel, by decide +kernel⟩
theorem cw_X7_232 : CWS RX7 232 yX7_ask cX7_ask 7 (some .int) 1 := ⟨⟨GG_at 480 (by decide +kernel) rfl, GG_at 481 (by decide +kernel) rfl, GG_at 1 (by decide +kernel) rfl, GG_at 482 (by decide +kernel) rfl⟩, by decide +kernel, by decide +kernel, by decide +kernel⟩
theorem cw_X7_184 : CWS RX7 184 yX7_kindsLeft cX7_kindsLeft 2 (some .int) 2 := ⟨⟨GG_at 483 (by decide +kernel) rfl, GG_at 484 (by decide +kernel) rfl, GG_at 1 (by decide +kernel) rfl, GG_at 485 (by decide +kernel) rfl⟩, by decide +kernel, by decide +kernel, by decide +kernel⟩
theorem cw_X7_244 : CWS RX7 244 yJ6_bitCount_0f7a4 cJ6_bitCount_0f7a4 1 (some .int) 1 := ⟨⟨GG_at 488 (by decide +kernel) rfl, GG_at 489 (by decide +kernel) rfl, GG_at 17 (by decide +kernel) rfl, GG_at 490 (by decide +kernel) rfl⟩, by decide +kernel, by decide +kernel, by decide +kernel⟩
theorem co_J6_265 : Cond.constant RJ6 265 1431655765 ∈ GG := GG_at 491 (by decide +kernel) rfl
theorem co_J6_266 : Cond.constant RJ6 266 858993459 ∈ GG := GG_at 492 (by decide +kernel) rfl
theorem co_J6_267 : Cond.constant RJ6 267 252645135 ∈ GG := GG_at 493 (by decide +kernel) rfl
theorem cw_X7_249 : CWS RX7 249 yJ9_max_7cf53 cJ9_max_7cf53 2 (some .int) 2 := ⟨⟨GG_at 494 (by decide +kernel) rfl, GG_at 304 (by decide +kernel) rfl, GG_at 13 (by decide +kernel) rfl, GG_at 305 (by decide +kernel) rfl⟩, by decide +kernel, by decide +kernel, by decide +kernel⟩
theorem cw_L_40 : CWV RL 40 yX7_as cX7_as 3 (some .int) 2 := ⟨⟨GG_at 495 (by decide +kernel) rfl, GG_at 496 (by decide +kernel) rfl, GG_at 497 (by decide +kernel) rfl, GG_at 1 (by decide +kernel) rfl, GG_at 498 (by decide +kernel) rfl⟩, by decide +kernel, by decide +kernel, by decide +kernel⟩
theorem cw_X7_111 : CWS RX7 111 yX7_isKind cX7_isKind 1 (some .boolean) 1 := ⟨⟨GG_at 499 (by decide +kernel) rfl, GG_at 500 (by decide +kernel) rfl, GG_at 1 (by decide +kernel) rfl, GG_at 501 (by decide +kernel) rfl⟩, by decide +kernel, by decide +kernel, by decide +kernel⟩
theorem cw_X7_118 : CWV RX7 118 yX5_isOf cX5_isOf 2 (some .boolean) 1 := ⟨⟨GG_at 502 (by decide +kernel) rfl, GG_at 415 (by decide +kernel) rfl, GG_at 416 (by decide +kernel) rfl, GG_at 5 (by decide +kernel) rfl, GG_at 417 (by decide +kernel) rfl⟩, by decide +kernel, by decide +kernel, by decide +kernel⟩
theorem cw_L_44 : CWV RL 44 yX7_night cX7_night 3 (some .int) 2 := ⟨⟨GG_at 503 (by decide +kernel) rfl, GG_at 504 (by decide +kernel) rfl, GG_at 505 (by decide +kernel) rfl, GG_at 1 (by decide +kernel) rfl, GG_at 506 (by decide +kernel) rfl⟩, by decide +kernel, by decide +kernel, by decide +kernel⟩
theorem cw_X7_123 : CWS RX7 123 yX7_isNight cX7_isNight 1 (some .boolean) 1 := ⟨⟨GG_at 507 (by decide +kernel) rfl, GG_at 508 (by decide +kernel) rfl, GG_at 1 (by decide +kernel) rfl, GG_at 509 (by decide +kernel) rfl⟩, by decide +kernel, by decide +kernel, by decide +kernel⟩
theorem cw_X7_126 : CWV RX7 126 yX7_ofNight cX7_ofNight 3 (some .int) 2 := ⟨⟨GG_at 510 (by decide +kernel) rfl, GG_at 512 (by decide +kernel) rfl, GG_sel 11 (by decide +kernel) rfl, GG_at 1 (by decide +kernel) rfl, GG_at 513 (by decide +kernel) rfl⟩, by decide +kernel, by decide +kernel, by decide +kernel⟩
theorem cw_L_48 : CWV RL 48 yX7_play cX7_play 3 (some .int) 2 := ⟨⟨GG_at 514 (by decide +kernel) rfl, GG_at 515 (by decide +kernel) rfl, GG_at 516 (by decide +kernel) rfl, GG_at 1 (by decide +kernel) rfl, GG_at 517 (by decide +kernel) rfl⟩, by decide +kernel, by decide +kernel, by decide +kernel⟩
theorem cw_X7_133 : CWV RX7 133 yX1_weigh cX1_weigh 3 none 0 := ⟨⟨GG_at 518 (by decide +kernel) rfl, GG_at 391 (by decide +kernel) rfl, GG_at 392 (by decide +kernel) rfl, GG_at 6 (by decide +kernel) rfl, GG_at 393 (by decide +kernel) rfl⟩, by decide +kernel, by decide +kernel, by decide +kernel⟩
theorem cw_L_52 : CWV RL 52 yX7_delay cX7_delay 2 (some .int) 1 := ⟨⟨GG_at 519 (by decide +kernel) rfl, GG_at 520 (by decide +kernel) rfl, GG_at 521 (by decide +kernel) rfl, GG_at 1 (by decide +kernel) rfl, GG_at 522 (by decide +kernel) rfl⟩, by decide +kernel, by decide +kernel, by decide +kernel⟩
theorem cw_X7_139 : CWV RX7 139 yX1_shift cX1_shift 4 none 1 := ⟨⟨GG_at 523 (by decide +kernel) rfl, GG_at 524 (by decide +kernel) rfl, GG_at 525 (by decide +kernel) rfl, GG_at 6 (by decide +kernel) rfl, GG_at 526 (by decide +kernel) rfl⟩, by decide +kernel, by decide +kernel, by decide +kernel⟩
theorem cw_X1_58 : CNS RX1 58 yX7_isNight "PlaySeason" cX7_isNight 1 (some .boolean) 1 := ⟨⟨by decide +kernel, GG_at 508 (by decide +kernel) rfl, GG_at 1 (by decide +kernel) rfl, GG_at 509 (by decide +kernel) rfl⟩, by decide +kernel, by decide +kernel, by decide +kernel⟩
theorem cw_L_56 : CWV RL 56 yX7_add cX7_add 4 (some .int) 3 := ⟨⟨GG_at 528 (by decide +kernel) rfl, GG_at 529 (by decide +kernel) rfl, GG_at 530 (by decide +kernel) rfl, GG_at 1 (by decide +kernel) rfl, GG_at 531 (by decide +kernel) rfl⟩, by decide +kernel, by decide +kernel, by decide +kernel⟩
theorem cw_X7_142 : CWV RX7 142 yX6_append cX6_append 5 none 3 := ⟨⟨GG_at 532 (by decide +kernel) rfl, GG_at 533 (by decide +kernel) rfl, GG_at 534 (by decide +kernel) rfl, GG_at 4 (by decide +kernel) rfl, GG_at 535 (by decide +kernel) rfl⟩, by decide +kernel, by decide +kernel, by decide +kernel⟩
theorem cw_L_61 : CWV RL 61 yX7_rights cX7_rights 5 (some .int) 3 := ⟨⟨GG_at 536 (by decide +kernel) rfl, GG_at 537 (by decide +kernel) rfl, GG_at 538 (by decide +kernel) rfl, GG_at 1 (by decide +kernel) rfl, GG_at 539 (by decide +kernel) rfl⟩, by decide +kernel, by decide +kernel, by decide +kernel⟩
theorem cw_X7_146 : CWS RX7 146 yX7_isSpan cX7_isSpan 2 (some .boolean) 2 := ⟨⟨GG_at 540 (by decide +kernel) rfl, GG_at 541 (by decide +kernel) rfl, GG_at 1 (by decide +kernel) rfl, GG_at 542 (by decide +kernel) rfl⟩, by decide +kernel, by decide +kernel, by decide +kernel⟩
theorem cw_L_65 : CWV RL 65 yX7_be cX7_be 5 (some .int) 2 := ⟨⟨GG_at 543 (by decide +kernel) rfl, GG_at 544 (by decide +kernel) rfl, GG_at 545 (by decide +kernel) rfl, GG_at 1 (by decide +kernel) rfl, GG_at 546 (by decide +kernel) rfl⟩, by decide +kernel, by decide +kernel, by decide +kernel⟩
theorem cw_L_69 : CWV RL 69 yX7_best cX7_best 4 (some .int) 3 := ⟨⟨GG_at 547 (by decide +kernel) rfl, GG_at 548 (by decide +kernel) rfl, GG_at 549 (by decide +kernel) rfl, GG_at 1 (by decide +kernel) rfl, GG_at 550 (by decide +kernel) rfl⟩, by decide +kernel, by decide +kernel, by decide +kernel⟩
theorem cw_X7_162 : CWV RX7 162 yX1_darkWithin cX1_darkWithin 5 (some .int) 2 := ⟨⟨GG_at 551 (by decide +kernel) rfl, GG_at 452 (by decide +kernel) rfl, GG_at 453 (by decide +kernel) rfl, GG_at 6 (by decide +kernel) rfl, GG_at 454 (by decide +kernel) rfl⟩, by decide +kernel, by decide +kernel, by decide +kernel⟩
theorem cw_X7_165 : CWV RX7 165 yX2_seek cX2_seek 6 none 3 := ⟨⟨GG_at 552 (by decide +kernel) rfl, GG_at 553 (by decide +kernel) rfl, GG_at 554 (by decide +kernel) rfl, GG_at 9 (by decide +kernel) rfl, GG_at 555 (by decide +kernel) rfl⟩, by decide +kernel, by decide +kernel, by decide +kernel⟩
theorem cw_X2_26 : CWV RX2 26 yX2_gatherOpen cX2_gatherOpen 5 none 3 := ⟨⟨GG_at 556 (by decide +kernel) rfl, GG_at 558 (by decide +kernel) rfl, GG_sel 12 (by decide +kernel) rfl, GG_at 9 (by decide +kernel) rfl, GG_at 559 (by decide +kernel) rfl⟩, by decide +kernel, by decide +kernel, by decide +kernel⟩
theorem cw_X2_62 : CWV RX2 62 yX1_isDark cX1_isDark 2 (some .boolean) 1 := ⟨⟨GG_at 560 (by decide +kernel) rfl, GG_at 456 (by decide +kernel) rfl, GG_at 457 (by decide +kernel) rfl, GG_at 6 (by decide +kernel) rfl, GG_at 458 (by decide +kernel) rfl⟩, by decide +kernel, by decide +kernel, by decide +kernel⟩
theorem cw_X2_48 : CWV RX2 48 yX2_fill cX2_fill 5 none 1 := ⟨⟨GG_at 564 (by decide +kernel) rfl, GG_at 566 (by decide +kernel) rfl, GG_sel 13 (by decide +kernel) rfl, GG_at 9 (by decide +kernel) rfl, GG_at 567 (by decide +kernel) rfl⟩, by decide +kernel, by decide +kernel, by decide +kernel⟩
theorem cw_X2_52 : CWV RX2 52 yX1_weigh cX1_weigh 3 none 0 := ⟨⟨GG_at 568 (by decide +kernel) rfl, GG_at 391 (by decide +kernel) rfl, GG_at 392 (by decide +kernel) rfl, GG_at 6 (by decide +kernel) rfl, GG_at 393 (by decide +kernel) rfl⟩, by decide +kernel, by decide +kernel, by decide +kernel⟩
theorem cw_X2_55 : CWV RX2 55 yX2_isBetter cX2_isBetter 1 (some .boolean) 0 := ⟨⟨GG_at 569 (by decide +kernel) rfl, GG_at 571 (by decide +kernel) rfl, GG_sel 14 (by decide +kernel) rfl, GG_at 9 (by decide +kernel) rfl, GG_at 572 (by decide +kernel) rfl⟩, by decide +kernel, by decide +kernel, by decide +kernel⟩
theorem cw_X2_59 : CWV RX2 59 yX2_keep cX2_keep 1 none 0 := ⟨⟨GG_at 573 (by decide +kernel) rfl, GG_at 575 (by decide +kernel) rfl, GG_sel 15 (by decide +kernel) rfl, GG_at 9 (by decide +kernel) rfl, GG_at 576 (by decide +kernel) rfl⟩, by decide +kernel, by decide +kernel, by decide +kernel⟩
theorem cw_X7_176 : CWV RX7 176 yX1_take cX1_take 2 none 1 := ⟨⟨GG_at 577 (by decide +kernel) rfl, GG_at 578 (by decide +kernel) rfl, GG_at 579 (by decide +kernel) rfl, GG_at 6 (by decide +kernel) rfl, GG_at 580 (by decide +kernel) rfl⟩, by decide +kernel, by decide +kernel, by decide +kernel⟩
theorem cw_L_73 : CWV RL 73 yX7_rank cX7_rank 3 (some .int) 1 := ⟨⟨GG_at 582 (by decide +kernel) rfl, GG_at 583 (by decide +kernel) rfl, GG_at 584 (by decide +kernel) rfl, GG_at 1 (by decide +kernel) rfl, GG_at 585 (by decide +kernel) rfl⟩, by decide +kernel, by decide +kernel, by decide +kernel⟩
theorem cw_X7_180 : CWV RX7 180 yX1_placeOf cX1_placeOf 4 (some .int) 1 := ⟨⟨GG_at 586 (by decide +kernel) rfl, GG_at 587 (by decide +kernel) rfl, GG_at 588 (by decide +kernel) rfl, GG_at 6 (by decide +kernel) rfl, GG_at 589 (by decide +kernel) rfl⟩, by decide +kernel, by decide +kernel, by decide +kernel⟩
theorem cw_X1_86 : CWV RX1 86 yX1_comesAhead cX1_comesAhead 3 (some .boolean) 2 := ⟨⟨GG_at 590 (by decide +kernel) rfl, GG_at 592 (by decide +kernel) rfl, GG_sel 16 (by decide +kernel) rfl, GG_at 6 (by decide +kernel) rfl, GG_at 593 (by decide +kernel) rfl⟩, by decide +kernel, by decide +kernel, by decide +kernel⟩
theorem cw_L_77 : CWV RL 77 yX7_see cX7_see 4 (some .int) 3 := ⟨⟨GG_at 594 (by decide +kernel) rfl, GG_at 595 (by decide +kernel) rfl, GG_at 596 (by decide +kernel) rfl, GG_at 1 (by decide +kernel) rfl, GG_at 597 (by decide +kernel) rfl⟩, by decide +kernel, by decide +kernel, by decide +kernel⟩
theorem cw_X7_188 : CWV RX7 188 yX4_note cX4_note 3 none 2 := ⟨⟨GG_at 598 (by decide +kernel) rfl, GG_at 599 (by decide +kernel) rfl, GG_at 600 (by decide +kernel) rfl, GG_at 8 (by decide +kernel) rfl, GG_at 601 (by decide +kernel) rfl⟩, by decide +kernel, by decide +kernel, by decide +kernel⟩
theorem cw_L_82 : CWV RL 82 yX7_forget cX7_forget 2 (some .int) 0 := ⟨⟨GG_at 602 (by decide +kernel) rfl, GG_at 603 (by decide +kernel) rfl, GG_at 604 (by decide +kernel) rfl, GG_at 1 (by decide +kernel) rfl, GG_at 605 (by decide +kernel) rfl⟩, by decide +kernel, by decide +kernel, by decide +kernel⟩
theorem cw_L_86 : CWV RL 86 yX7_drawn cX7_drawn 8 (some .int) 3 := ⟨⟨GG_at 606 (by decide +kernel) rfl, GG_at 607 (by decide +kernel) rfl, GG_at 608 (by decide +kernel) rfl, GG_at 1 (by decide +kernel) rfl, GG_at 609 (by decide +kernel) rfl⟩, by decide +kernel, by decide +kernel, by decide +kernel⟩
theorem cw_X7_192 : CWV RX7 192 yX1_drawAll cX1_drawAll 5 (some .int) 1 := ⟨⟨GG_at 610 (by decide +kernel) rfl, GG_at 611 (by decide +kernel) rfl, GG_at 612 (by decide +kernel) rfl, GG_at 6 (by decide +kernel) rfl, GG_at 613 (by decide +kernel) rfl⟩, by decide +kernel, by decide +kernel, by decide +kernel⟩
theorem co_X1_62 : Cond.constantLong RX1 62 1103515245 ∈ GG := GG_at 614 (by decide +kernel) rfl
theorem co_X1_64 : Cond.constantLong RX1 64 12345 ∈ GG := GG_at 615 (by decide +kernel) rfl
theorem co_X1_66 : Cond.constantLong RX1 66 2147483648 ∈ GG := GG_at 616 (by decide +kernel) rfl
theorem co_X1_68 : Cond.constantLong RX1 68 65536 ∈ GG := GG_at 617 (by decide +kernel) rfl
theorem cw_L_90 : CWV RL 90 yX7_image cX7_image 1 (some .int) 0 := ⟨⟨GG_at 618 (by decide +kernel) rfl, GG_at 619 (by decide +kernel) rfl, GG_at 620 (by decide +kernel) rfl, GG_at 1 (by decide +kernel) rfl, GG_at 621 (by decide +kernel) rfl⟩, by decide +kernel, by decide +kernel, by decide +kernel⟩
theorem cw_X7_196 : CWV RX7 196 yX3_copy cX3_copy 2 none 1 := ⟨⟨GG_at 622 (by decide +kernel) rfl, GG_at 623 (by decide +kernel) rfl, GG_at 624 (by decide +kernel) rfl, GG_at 3 (by decide +kernel) rfl, GG_at 625 (by decide +kernel) rfl⟩, by decide +kernel, by decide +kernel, by decide +kernel⟩
theorem cw_X3_32 : CWV RX3 32 yX6_copy cX6_copy 3 none 1 := ⟨⟨GG_at 626 (by decide +kernel) rfl, GG_at 627 (by decide +kernel) rfl, GG_at 628 (by decide +kernel) rfl, GG_at 4 (by decide +kernel) rfl, GG_at 629 (by decide +kernel) rfl⟩, by decide +kernel, by decide +kernel, by decide +kernel⟩
theorem cw_X6_55 : CWV RX6 55 yX5_copy cX5_copy 2 none 1 := ⟨⟨GG_at 630 (by decide +kernel) rfl, GG_at 631 (by decide +kernel) rfl, GG_at 632 (by decide +kernel) rfl, GG_at 5 (by decide +kernel) rfl, GG_at 633 (by decide +kernel) rfl⟩, by decide +kernel, by decide +kernel, by decide +kernel⟩
theorem cw_X3_39 : CWV RX3 39 yX1_take cX1_take 2 none 1 := ⟨⟨GG_at 634 (by decide +kernel) rfl, GG_at 578 (by decide +kernel) rfl, GG_at 579 (by decide +kernel) rfl, GG_at 6 (by decide +kernel) rfl, GG_at 580 (by decide +kernel) rfl⟩, by decide +kernel, by decide +kernel, by decide +kernel⟩
theorem cw_X3_43 : CWV RX3 43 yX4_copy cX4_copy 2 none 1 := ⟨⟨GG_at 635 (by decide +kernel) rfl, GG_at 636 (by decide +kernel) rfl, GG_at 637 (by decide +kernel) rfl, GG_at 8 (by decide +kernel) rfl, GG_at 638 (by decide +kernel) rfl⟩, by decide +kernel, by decide +kernel, by decide +kernel⟩
theorem cw_L_94 : CWV RL 94 yX7_restore cX7_restore 1 (some .int) 0 := ⟨⟨GG_at 640 (by decide +kernel) rfl, GG_at 641 (by decide +kernel) rfl, GG_at 642 (by decide +kernel) rfl, GG_at 1 (by decide +kernel) rfl, GG_at 643 (by decide +kernel) rfl⟩, by decide +kernel, by decide +kernel, by decide +kernel⟩
theorem cw_L_98 : CWV RL 98 yX7_count cX7_count 2 (some .int) 1 := ⟨⟨GG_at 644 (by decide +kernel) rfl, GG_at 645 (by decide +kernel) rfl, GG_at 646 (by decide +kernel) rfl, GG_at 1 (by decide +kernel) rfl, GG_at 647 (by decide +kernel) rfl⟩, by decide +kernel, by decide +kernel, by decide +kernel⟩
theorem cw_X7_201 : CWV RX7 201 yX1_unlike cX1_unlike 3 (some .int) 0 := ⟨⟨GG_at 648 (by decide +kernel) rfl, GG_at 649 (by decide +kernel) rfl, GG_at 650 (by decide +kernel) rfl, GG_at 6 (by decide +kernel) rfl, GG_at 651 (by decide +kernel) rfl⟩, by decide +kernel, by decide +kernel, by decide +kernel⟩
theorem cw_L_102 : CWV RL 102 yX7_digest cX7_digest 5 (some .long) 0 := ⟨⟨GG_at 652 (by decide +kernel) rfl, GG_at 653 (by decide +kernel) rfl, GG_at 654 (by decide +kernel) rfl, GG_at 1 (by decide +kernel) rfl, GG_at 655 (by decide +kernel) rfl⟩, by decide +kernel, by decide +kernel, by decide +kernel⟩
theorem co_X7_204 : Cond.constantLong RX7 204 1459 ∈ GG := GG_at 656 (by decide +kernel) rfl
theorem co_X7_206 : Cond.constantLong RX7 206 31 ∈ GG := GG_at 657 (by decide +kernel) rfl
theorem cw_X7_208 : CWV RX7 208 yX7_rank cX7_rank 3 (some .int) 1 := ⟨⟨GG_at 658 (by decide +kernel) rfl, GG_at 583 (by decide +kernel) rfl, GG_at 584 (by decide +kernel) rfl, GG_at 1 (by decide +kernel) rfl, GG_at 585 (by decide +kernel) rfl⟩, by decide +kernel, by decide +kernel, by decide +kernel⟩
theorem cw_X7_214 : CWV RX7 214 yX7_count cX7_count 2 (some .int) 1 := ⟨⟨GG_at 659 (by decide +kernel) rfl, GG_at 645 (by decide +kernel) rfl, GG_at 646 (by decide +kernel) rfl, GG_at 1 (by decide +kernel) rfl, GG_at 647 (by decide +kernel) rfl⟩, by decide +kernel, by decide +kernel, by decide +kernel⟩
theorem cw_X8_83 : CWV RX8 83 yX8_darken cX8_darken 2 none 0 := ⟨⟨GG_at 666 (by decide +kernel) rfl, GG_at 668 (by decide +kernel) rfl, GG_sel 17 (by decide +kernel) rfl, GG_at 10 (by decide +kernel) rfl, GG_at 669 (by decide +kernel) rfl⟩, by decide +kernel, by decide +kernel, by decide +kernel⟩
theorem fl_X8_127 : FLD RX8 127 8 0 := ⟨RX8, TX8, 42, rfl, by decide, inX8, GG_at 670 (by decide +kernel) rfl⟩
theorem fp_X8_127 : FPT RX8 127 8 0 .int := ⟨RX8, TX8, 42, tyX8, rfl, by decide, inX8, GG_at 670 (by decide +kernel) rfl, tyX8_ok, nmX8, rfl, by decide +kernel⟩
theorem fl_X8_124 : FLD RX8 124 8 1 := ⟨RX8, TX8, 42, rfl, by decide, inX8, GG_at 671 (by decide +kernel) rfl⟩
theorem fp_X8_124 : FPT RX8 124 8 1 .int := ⟨RX8, TX8, 42, tyX8, rfl, by decide, inX8, GG_at 671 (by decide +kernel) rfl, tyX8_ok, nmX8, rfl, by decide +kernel⟩
theorem fl_X8_7 : FLD RX8 7 8 2 := ⟨RX8, TX8, 42, rfl, by decide, inX8, GG_at 672 (by decide +kernel) rfl⟩
theorem fl_X8_13 : FLD RX8 13 8 3 := ⟨RX8, TX8, 42, rfl, by decide, inX8, GG_at 673 (by decide +kernel) rfl⟩
theorem fl_X8_16 : FLD RX8 16 8 4 := ⟨RX8, TX8, 42, rfl, by decide, inX8, GG_at 674 (by decide +kernel) rfl⟩
theorem fl_X8_19 : FLD RX8 19 8 5 := ⟨RX8, TX8, 42, rfl, by decide, inX8, GG_at 675 (by decide +kernel) rfl⟩
theorem fl_X8_22 : FLD RX8 22 8 6 := ⟨RX8, TX8, 42, rfl, by decide, inX8, GG_at 676 (by decide +kernel) rfl⟩
theorem fl_X8_25 : FLD RX8 25 8 7 := ⟨RX8, TX8, 42, rfl, by decide, inX8, GG_at 677 (by decide +kernel) rfl⟩
theorem fl_X8_28 : FLD RX8 28 8 8 := ⟨RX8, TX8, 42, rfl, by decide, inX8, GG_at 678 (by decide +kernel) rfl⟩
theorem fl_X8_207 : FLD RX8 207 8 9 := ⟨RX8, TX8, 42, rfl, by decide, inX8, GG_at 679 (by decide +kernel) rfl⟩
theorem fp_X8_207 : FPT RX8 207 8 9 .int := ⟨RX8, TX8, 42, tyX8, rfl, by decide, inX8, GG_at 679 (by decide +kernel) rfl, tyX8_ok, nmX8, rfl, by decide +kernel⟩
theorem fl_X8_130 : FLD RX8 130 8 10 := ⟨RX8, TX8, 42, rfl, by decide, inX8, GG_at 680 (by decide +kernel) rfl⟩
theorem fp_X8_130 : FPT RX8 130 8 10 .int := ⟨RX8, TX8, 42, tyX8, rfl, by decide, inX8, GG_at 680 (by decide +kernel) rfl, tyX8_ok, nmX8, rfl, by decide +kernel⟩
theorem fl_X8_31 : FLD RX8 31 8 11 := ⟨RX8, TX8, 42, rfl, by decide, inX8, GG_at 681 (by decide +kernel) rfl⟩
theorem fl_X8_34 : FLD RX8 34 8 12 := ⟨RX8, TX8, 42, rfl, by decide, inX8, GG_at 682 (by decide +kernel) rfl⟩
theorem fl_X8_37 : FLD RX8 37 8 13 := ⟨RX8, TX8, 42, rfl, by decide, inX8, GG_at 683 (by decide +kernel) rfl⟩
theorem fl_X8_90 : FLD RX8 90 8 14 := ⟨RX8, TX8, 42, rfl, by decide, inX8, GG_at 684 (by decide +kernel) rfl⟩
theorem fp_X8_90 : FPT RX8 90 8 14 .int := ⟨RX8, TX8, 42, tyX8, rfl, by decide, inX8, GG_at 684 (by decide +kernel) rfl, tyX8_ok, nmX8, rfl, by decide +kernel⟩
theorem fl_X8_40 : FLD RX8 40 8 15 := ⟨RX8, TX8, 42, rfl, by decide, inX8, GG_at 685 (by decide +kernel) rfl⟩
theorem fl_X8_114 : FLD RX8 114 8 16 := ⟨RX8, TX8, 42, rfl, by decide, inX8, GG_at 686 (by decide +kernel) rfl⟩
theorem fp_X8_114 : FPT RX8 114 8 16 .boolean := ⟨RX8, TX8, 42, tyX8, rfl, by decide, inX8, GG_at 686 (by decide +kernel) rfl, tyX8_ok, nmX8, rfl, by decide +kernel⟩
theorem fl_X8_104 : FLD RX8 104 8 17 := ⟨RX8, TX8, 42, rfl, by decide, inX8, GG_at 687 (by decide +kernel) rfl⟩
theorem fp_X8_104 : FPT RX8 104 8 17 .boolean := ⟨RX8, TX8, 42, tyX8, rfl, by decide, inX8, GG_at 687 (by decide +kernel) rfl, tyX8_ok, nmX8, rfl, by decide +kernel⟩
theorem fl_X8_94 : FLD RX8 94 8 18 := ⟨RX8, TX8, 42, rfl, by decide, inX8, GG_at 688 (by decide +kernel) rfl⟩
theorem fp_X8_94 : FPT RX8 94 8 18 .int := ⟨RX8, TX8, 42, tyX8, rfl, by decide, inX8, GG_at 688 (by decide +kernel) rfl, tyX8_ok, nmX8, rfl, by decide +kernel⟩
theorem fl_X8_44 : FLD RX8 44 8 19 := ⟨RX8, TX8, 42, rfl, by decide, inX8, GG_at 689 (by decide +kernel) rfl⟩
theorem fl_X8_184 : FLD RX8 184 8 20 := ⟨RX8, TX8, 42, rfl, by decide, inX8, GG_at 690 (by decide +kernel) rfl⟩
theorem fp_X8_184 : FPT RX8 184 8 20 .int := ⟨RX8, TX8, 42, tyX8, rfl, by decide, inX8, GG_at 690 (by decide +kernel) rfl, tyX8_ok, nmX8, rfl, by decide +kernel⟩
theorem fl_X8_47 : FLD RX8 47 8 21 := ⟨RX8, TX8, 42, rfl, by decide, inX8, GG_at 691 (by decide +kernel) rfl⟩
theorem fl_X8_204 : FLD RX8 204 8 22 := ⟨RX8, TX8, 42, rfl, by decide, inX8, GG_at 692 (by decide +kernel) rfl⟩
theorem fp_X8_204 : FPT RX8 204 8 22 .int := ⟨RX8, TX8, 42, tyX8, rfl, by decide, inX8, GG_at 692 (by decide +kernel) rfl, tyX8_ok, nmX8, rfl, by decide +kernel⟩
theorem fl_X8_188 : FLD RX8 188 8 23 := ⟨RX8, TX8, 42, rfl, by decide, inX8, GG_at 693 (by decide +kernel) rfl⟩
theorem fp_X8_188 : FPT RX8 188 8 23 .int := ⟨RX8, TX8, 42, tyX8, rfl, by decide, inX8, GG_at 693 (by decide +kernel) rfl, tyX8_ok, nmX8, rfl, by decide +kernel⟩
theorem fl_X8_201 : FLD RX8 201 8 24 := ⟨RX8, TX8, 42, rfl, by decide, inX8, GG_at 694 (by decide +kernel) rfl⟩
theorem fp_X8_201 : FPT RX8 201 8 24 .int := ⟨RX8, TX8, 42, tyX8, rfl, by decide, inX8, GG_at 694 (by decide +kernel) rfl, tyX8_ok, nmX8, rfl, by decide +kernel⟩
theorem fl_X8_244 : FLD RX8 244 8 25 := ⟨RX8, TX8, 42, rfl, by decide, inX8, GG_at 695 (by decide +kernel) rfl⟩
theorem fp_X8_244 : FPT RX8 244 8 25 .long := ⟨RX8, TX8, 42, tyX8, rfl, by decide, inX8, GG_at 695 (by decide +kernel) rfl, tyX8_ok, nmX8, rfl, by decide +kernel⟩
theorem fl_X8_50 : FLD RX8 50 8 26 := ⟨RX8, TX8, 42, rfl, by decide, inX8, GG_at 696 (by decide +kernel) rfl⟩
theorem fl_X8_260 : FLD RX8 260 8 27 := ⟨RX8, TX8, 42, rfl, by decide, inX8, GG_at 697 (by decide +kernel) rfl⟩
theorem fp_X8_260 : FPT RX8 260 8 27 .boolean := ⟨RX8, TX8, 42, tyX8, rfl, by decide, inX8, GG_at 697 (by decide +kernel) rfl, tyX8_ok, nmX8, rfl, by decide +kernel⟩
theorem fl_X8_263 : FLD RX8 263 8 28 := ⟨RX8, TX8, 42, rfl, by decide, inX8, GG_at 698 (by decide +kernel) rfl⟩
theorem fp_X8_263 : FPT RX8 263 8 28 .int := ⟨RX8, TX8, 42, tyX8, rfl, by decide, inX8, GG_at 698 (by decide +kernel) rfl, tyX8_ok, nmX8, rfl, by decide +kernel⟩
theorem fl_X8_266 : FLD RX8 266 8 29 := ⟨RX8, TX8, 42, rfl, by decide, inX8, GG_at 699 (by decide +kernel) rfl⟩
theorem fp_X8_266 : FPT RX8 266 8 29 .int := ⟨RX8, TX8, 42, tyX8, rfl, by decide, inX8, GG_at 699 (by decide +kernel) rfl, tyX8_ok, nmX8, rfl, by decide +kernel⟩
theorem fl_X8_269 : FLD RX8 269 8 30 := ⟨RX8, TX8, 42, rfl, by decide, inX8, GG_at 700 (by decide +kernel) rfl⟩
theorem fp_X8_269 : FPT RX8 269 8 30 .int := ⟨RX8, TX8, 42, tyX8, rfl, by decide, inX8, GG_at 700 (by decide +kernel) rfl, tyX8_ok, nmX8, rfl, by decide +kernel⟩
theorem fl_X8_53 : FLD RX8 53 8 31 := ⟨RX8, TX8, 42, rfl, by decide, inX8, GG_at 701 (by decide +kernel) rfl⟩
theorem fl_X8_56 : FLD RX8 56 8 32 := ⟨RX8, TX8, 42, rfl, by decide, inX8, GG_at 702 (by decide +kernel) rfl⟩
theorem fl_X8_59 : FLD RX8 59 8 33 := ⟨RX8, TX8, 42, rfl, by decide, inX8, GG_at 703 (by decide +kernel) rfl⟩
theorem fl_X8_62 : FLD RX8 62 8 34 := ⟨RX8, TX8, 42, rfl, by decide, inX8, GG_at 704 (by decide +kernel) rfl⟩
theorem fl_X8_65 : FLD RX8 65 8 35 := ⟨RX8, TX8, 42, rfl, by decide, inX8, GG_at 705 (by decide +kernel) rfl⟩
theorem fl_X8_68 : FLD RX8 68 8 36 := ⟨RX8, TX8, 42, rfl, by decide, inX8, GG_at 706 (by decide +kernel) rfl⟩
theorem fl_X8_71 : FLD RX8 71 8 37 := ⟨RX8, TX8, 42, rfl, by decide, inX8, GG_at 707 (by decide +kernel) rfl⟩
theorem fl_X8_74 : FLD RX8 74 8 38 := ⟨RX8, TX8, 42, rfl, by decide, inX8, GG_at 708 (by decide +kernel) rfl⟩
theorem fl_X8_77 : FLD RX8 77 8 39 := ⟨RX8, TX8, 42, rfl, by decide, inX8, GG_at 709 (by decide +kernel) rfl⟩
theorem fl_X8_80 : FLD RX8 80 8 40 := ⟨RX8, TX8, 42, rfl, by decide, inX8, GG_at 710 (by decide +kernel) rfl⟩
theorem fl_X8_280 : FLD RX8 280 8 41 := ⟨RX8, TX8, 42, rfl, by decide, inX8, GG_at 711 (by decide +kernel) rfl⟩
theorem fp_X8_280 : FPT RX8 280 8 41 .long := ⟨RX8, TX8, 42, tyX8, rfl, by decide, inX8, GG_at 711 (by decide +kernel) rfl, tyX8_ok, nmX8, rfl, by decide +kernel⟩
theorem cw_L_17 : CWV RL 17 yX8_letter cX8_letter 2 (some .int) 1 := ⟨⟨GG_at 797 (by decide +kernel) rfl, GG_at 798 (by decide +kernel) rfl, GG_at 799 (by decide +kernel) rfl, GG_at 10 (by decide +kernel) rfl, GG_at 800 (by decide +kernel) rfl⟩, by decide +kernel, by decide +kernel, by decide +kernel⟩
theorem cw_X8_86 : CWS RX8 86 yX8_within cX8_within 3 (some .boolean) 3 := ⟨⟨GG_at 801 (by decide +kernel) rfl, GG_at 802 (by decide +kernel) rfl, GG_at 10 (by decide +kernel) rfl, GG_at 803 (by decide +kernel) rfl⟩, by decide +kernel, by decide +kernel, by decide +kernel⟩
theorem cw_L_22 : CWV RL 22 yX8_blank cX8_blank 2 (some .int) 0 := ⟨⟨GG_at 804 (by decide +kernel) rfl, GG_at 805 (by decide +kernel) rfl, GG_at 806 (by decide +kernel) rfl, GG_at 10 (by decide +kernel) rfl, GG_at 807 (by decide +kernel) rfl⟩, by decide +kernel, by decide +kernel, by decide +kernel⟩
theorem cw_L_26 : CWV RL 26 yX8_fault cX8_fault 1 (some .int) 0 := ⟨⟨GG_at 808 (by decide +kernel) rfl, GG_at 809 (by decide +kernel) rfl, GG_at 810 (by decide +kernel) rfl, GG_at 10 (by decide +kernel) rfl, GG_at 811 (by decide +kernel) rfl⟩, by decide +kernel, by decide +kernel, by decide +kernel⟩
theorem cw_X8_120 : CWV RX8 120 yX8_read cX8_read 2 (some .int) 0 := ⟨⟨GG_at 812 (by decide +kernel) rfl, GG_at 814 (by decide +kernel) rfl, GG_sel 18 (by decide +kernel) rfl, GG_at 10 (by decide +kernel) rfl, GG_at 815 (by decide +kernel) rfl⟩, by decide +kernel, by decide +kernel, by decide +kernel⟩
theorem cw_X8_117 : CWV RX8 117 yX8_readTitle cX8_readTitle 4 (some .int) 1 := ⟨⟨GG_at 816 (by decide +kernel) rfl, GG_at 818 (by decide +kernel) rfl, GG_sel 19 (by decide +kernel) rfl, GG_at 10 (by decide +kernel) rfl, GG_at 819 (by decide +kernel) rfl⟩, by decide +kernel, by decide +kernel, by decide +kernel⟩
theorem cw_X8_97 : CWV RX8 97 yX8_at cX8_at 2 (some .int) 1 := ⟨⟨GG_at 820 (by decide +kernel) rfl, GG_at 822 (by decide +kernel) rfl, GG_sel 20 (by decide +kernel) rfl, GG_at 10 (by decide +kernel) rfl, GG_at 823 (by decide +kernel) rfl⟩, by decide +kernel, by decide +kernel, by decide +kernel⟩
theorem cw_X8_101 : CWS RX8 101 yX8_kindBy cX8_kindBy 1 (some .int) 1 := ⟨⟨GG_at 824 (by decide +kernel) rfl, GG_at 825 (by decide +kernel) rfl, GG_at 10 (by decide +kernel) rfl, GG_at 826 (by decide +kernel) rfl⟩, by decide +kernel, by decide +kernel, by decide +kernel⟩
theorem cw_X8_108 : CWV RX8 108 yX8_least cX8_least 2 (some .int) 1 := ⟨⟨GG_at 827 (by decide +kernel) rfl, GG_at 829 (by decide +kernel) rfl, GG_sel 21 (by decide +kernel) rfl, GG_at 10 (by decide +kernel) rfl, GG_at 830 (by decide +kernel) rfl⟩, by decide +kernel, by decide +kernel, by decide +kernel⟩
theorem cw_X8_111 : CWS RX8 111 yX8_most cX8_most 1 (some .int) 1 := ⟨⟨GG_at 831 (by decide +kernel) rfl, GG_at 832 (by decide +kernel) rfl, GG_at 10 (by decide +kernel) rfl, GG_at 833 (by decide +kernel) rfl⟩, by decide +kernel, by decide +kernel, by decide +kernel⟩
theorem cw_L_30 : CWV RL 30 yX8_house cX8_house 2 (some .int) 0 := ⟨⟨GG_at 834 (by decide +kernel) rfl, GG_at 835 (by decide +kernel) rfl, GG_at 836 (by decide +kernel) rfl, GG_at 10 (by decide +kernel) rfl, GG_at 837 (by decide +kernel) rfl⟩, by decide +kernel, by decide +kernel, by decide +kernel⟩
theorem cw_L_34 : CWV RL 34 yX8_plan cX8_plan 3 (some .int) 0 := ⟨⟨GG_at 838 (by decide +kernel) rfl, GG_at 839 (by decide +kernel) rfl, GG_at 840 (by decide +kernel) rfl, GG_at 10 (by decide +kernel) rfl, GG_at 841 (by decide +kernel) rfl⟩, by decide +kernel, by decide +kernel, by decide +kernel⟩
theorem cw_X8_133 : CWV RX8 133 yX8_isTitle cX8_isTitle 2 (some .boolean) 1 := ⟨⟨GG_at 842 (by decide +kernel) rfl, GG_at 844 (by decide +kernel) rfl, GG_sel 22 (by decide +kernel) rfl, GG_at 10 (by decide +kernel) rfl, GG_at 845 (by decide +kernel) rfl⟩, by decide +kernel, by decide +kernel, by decide +kernel⟩
theorem cw_X8_137 : CWV RX8 137 yX8_nightsOn cX8_nightsOn 3 (some .int) 0 := ⟨⟨GG_at 846 (by decide +kernel) rfl, GG_at 848 (by decide +kernel) rfl, GG_sel 23 (by decide +kernel) rfl, GG_at 10 (by decide +kernel) rfl, GG_at 849 (by decide +kernel) rfl⟩, by decide +kernel, by decide +kernel, by decide +kernel⟩
theorem cw_L_39 : CWV RL 39 yX8_title cX8_title 3 (some .int) 2 := ⟨⟨GG_at 850 (by decide +kernel) rfl, GG_at 851 (by decide +kernel) rfl, GG_at 852 (by decide +kernel) rfl, GG_at 10 (by decide +kernel) rfl, GG_at 853 (by decide +kernel) rfl⟩, by decide +kernel, by decide +kernel, by decide +kernel⟩
theorem cw_X8_178 : CWV RX8 178 yX8_titleNow cX8_titleNow 3 (some .int) 2 := ⟨⟨GG_at 854 (by decide +kernel) rfl, GG_at 856 (by decide +kernel) rfl, GG_sel 24 (by decide +kernel) rfl, GG_at 10 (by decide +kernel) rfl, GG_at 857 (by decide +kernel) rfl⟩, by decide +kernel, by decide +kernel, by decide +kernel⟩
theorem cw_X8_153 : CWV RX8 153 yX8_nightsOf cX8_nightsOf 5 (some .int) 2 := ⟨⟨GG_at 858 (by decide +kernel) rfl, GG_at 860 (by decide +kernel) rfl, GG_sel 25 (by decide +kernel) rfl, GG_at 10 (by decide +kernel) rfl, GG_at 861 (by decide +kernel) rfl⟩, by decide +kernel, by decide +kernel, by decide +kernel⟩
theorem cw_X8_172 : CWV RX8 172 yX8_sortsOf cX8_sortsOf 6 (some .int) 1 := ⟨⟨GG_at 862 (by decide +kernel) rfl, GG_at 864 (by decide +kernel) rfl, GG_sel 26 (by decide +kernel) rfl, GG_at 10 (by decide +kernel) rfl, GG_at 865 (by decide +kernel) rfl⟩, by decide +kernel, by decide +kernel, by decide +kernel⟩
theorem cw_X8_233 : CWS RX8 233 yX8_could cX8_could 2 (some .boolean) 2 := ⟨⟨GG_at 866 (by decide +kernel) rfl, GG_at 867 (by decide +kernel) rfl, GG_at 10 (by decide +kernel) rfl, GG_at 868 (by decide +kernel) rfl⟩, by decide +kernel, by decide +kernel, by decide +kernel⟩
theorem cw_X8_175 : CWV RX8 175 yX8_askOf cX8_askOf 9 (some .int) 1 := ⟨⟨GG_at 869 (by decide +kernel) rfl, GG_at 871 (by decide +kernel) rfl, GG_sel 27 (by decide +kernel) rfl, GG_at 10 (by decide +kernel) rfl, GG_at 872 (by decide +kernel) rfl⟩, by decide +kernel, by decide +kernel, by decide +kernel⟩
theorem co_X8_187 : Cond.constant RX8 187 268435456 ∈ GG := GG_at 873 (by decide +kernel) rfl
theorem cw_X8_236 : CWS RX8 236 yX8_isIn cX8_isIn 2 (some .boolean) 2 := ⟨⟨GG_at 874 (by decide +kernel) rfl, GG_at 875 (by decide +kernel) rfl, GG_at 10 (by decide +kernel) rfl, GG_at 876 (by decide +kernel) rfl⟩, by decide +kernel, by decide +kernel, by decide +kernel⟩
theorem cw_X8_239 : CWS RX8 239 yX8_size cX8_size 3 (some .int) 1 := ⟨⟨GG_at 877 (by decide +kernel) rfl, GG_at 878 (by decide +kernel) rfl, GG_at 10 (by decide +kernel) rfl, GG_at 879 (by decide +kernel) rfl⟩, by decide +kernel, by decide +kernel, by decide +kernel⟩
theorem cw_L_43 : CWV RL 43 yX8_as cX8_as 4 (some .int) 2 := ⟨⟨GG_at 880 (by decide +kernel) rfl, GG_at 881 (by decide +kernel) rfl, GG_at 882 (by decide +kernel) rfl, GG_at 10 (by decide +kernel) rfl, GG_at 883 (by decide +kernel) rfl⟩, by decide +kernel, by decide +kernel, by decide +kernel⟩
theorem cw_L_47 : CWV RL 47 yX8_night cX8_night 3 (some .int) 2 := ⟨⟨GG_at 884 (by decide +kernel) rfl, GG_at 885 (by decide +kernel) rfl, GG_at 886 (by decide +kernel) rfl, GG_at 10 (by decide +kernel) rfl, GG_at 887 (by decide +kernel) rfl⟩, by decide +kernel, by decide +kernel, by decide +kernel⟩
theorem cw_X8_140 : CWS RX8 140 yX8_isNight cX8_isNight 1 (some .boolean) 1 := ⟨⟨GG_at 888 (by decide +kernel) rfl, GG_at 889 (by decide +kernel) rfl, GG_at 10 (by decide +kernel) rfl, GG_at 890 (by decide +kernel) rfl⟩, by decide +kernel, by decide +kernel, by decide +kernel⟩
theorem cw_X8_181 : CWV RX8 181 yX8_nightNow cX8_nightNow 3 (some .int) 2 := ⟨⟨GG_at 891 (by decide +kernel) rfl, GG_at 893 (by decide +kernel) rfl, GG_sel 28 (by decide +kernel) rfl, GG_at 10 (by decide +kernel) rfl, GG_at 894 (by decide +kernel) rfl⟩, by decide +kernel, by decide +kernel, by decide +kernel⟩
theorem cw_X8_163 : CWV RX8 163 yX8_breaksAt cX8_breaksAt 3 (some .int) 1 := ⟨⟨GG_at 895 (by decide +kernel) rfl, GG_at 897 (by decide +kernel) rfl, GG_sel 29 (by decide +kernel) rfl, GG_at 10 (by decide +kernel) rfl, GG_at 898 (by decide +kernel) rfl⟩, by decide +kernel, by decide +kernel, by decide +kernel⟩
theorem cw_X8_143 : CWV RX8 143 yX8_on cX8_on 2 (some .int) 1 := ⟨⟨GG_at 899 (by decide +kernel) rfl, GG_at 901 (by decide +kernel) rfl, GG_sel 30 (by decide +kernel) rfl, GG_at 10 (by decide +kernel) rfl, GG_at 902 (by decide +kernel) rfl⟩, by decide +kernel, by decide +kernel, by decide +kernel⟩
theorem cw_X8_146 : CWV RX8 146 yX8_hasCast cX8_hasCast 3 (some .boolean) 2 := ⟨⟨GG_at 903 (by decide +kernel) rfl, GG_at 905 (by decide +kernel) rfl, GG_sel 31 (by decide +kernel) rfl, GG_at 10 (by decide +kernel) rfl, GG_at 906 (by decide +kernel) rfl⟩, by decide +kernel, by decide +kernel, by decide +kernel⟩
theorem cw_X8_150 : CWV RX8 150 yX8_isGala cX8_isGala 2 (some .boolean) 1 := ⟨⟨GG_at 907 (by decide +kernel) rfl, GG_at 909 (by decide +kernel) rfl, GG_sel 32 (by decide +kernel) rfl, GG_at 10 (by decide +kernel) rfl, GG_at 910 (by decide +kernel) rfl⟩, by decide +kernel, by decide +kernel, by decide +kernel⟩
theorem cw_X8_157 : CWV RX8 157 yX8_isCastBehind cX8_isCastBehind 5 (some .boolean) 2 := ⟨⟨GG_at 911 (by decide +kernel) rfl, GG_at 913 (by decide +kernel) rfl, GG_sel 33 (by decide +kernel) rfl, GG_at 10 (by decide +kernel) rfl, GG_at 914 (by decide +kernel) rfl⟩, by decide +kernel, by decide +kernel, by decide +kernel⟩
theorem cw_X8_169 : CWV RX8 169 yX8_seatsAt cX8_seatsAt 6 (some .int) 1 := ⟨⟨GG_at 915 (by decide +kernel) rfl, GG_at 917 (by decide +kernel) rfl, GG_sel 34 (by decide +kernel) rfl, GG_at 10 (by decide +kernel) rfl, GG_at 918 (by decide +kernel) rfl⟩, by decide +kernel, by decide +kernel, by decide +kernel⟩
theorem cw_X8_160 : CWV RX8 160 yX8_draws cX8_draws 3 (some .boolean) 2 := ⟨⟨GG_at 919 (by decide +kernel) rfl, GG_at 921 (by decide +kernel) rfl, GG_sel 35 (by decide +kernel) rfl, GG_at 10 (by decide +kernel) rfl, GG_at 922 (by decide +kernel) rfl⟩, by decide +kernel, by decide +kernel, by decide +kernel⟩
theorem cw_L_51 : CWV RL 51 yX8_play cX8_play 3 (some .int) 2 := ⟨⟨GG_at 923 (by decide +kernel) rfl, GG_at 924 (by decide +kernel) rfl, GG_at 925 (by decide +kernel) rfl, GG_at 10 (by decide +kernel) rfl, GG_at 926 (by decide +kernel) rfl⟩, by decide +kernel, by decide +kernel, by decide +kernel⟩
theorem cw_X8_166 : CWV RX8 166 yX8_breaks cX8_breaks 3 (some .int) 0 := ⟨⟨GG_at 927 (by decide +kernel) rfl, GG_at 929 (by decide +kernel) rfl, GG_sel 36 (by decide +kernel) rfl, GG_at 10 (by decide +kernel) rfl, GG_at 930 (by decide +kernel) rfl⟩, by decide +kernel, by decide +kernel, by decide +kernel⟩
theorem cw_L_55 : CWV RL 55 yX8_delay cX8_delay 3 (some .int) 1 := ⟨⟨GG_at 931 (by decide +kernel) rfl, GG_at 932 (by decide +kernel) rfl, GG_at 933 (by decide +kernel) rfl, GG_at 10 (by decide +kernel) rfl, GG_at 934 (by decide +kernel) rfl⟩, by decide +kernel, by decide +kernel, by decide +kernel⟩
theorem cw_L_60 : CWV RL 60 yX8_add cX8_add 4 (some .int) 3 := ⟨⟨GG_at 935 (by decide +kernel) rfl, GG_at 936 (by decide +kernel) rfl, GG_at 937 (by decide +kernel) rfl, GG_at 10 (by decide +kernel) rfl, GG_at 938 (by decide +kernel) rfl⟩, by decide +kernel, by decide +kernel, by decide +kernel⟩
theorem cw_L_64 : CWV RL 64 yX8_rights cX8_rights 4 (some .int) 3 := ⟨⟨GG_at 939 (by decide +kernel) rfl, GG_at 940 (by decide +kernel) rfl, GG_at 941 (by decide +kernel) rfl, GG_at 10 (by decide +kernel) rfl, GG_at 942 (by decide +kernel) rfl⟩, by decide +kernel, by decide +kernel, by decide +kernel⟩
theorem cw_L_68 : CWV RL 68 yX8_be cX8_be 4 (some .int) 2 := ⟨⟨GG_at 943 (by decide +kernel) rfl, GG_at 944 (by decide +kernel) rfl, GG_at 945 (by decide +kernel) rfl, GG_at 10 (by decide +kernel) rfl, GG_at 946 (by decide +kernel) rfl⟩, by decide +kernel, by decide +kernel, by decide +kernel⟩
theorem cw_L_72 : CWV RL 72 yX8_best cX8_best 4 (some .int) 3 := ⟨⟨GG_at 947 (by decide +kernel) rfl, GG_at 948 (by decide +kernel) rfl, GG_at 949 (by decide +kernel) rfl, GG_at 10 (by decide +kernel) rfl, GG_at 950 (by decide +kernel) rfl⟩, by decide +kernel, by decide +kernel, by decide +kernel⟩
theorem cw_X8_217 : CWV RX8 217 yX8_darkOnes cX8_darkOnes 5 (some .int) 2 := ⟨⟨GG_at 951 (by decide +kernel) rfl, GG_at 953 (by decide +kernel) rfl, GG_sel 37 (by decide +kernel) rfl, GG_at 10 (by decide +kernel) rfl, GG_at 954 (by decide +kernel) rfl⟩, by decide +kernel, by decide +kernel, by decide +kernel⟩
theorem cw_X8_220 : CWV RX8 220 yX8_bestNow cX8_bestNow 4 (some .int) 3 := ⟨⟨GG_at 955 (by decide +kernel) rfl, GG_at 957 (by decide +kernel) rfl, GG_sel 38 (by decide +kernel) rfl, GG_at 10 (by decide +kernel) rfl, GG_at 958 (by decide +kernel) rfl⟩, by decide +kernel, by decide +kernel, by decide +kernel⟩
theorem cw_X8_210 : CWV RX8 210 yX8_layDarks cX8_layDarks 4 none 2 := ⟨⟨GG_at 959 (by decide +kernel) rfl, GG_at 961 (by decide +kernel) rfl, GG_sel 39 (by decide +kernel) rfl, GG_at 10 (by decide +kernel) rfl, GG_at 962 (by decide +kernel) rfl⟩, by decide +kernel, by decide +kernel, by decide +kernel⟩
theorem cw_X8_214 : CWV RX8 214 yX8_findBest cX8_findBest 5 none 0 := ⟨⟨GG_at 963 (by decide +kernel) rfl, GG_at 965 (by decide +kernel) rfl, GG_sel 40 (by decide +kernel) rfl, GG_at 10 (by decide +kernel) rfl, GG_at 966 (by decide +kernel) rfl⟩, by decide +kernel, by decide +kernel, by decide +kernel⟩
theorem cw_X8_191 : CWV RX8 191 yX8_fillBy cX8_fillBy 4 none 1 := ⟨⟨GG_at 967 (by decide +kernel) rfl, GG_at 969 (by decide +kernel) rfl, GG_sel 41 (by decide +kernel) rfl, GG_at 10 (by decide +kernel) rfl, GG_at 970 (by decide +kernel) rfl⟩, by decide +kernel, by decide +kernel, by decide +kernel⟩
theorem cw_X8_195 : CWV RX8 195 yX8_lost cX8_lost 1 (some .int) 0 := ⟨⟨GG_at 971 (by decide +kernel) rfl, GG_at 973 (by decide +kernel) rfl, GG_sel 42 (by decide +kernel) rfl, GG_at 10 (by decide +kernel) rfl, GG_at 974 (by decide +kernel) rfl⟩, by decide +kernel, by decide +kernel, by decide +kernel⟩
theorem cw_X8_198 : CWV RX8 198 yX8_earned cX8_earned 3 (some .int) 0 := ⟨⟨GG_at 975 (by decide +kernel) rfl, GG_at 977 (by decide +kernel) rfl, GG_sel 43 (by decide +kernel) rfl, GG_at 10 (by decide +kernel) rfl, GG_at 978 (by decide +kernel) rfl⟩, by decide +kernel, by decide +kernel, by decide +kernel⟩
theorem cw_L_76 : CWV RL 76 yX8_rank cX8_rank 2 (some .int) 1 := ⟨⟨GG_at 979 (by decide +kernel) rfl, GG_at 980 (by decide +kernel) rfl, GG_at 981 (by decide +kernel) rfl, GG_at 10 (by decide +kernel) rfl, GG_at 982 (by decide +kernel) rfl⟩, by decide +kernel, by decide +kernel, by decide +kernel⟩
theorem cw_X8_230 : CWV RX8 230 yX8_rankNow cX8_rankNow 5 (some .int) 1 := ⟨⟨GG_at 983 (by decide +kernel) rfl, GG_at 985 (by decide +kernel) rfl, GG_sel 44 (by decide +kernel) rfl, GG_at 10 (by decide +kernel) rfl, GG_at 986 (by decide +kernel) rfl⟩, by decide +kernel, by decide +kernel, by decide +kernel⟩
theorem cw_X8_227 : CWV RX8 227 yX8_isAhead cX8_isAhead 5 (some .boolean) 2 := ⟨⟨GG_at 987 (by decide +kernel) rfl, GG_at 989 (by decide +kernel) rfl, GG_sel 45 (by decide +kernel) rfl, GG_at 10 (by decide +kernel) rfl, GG_at 990 (by decide +kernel) rfl⟩, by decide +kernel, by decide +kernel, by decide +kernel⟩
theorem cw_X8_224 : CWV RX8 224 yX8_seatsOf cX8_seatsOf 4 (some .int) 1 := ⟨⟨GG_at 991 (by decide +kernel) rfl, GG_at 993 (by decide +kernel) rfl, GG_sel 46 (by decide +kernel) rfl, GG_at 10 (by decide +kernel) rfl, GG_at 994 (by decide +kernel) rfl⟩, by decide +kernel, by decide +kernel, by decide +kernel⟩
theorem cw_L_81 : CWV RL 81 yX8_see cX8_see 4 (some .int) 3 := ⟨⟨GG_at 995 (by decide +kernel) rfl, GG_at 996 (by decide +kernel) rfl, GG_at 997 (by decide +kernel) rfl, GG_at 10 (by decide +kernel) rfl, GG_at 998 (by decide +kernel) rfl⟩, by decide +kernel, by decide +kernel, by decide +kernel⟩
theorem cw_L_85 : CWV RL 85 yX8_forget cX8_forget 2 (some .int) 0 := ⟨⟨GG_at 999 (by decide +kernel) rfl, GG_at 1000 (by decide +kernel) rfl, GG_at 1001 (by decide +kernel) rfl, GG_at 10 (by decide +kernel) rfl, GG_at 1002 (by decide +kernel) rfl⟩, by decide +kernel, by decide +kernel, by decide +kernel⟩
theorem cw_L_89 : CWV RL 89 yX8_drawn cX8_drawn 4 (some .int) 3 := ⟨⟨GG_at 1003 (by decide +kernel) rfl, GG_at 1004 (by decide +kernel) rfl, GG_at 1005 (by decide +kernel) rfl, GG_at 10 (by decide +kernel) rfl, GG_at 1006 (by decide +kernel) rfl⟩, by decide +kernel, by decide +kernel, by decide +kernel⟩
theorem cw_X8_257 : CWV RX8 257 yX8_drawnNow cX8_drawnNow 8 (some .int) 3 := ⟨⟨GG_at 1007 (by decide +kernel) rfl, GG_at 1009 (by decide +kernel) rfl, GG_sel 47 (by decide +kernel) rfl, GG_at 10 (by decide +kernel) rfl, GG_at 1010 (by decide +kernel) rfl⟩, by decide +kernel, by decide +kernel, by decide +kernel⟩
theorem cw_X8_254 : CWV RX8 254 yX8_draw cX8_draw 2 (some .int) 1 := ⟨⟨GG_at 1011 (by decide +kernel) rfl, GG_at 1013 (by decide +kernel) rfl, GG_sel 48 (by decide +kernel) rfl, GG_at 10 (by decide +kernel) rfl, GG_at 1014 (by decide +kernel) rfl⟩, by decide +kernel, by decide +kernel, by decide +kernel⟩
theorem co_X8_242 : Cond.constantLong RX8 242 1103515245 ∈ GG := GG_at 1015 (by decide +kernel) rfl
theorem co_X8_248 : Cond.constantLong RX8 248 12345 ∈ GG := GG_at 1016 (by decide +kernel) rfl
theorem co_X8_250 : Cond.constantLong RX8 250 2147483647 ∈ GG := GG_at 1017 (by decide +kernel) rfl
theorem co_X8_252 : Cond.constantLong RX8 252 65536 ∈ GG := GG_at 1018 (by decide +kernel) rfl
theorem cw_L_93 : CWV RL 93 yX8_image cX8_image 2 (some .int) 0 := ⟨⟨GG_at 1019 (by decide +kernel) rfl, GG_at 1020 (by decide +kernel) rfl, GG_at 1021 (by decide +kernel) rfl, GG_at 10 (by decide +kernel) rfl, GG_at 1022 (by decide +kernel) rfl⟩, by decide +kernel, by decide +kernel, by decide +kernel⟩
theorem cw_L_97 : CWV RL 97 yX8_restore cX8_restore 2 (some .int) 0 := ⟨⟨GG_at 1023 (by decide +kernel) rfl, GG_at 1024 (by decide +kernel) rfl, GG_at 1025 (by decide +kernel) rfl, GG_at 10 (by decide +kernel) rfl, GG_at 1026 (by decide +kernel) rfl⟩, by decide +kernel, by decide +kernel, by decide +kernel⟩
theorem cw_L_101 : CWV RL 101 yX8_count cX8_count 2 (some .int) 1 := ⟨⟨GG_at 1027 (by decide +kernel) rfl, GG_at 1028 (by decide +kernel) rfl, GG_at 1029 (by decide +kernel) rfl, GG_at 10 (by decide +kernel) rfl, GG_at 1030 (by decide +kernel) rfl⟩, by decide +kernel, by decide +kernel, by decide +kernel⟩
theorem cw_X8_275 : CWV RX8 275 yX8_howMany cX8_howMany 2 (some .int) 1 := ⟨⟨GG_at 1031 (by decide +kernel) rfl, GG_at 1033 (by decide +kernel) rfl, GG_sel 49 (by decide +kernel) rfl, GG_at 10 (by decide +kernel) rfl, GG_at 1034 (by decide +kernel) rfl⟩, by decide +kernel, by decide +kernel, by decide +kernel⟩
theorem cw_X8_272 : CWV RX8 272 yX8_unlike cX8_unlike 3 (some .int) 0 := ⟨⟨GG_at 1035 (by decide +kernel) rfl, GG_at 1037 (by decide +kernel) rfl, GG_sel 50 (by decide +kernel) rfl, GG_at 10 (by decide +kernel) rfl, GG_at 1038 (by decide +kernel) rfl⟩, by decide +kernel, by decide +kernel, by decide +kernel⟩
theorem cw_L_106 : CWV RL 106 yX8_digest cX8_digest 3 (some .long) 0 := ⟨⟨GG_at 1039 (by decide +kernel) rfl, GG_at 1040 (by decide +kernel) rfl, GG_at 1041 (by decide +kernel) rfl, GG_at 10 (by decide +kernel) rfl, GG_at 1042 (by decide +kernel) rfl⟩, by decide +kernel, by decide +kernel, by decide +kernel⟩
theorem co_X8_283 : Cond.constantLong RX8 283 1459 ∈ GG := GG_at 1043 (by decide +kernel) rfl
theorem cw_X8_285 : CWV RX8 285 yX8_mix cX8_mix 3 none 1 := ⟨⟨GG_at 1044 (by decide +kernel) rfl, GG_at 1046 (by decide +kernel) rfl, GG_sel 51 (by decide +kernel) rfl, GG_at 10 (by decide +kernel) rfl, GG_at 1047 (by decide +kernel) rfl⟩, by decide +kernel, by decide +kernel, by decide +kernel⟩
theorem co_X8_278 : Cond.constantLong RX8 278 31 ∈ GG := GG_at 1048 (by decide +kernel) rfl
end
section
theorem retI {v w : Int32} (h : v = w) : Outcome.returned (some (.int v)) = .returned (some (.int w)) := by rw [h]
theorem retL {v w : Int64} (h : v = w) : Outcome.returned (some (.long v)) = .returned (some (.long w)) := by rw [h]
theorem retA {v w : Nat} (h : v = w) : Outcome.returned (some (.ref v)) = .returned (some (.ref w)) := by rw [h]
theorem narrow_bi {c : Prop} [Decidable c] : narrow .boolean (.int (bi c)) = .int (bi c) := by by_cases h : c <;> simp [bi, h] <;> rfl
theorem fits_bi {c : Prop} [Decidable c] : fits .boolean (.int (bi c)) = true := by by_cases h : c <;> simp [bi, h] <;> rfl
theorem bi_t {c : Prop} [Decidable c] (h : c) : (1 : Int32) = bi c := by simp [bi, h]
theorem bi_f {c : Prop} [Decidable c] (h : ¬ c) : (0 : Int32) = bi c := by simp [bi, h]
theorem bi_c {c d : Prop} [Decidable c] [Decidable d] (h : c ↔ d) : bi c = bi d := by by_cases hc : c <;> simp [bi, ← h, hc]
theorem wc0 {D : va_G} {H : Heap} : va_P D vwCl [] H := fun k q h => by simp at h
section ENTRY
variable {l : Launch} {D : va_G} {kB kI kT : ClassId} {ks sk sv : Nat}
theorem MR.go {y : MethodName} {c : ByteArray} {n : Nat} {ret : Option FieldType} {fr lo : Nat} {as : List Value} {ws : va_W} {w : Option Value} (hy : plainName y.cls = true) (hn : (lg_sl as).length ≤ n)
    (body : ∀ (p : Program) (e : Env) (s : State) (m : MethodId) (below : List Frame) (meth : Method) (c0 : Code) (args : Array Value) (Q : State → Prop) (ls : Array Slot), Q = MQ below (QR w) args s 0 0 NA → p.tables.exec = Jvm.exec → c0.code = c → meth.sig.returnType = ret → c0.maxLocals = n → s.vm.findClass y.cls = some m.cls → (∀ w ∈ GG, w.before args s = true) → meth.locks = false → EN D kB kI kT ks sk sv NA s → va_P D vwCl ws s.heap → va_S NA s.heap s.heap [] → lv_has ls n (lv_args 0 as) →
      W p l e (rmO fr lo) s m args below meth c0 s.heap [] 0 0 Q (F0 m 0 ls [])) : MR l y c n ret fr lo D kB kI kT ks sk sv as ws w :=
  MR.of hy hn (fun p e s m below meth c0 ls hx hb hr hml hown hts hlocks hE hP hS hl => body p e s m below meth c0 _ _ ls rfl hx hb hr hml hown hts hlocks hE hP hS hl)
theorem MW.go {y : MethodName} {c : ByteArray} {n : Nat} {ret : Option FieldType} {fr lo : Nat} {as : List Value} {ws w1 : va_W} {w : Option Value} (hy : plainName y.cls = true) (hn : (lg_sl as).length ≤ n)
    (body : ∀ (p : Program) (e : Env) (s : State) (m : MethodId) (below : List Frame) (meth : Method) (c0 : Code) (args : Array Value) (Q : State → Prop) (ls : Array Slot) (A : Nat → Prop), Q = MQ below (QW D w w1 A) args s 0 0 A → p.tables.exec = Jvm.exec → c0.code = c → meth.sig.returnType = ret → c0.maxLocals = n → s.vm.findClass y.cls = some m.cls → (∀ w ∈ GG, w.before args s = true) → meth.locks = false → EN D kB kI kT ks sk sv A s → va_P D vwCl ws s.heap → va_D A ws → va_S A s.heap s.heap [] → lv_has ls n (lv_args 0 as) →
      W p l e (rmO fr lo) s m args below meth c0 s.heap [] 0 0 Q (F0 m 0 ls [])) : MW l y c n ret fr lo D kB kI kT ks sk sv as ws w w1 :=
  MW.of hy hn (fun p e s m below meth c0 ls A hx hb hr hml hown hts hlocks hE hP hD hS hl => body p e s m below meth c0 _ _ ls A rfl hx hb hr hml hown hts hlocks hE hP hD hS hl)
variable {p : Program} {e : Env} {R : Room} {s : State} {m : MethodId} {args : Array Value} {below : List Frame} {meth : Method} {c : Code} {H : Heap} {locs : List Loc} {cells slots : Nat} {Q : State → Prop}
variable {cc : ByteArray} {rest : List Value} {pc : Nat} {ls : Array Slot} {ws : va_W} {A : Nat → Prop}
theorem vEq {x v : Int32} (h : x = v) (k : W p l e R s m args below meth c H locs cells slots Q (F0 m pc ls (.int v :: rest))) : W p l e R s m args below meth c H locs cells slots Q (F0 m pc ls (.int x :: rest)) := by
  subst h; exact k
theorem iaddV {x y v : Int32} (hx : p.tables.exec = Jvm.exec) (hb : c.code = cc) (hdg : decode cc pc = .ok (.iadd, 1)) (h : x + y = v) (k : W p l e R s m args below meth c H locs cells slots Q (F0 m (pc + 1) ls (.int v :: rest))) : W p l e R s m args below meth c H locs cells slots Q (F0 m pc ls (.int y :: .int x :: rest)) := by
  subst h; exact lv_iadd hx hb hdg k
theorem isubV {x y v : Int32} (hx : p.tables.exec = Jvm.exec) (hb : c.code = cc) (hdg : decode cc pc = .ok (.isub, 1)) (h : x - y = v) (k : W p l e R s m args below meth c H locs cells slots Q (F0 m (pc + 1) ls (.int v :: rest))) : W p l e R s m args below meth c H locs cells slots Q (F0 m pc ls (.int y :: .int x :: rest)) := by
  subst h; exact lv_isub hx hb hdg k
theorem imulV {x y v : Int32} (hx : p.tables.exec = Jvm.exec) (hb : c.code = cc) (hdg : decode cc pc = .ok (.imul, 1)) (h : x * y = v) (k : W p l e R s m args below meth c H locs cells slots Q (F0 m (pc + 1) ls (.int v :: rest))) : W p l e R s m args below meth c H locs cells slots Q (F0 m pc ls (.int y :: .int x :: rest)) := by
  subst h; exact lv_imul hx hb hdg k
theorem iremV {x y v : Int32} (hx : p.tables.exec = Jvm.exec) (hb : c.code = cc) (hdg : decode cc pc = .ok (.irem, 1)) (hne : ¬ y = 0) (h : x - x / y * y = v) (k : W p l e R s m args below meth c H locs cells slots Q (F0 m (pc + 1) ls (.int v :: rest))) : W p l e R s m args below meth c H locs cells slots Q (F0 m pc ls (.int y :: .int x :: rest)) := by
  subst h; exact lv_irem hx hb hdg hne k
theorem idivV {x y v : Int32} (hx : p.tables.exec = Jvm.exec) (hb : c.code = cc) (hdg : decode cc pc = .ok (.idiv, 1)) (hne : ¬ y = 0) (h : x / y = v) (k : W p l e R s m args below meth c H locs cells slots Q (F0 m (pc + 1) ls (.int v :: rest))) : W p l e R s m args below meth c H locs cells slots Q (F0 m pc ls (.int y :: .int x :: rest)) := by
  subst h; exact lv_idiv hx hb hdg hne k
theorem aldBX (hx : p.tables.exec = Jvm.exec) (hb : c.code = cc) (hE : EN D kB kI kT ks sk sv A s) (hP : va_P D vwCl ws H) {a N : Nat} {f : Nat → Int32} (q0 : Nat) (he : ws[q0]? = some (a, .inl (kB, N, .inl f))) {x : Int32} (hj : vp_in x N) (hdg : decode cc pc = .ok (.baload, 1))
    (kk : W p l e R s m args below meth c H locs cells slots Q (F0 m (pc + 1) ls (.int (f x.toNatClampNeg) :: rest))) : W p l e R s m args below meth c H locs cells slots Q (F0 m pc ls (.int x :: .ref a :: rest)) :=
  va_bald hx hb hE.1 hP q0 1 he rfl hj hdg kk
theorem astB (hx : p.tables.exec = Jvm.exec) (hb : c.code = cc) (hE : EN D kB kI kT ks sk sv A s) (hP : va_P D vwCl ws H) (hD : va_D A ws) (hS : va_S A s.heap H locs) {a N : Nat} {f : Nat → Int32} {x : Int32} (q0 : Nat) (he : ws[q0]? = some (a, .inl (kB, N, .inl f))) (j : Nat) (hj : j < N) (hN : N < 2147483648) (hxn : vp_nar .byte x = x) (hdg : decode cc pc = .ok (.bastore, 1))
    (kk : ∀ (H1 : Heap) (locs1 : List Loc), va_P D vwCl (ws.set q0 (a, .inl (kB, N, .inl (upd f j x)))) H1 → va_D A (ws.set q0 (a, .inl (kB, N, .inl (upd f j x)))) → va_S A s.heap H1 locs1 → W p l e R s m args below meth c H1 locs1 cells slots Q (F0 m (pc + 1) ls rest)) : W p l e R s m args below meth c H locs cells slots Q (F0 m pc ls (.int x :: .int (nI j) :: .ref a :: rest)) := by
  refine va_bast hx hb hE.1 hP hD hS q0 1 he rfl (vp_in_nI hj hN) hdg ?_
  rw [nI_clamp (Nat.lt_trans hj hN), hxn]
  exact kk
end ENTRY
/-! counting and adding -/
def cntP (p : Nat → Prop) [DecidablePred p] : Nat → Nat
  | 0 => 0
  | k + 1 => cntP p k + (if p k then 1 else 0)
theorem cntP_le (p : Nat → Prop) [DecidablePred p] : ∀ k, cntP p k ≤ k
  | 0 => Nat.le_refl 0
  | k + 1 => by
    have h := cntP_le p k
    have : (if p k then 1 else 0) ≤ 1 := by split <;> omega
    show cntP p k + (if p k then 1 else 0) ≤ k + 1
    omega
theorem cntP_t {p : Nat → Prop} [DecidablePred p] {k : Nat} (h : p k) : cntP p (k + 1) = cntP p k + 1 := by simp [cntP, h]
theorem cntP_f {p : Nat → Prop} [DecidablePred p] {k : Nat} (h : ¬ p k) : cntP p (k + 1) = cntP p k := by simp [cntP, h]
def sumI (f : Nat → Int32) : Nat → Int32
  | 0 => 0
  | k + 1 => sumI f k + f k
def anyB (p : Nat → Bool) : Nat → Bool
  | 0 => false
  | k + 1 => anyB p k || p k
/-! the reference's words -/
abbrev inR (v lo hi : Int32) : Prop := lo ≤ v ∧ v ≤ hi
abbrev ix (x : Int32) : Nat := x.toNatClampNeg
theorem ix_nI {j : Nat} (h : j < 2147483648) : ix (nI j) = j := nI_clamp h
def rOn (pl : Nat → Int32) (n : Int32) : Int32 := if inR n 0 11 then pl (ix n) else -1
abbrev hasC (ca pl : Nat → Int32) (n cast : Int32) : Prop := ¬ rOn pl n = -1 ∧ ca (ix (rOn pl n)) = cast
abbrev isG (x : Int32) : Prop := x = 1 ∨ x = 2
def nOf (pl : Nat → Int32) (t : Int32) (b : Nat) : Nat := cntP (fun n => pl n = t) b
def nOn (pl : Nat → Int32) (b : Nat) : Nat := cntP (fun n => ¬ pl n = -1) b
def cBeh (ca pl : Nat → Int32) (i : Nat) (cast : Int32) (k : Nat) : Bool := anyB (fun j => decide (hasC ca pl (nI (i + 1 + j)) cast)) k
abbrev draws (kd pl : Nat → Int32) (n t : Int32) : Prop := ¬ rOn pl n = -1 ∧ ¬ rOn pl n = t ∧ kd (ix (rOn pl n)) = 4
def fade (x : Int32) : Nat → Int32
  | 0 => x
  | k + 1 => fade x k * 70 / 100
def brk (kd se ca fi la pl : Nat → Int32) (i : Nat) : Int32 :=
  if pl i = -1 then 0 else
  if ¬ inR (nI i) (fi (ix (pl i))) (la (ix (pl i))) then 1 else
  if ¬ rOn pl (nI i - 1) = -1 ∧ ¬ se (ix (rOn pl (nI i - 1))) = se (ix (pl i)) then 2 else
  if hasC ca pl (nI i - 1) (ca (ix (pl i))) ∧ hasC ca pl (nI i - 2) (ca (ix (pl i))) then 3 else
  if isG (kd (ix (pl i))) ∧ 0 < nOf pl (pl i) i then 4 else
  if kd (ix (pl i)) = 2 ∧ cBeh ca pl i (ca (ix (pl i))) (11 - i) = true then 5 else
  if kd (ix (pl i)) = 3 ∧ ¬ rOn pl (nI i - 1) = pl i ∧ ¬ rOn pl (nI (i + 1)) = pl i then 6 else 0
def sts (kd fl pl : Nat → Int32) (i : Nat) : Int32 :=
  if pl i = -1 then 0 else
  if draws kd pl (nI i - 1) (pl i) ∨ draws kd pl (nI (i + 1)) (pl i) then (if isG (kd (ix (pl i))) then 3 * fade (100 * fl (ix (pl i))) (min (nOf pl (pl i) i) 3) / 2 else fade (100 * fl (ix (pl i))) (min (nOf pl (pl i) i) 3)) + 50
  else (if isG (kd (ix (pl i))) then 3 * fade (100 * fl (ix (pl i))) (min (nOf pl (pl i) i) 3) / 2 else fade (100 * fl (ix (pl i))) (min (nOf pl (pl i) i) 3))
/-- a plan's nights hold -1, or one of n titles -/
def okP (n : Nat) (pl : Nat → Int32) : Prop := ∀ i, i < 12 → pl i = -1 ∨ ∃ t, t < n ∧ pl i = nI t
theorem okP_in {n : Nat} {pl : Nat → Int32} (h : okP n pl) (hn : n ≤ 5) {i : Nat} (hi : i < 12) (hne : ¬ pl i = -1) : vp_in (pl i) 5 := by
  rcases h i hi with q | ⟨t, ht, q⟩
  · exact absurd q hne
  · rw [q]; exact vp_in_nI (by omega) (by omega)
theorem rOn_in {n : Nat} {pl : Nat → Int32} (h : okP n pl) (hn : n ≤ 5) {x : Int32} (hne : ¬ rOn pl x = -1) : vp_in (rOn pl x) 5 := by
  unfold rOn at hne ⊢
  split at hne
  · rename_i q
    rw [if_pos q]
    obtain ⟨j, hj, rfl⟩ := nI_of2 (M := 11) (n := 11) rfl (Int32.not_lt.mpr q.1) q.2
    rw [ix_nI (by omega)] at hne ⊢
    exact okP_in h hn (by omega) hne
  · exact absurd rfl hne
def wR (kB kI : ClassId) (o : Nat) (a : Nat → Nat) (z : Nat → Int32) (g : Nat → Int64) (r : Nat → Nat → Int32) : va_W :=
  [(o, .inr (8, [.int (z 0), .int (z 1), .ref (a 2), .ref (a 3), .ref (a 4), .ref (a 5), .ref (a 6), .ref (a 7), .ref (a 8), .int (z 9), .int (z 10), .ref (a 11), .ref (a 12), .ref (a 13), .int (z 14), .ref (a 15), .int (z 16), .int (z 17), .int (z 18), .ref (a 19), .int (z 20), .ref (a 21), .int (z 22), .int (z 23), .int (z 24), .long (g 25), .ref (a 26), .int (z 27), .int (z 28), .int (z 29), .int (z 30), .ref (a 31), .ref (a 32), .ref (a 33), .ref (a 34), .ref (a 35), .ref (a 36), .ref (a 37), .ref (a 38), .ref (a 39), .ref (a 40), .long (g 41)])), (a 2, .inl (kI, 5, .inl (r 2))), (a 3, .inl (kI, 5, .inl (r 3))), (a 4, .inl (kI, 5, .inl (r 4))), (a 5, .inl (kI, 5, .inl (r 5))), (a 6, .inl (kI, 5, .inl (r 6))), (a 7, .inl (kI, 5, .inl (r 7))), (a 8, .inl (kI, 12, .inl (r 8))), (a 11, .inl (kI, 6, .inl (r 11))), (a 12, .inl (kI, 6, .inl (r 12))), (a 13, .inl (kI, 6, .inl (r 13))), (a 15, .inl (kB, 40, .inl (r 15))), (a 19, .inl (kI, 30, .inl (r 19))), (a 21, .inl (kI, 4, .inl (r 21))), (a 26, .inl (kI, 12, .inl (r 26))), (a 31, .inl (kI, 5, .inl (r 31))), (a 32, .inl (kI, 5, .inl (r 32))), (a 33, .inl (kI, 5, .inl (r 33))), (a 34, .inl (kI, 5, .inl (r 34))), (a 35, .inl (kI, 5, .inl (r 35))), (a 36, .inl (kI, 5, .inl (r 36))), (a 37, .inl (kI, 12, .inl (r 37))), (a 38, .inl (kI, 6, .inl (r 38))), (a 39, .inl (kI, 6, .inl (r 39))), (a 40, .inl (kI, 6, .inl (r 40)))]
end
section
section
variable {l : Launch} {D : va_G} {kB kI kT : ClassId} {ks sk sv : Nat}
set_option maxRecDepth 100000 in
set_option maxHeartbeats 4000000 in
theorem k_X8_within (v : Int32) (lo : Int32) (hi : Int32) : MR l yX8_within cX8_within 3 (some .boolean) 0 0 D kB kI kT ks sk sv [.int v, .int lo, .int hi] ([]) (some (.int (bi (inR v lo hi)))) := by
  refine MR.go (by decide +kernel) (Nat.le_of_ble_eq_true rfl) ?_
  intro p e s m below meth c0 args Q ls hQ hx hb hr hml hown hts hlocks hE hP hS hl
  have hl : lv_has ls 3 [(0, .int v), (1, .int lo), (2, .int hi)] := hl
  have hown : s.vm.findClass RX8 = some m.cls := hown
  refine lv_iload_n (pc := 0) hx hb dX8_within_0 rfl (lv_at hl 0 rfl) ?_
  refine lv_iload_n (pc := 1) hx hb dX8_within_1 rfl (lv_at hl 1 rfl) ?_
  refine lv_icmp_lt (pc := 2) (tgt := 14) hx hb dX8_within_2 (by decide) (fun c_1 => ?_) (fun c_1 => ?_)
  · skip
    refine lv_iconst (pc := 14) (v := 0) hx hb dX8_within_14 (by decide) ?_
    rw [hQ]; exact W.zret (pc := 15) hx hb hr rfl (fun t ht _ => ⟨retI (bi_f (fun q => absurd c_1 (Int32.not_lt.mpr q.1))), ht⟩) (fun _ h => nomatch h) dX8_within_15 hlocks
  · skip
    refine lv_iload_n (pc := 5) hx hb dX8_within_5 rfl (lv_at hl 0 rfl) ?_
    refine lv_iload_n (pc := 6) hx hb dX8_within_6 rfl (lv_at hl 2 rfl) ?_
    refine lv_icmp_gt (pc := 7) (tgt := 14) hx hb dX8_within_7 (by decide) (fun c_2 => ?_) (fun c_2 => ?_)
    · skip
      refine lv_iconst (pc := 14) (v := 0) hx hb dX8_within_14 (by decide) ?_
      rw [hQ]; exact W.zret (pc := 15) hx hb hr rfl (fun t ht _ => ⟨retI (bi_f (fun q => absurd c_2 (Int32.not_lt.mpr q.2))), ht⟩) (fun _ h => nomatch h) dX8_within_15 hlocks
    · skip
      refine lv_iconst (pc := 10) (v := 1) hx hb dX8_within_10 (by decide) ?_
      refine lv_goto (pc := 11) (tgt := 15) hx hb dX8_within_11 (by decide) ?_
      rw [hQ]; exact W.zret (pc := 15) hx hb hr rfl (fun t ht _ => ⟨retI (bi_t ⟨Int32.not_lt.mp c_1, Int32.not_lt.mp c_2⟩), ht⟩) (fun _ h => nomatch h) dX8_within_15 hlocks
set_option maxRecDepth 100000 in
set_option maxHeartbeats 4000000 in
theorem k_X8_isNight (n : Int32) : MR l yX8_isNight cX8_isNight 1 (some .boolean) 1 22 D kB kI kT ks sk sv [.int n] ([]) (some (.int (bi (inR n 0 11)))) := by
  refine MR.go (by decide +kernel) (Nat.le_of_ble_eq_true rfl) ?_
  intro p e s m below meth c0 args Q ls hQ hx hb hr hml hown hts hlocks hE hP hS hl
  have hl : lv_has ls 1 [(0, .int n)] := hl
  have hown : s.vm.findClass RX8 = some m.cls := hown
  refine lv_iload_n (pc := 0) hx hb dX8_isNight_0 rfl (lv_at hl 0 rfl) ?_
  refine lv_iconst (pc := 1) (v := 0) hx hb dX8_isNight_1 (by decide) ?_
  refine lv_bipush (pc := 2) (v := 11) hx hb dX8_isNight_2 (by decide) ?_
  refine rS (pc := 4) (rest := []) ⟨hx, hb, hml, hown, hts⟩ (k_X8_within (v := n) (lo := 0) (hi := 11)) cw_X8_86 ⟨(Nat.le_of_ble_eq_true rfl), (Nat.le_of_ble_eq_true rfl)⟩ hE hS wc0 rfl hl.1 rfl (Nat.le_of_ble_eq_true rfl) dX8_isNight_4 ⟨Nat.le_refl _, Nat.le_refl _⟩ ?_
  refine W.eq (g2 := F0 m 7 ls [.int (bi (inR n 0 11))]) rfl ?_
  rw [hQ]; exact W.zret (pc := 7) hx hb hr narrow_bi (fun t ht _ => ⟨retI (rfl), ht⟩) (fun _ h => nomatch h) dX8_isNight_7 hlocks
set_option maxRecDepth 100000 in
set_option maxHeartbeats 4000000 in
theorem k_X8_isGala {o : Nat} {a : Nat → Nat} {z : Nat → Int32} {g : Nat → Int64} {r : Nat → Nat → Int32} (t : Int32) (ht : vp_in t 5) : MR l yX8_isGala cX8_isGala 2 (some .boolean) 0 0 D kB kI kT ks sk sv [.ref o, .int t] (wR kB kI o a z g r) (some (.int (bi (isG (r 2 (ix t)))))) := by
  refine MR.go (by decide +kernel) (Nat.le_of_ble_eq_true rfl) ?_
  intro p e s m below meth c0 args Q ls hQ hx hb hr hml hown hts hlocks hE hP hS hl
  have hl : lv_has ls 2 [(0, .ref o), (1, .int t)] := hl
  have hown : s.vm.findClass RX8 = some m.cls := hown
  refine lv_aload_n (pc := 0) hx hb dX8_isGala_0 rfl (lv_at hl 0 rfl) ?_
  refine fget (pc := 1) (v := .ref (a 2)) hx hb hts hown hE hP fl_X8_7 0 rfl rfl dX8_isGala_1 ?_
  refine lv_iload_n (pc := 4) hx hb dX8_isGala_4 rfl (lv_at hl 1 rfl) ?_
  refine aldX (pc := 5) hx hb hE hP 1 rfl ht dX8_isGala_5 ?_
  refine lv_iconst (pc := 6) (v := 1) hx hb dX8_isGala_6 (by decide) ?_
  refine lv_icmp_eq (pc := 7) (tgt := 20) hx hb dX8_isGala_7 (by decide) (fun c_1 => ?_) (fun c_1 => ?_)
  · skip
    refine lv_iconst (pc := 20) (v := 1) hx hb dX8_isGala_20 (by decide) ?_
    refine lv_goto (pc := 21) (tgt := 25) hx hb dX8_isGala_21 (by decide) ?_
    rw [hQ]; exact W.zret (pc := 25) hx hb hr rfl (fun t ht _ => ⟨retI (by simp_all [bi]), ht⟩) (fun _ h => nomatch h) dX8_isGala_25 hlocks
  · skip
    refine lv_aload_n (pc := 10) hx hb dX8_isGala_10 rfl (lv_at hl 0 rfl) ?_
    refine fget (pc := 11) (v := .ref (a 2)) hx hb hts hown hE hP fl_X8_7 0 rfl rfl dX8_isGala_11 ?_
    refine lv_iload_n (pc := 14) hx hb dX8_isGala_14 rfl (lv_at hl 1 rfl) ?_
    refine aldX (pc := 15) hx hb hE hP 1 rfl ht dX8_isGala_15 ?_
    refine lv_iconst (pc := 16) (v := 2) hx hb dX8_isGala_16 (by decide) ?_
    refine lv_icmp_ne (pc := 17) (tgt := 24) hx hb dX8_isGala_17 (by decide) (fun c_2 => ?_) (fun c_2 => ?_)
    · skip
      refine lv_iconst (pc := 24) (v := 0) hx hb dX8_isGala_24 (by decide) ?_
      rw [hQ]; exact W.zret (pc := 25) hx hb hr rfl (fun t ht _ => ⟨retI (by simp_all [bi]), ht⟩) (fun _ h => nomatch h) dX8_isGala_25 hlocks
    · skip
      refine lv_iconst (pc := 20) (v := 1) hx hb dX8_isGala_20 (by decide) ?_
      refine lv_goto (pc := 21) (tgt := 25) hx hb dX8_isGala_21 (by decide) ?_
      rw [hQ]; exact W.zret (pc := 25) hx hb hr rfl (fun t ht _ => ⟨retI (by simp_all [bi]), ht⟩) (fun _ h => nomatch h) dX8_isGala_25 hlocks
set_option maxRecDepth 100000 in
set_option maxHeartbeats 4000000 in
theorem k_X8_on {o : Nat} {a : Nat → Nat} {z : Nat → Int32} {g : Nat → Int64} {r : Nat → Nat → Int32} (n : Int32) : MR l yX8_on cX8_on 2 (some .int) 2 42 D kB kI kT ks sk sv [.ref o, .int n] (wR kB kI o a z g r) (some (.int (rOn (r 8) n))) := by
  refine MR.go (by decide +kernel) (Nat.le_of_ble_eq_true rfl) ?_
  intro p e s m below meth c0 args Q ls hQ hx hb hr hml hown hts hlocks hE hP hS hl
  have hl : lv_has ls 2 [(0, .ref o), (1, .int n)] := hl
  have hown : s.vm.findClass RX8 = some m.cls := hown
  refine lv_iload_n (pc := 0) hx hb dX8_on_0 rfl (lv_at hl 1 rfl) ?_
  refine rS (pc := 1) (rest := []) ⟨hx, hb, hml, hown, hts⟩ (k_X8_isNight (n := n)) cw_X8_140 ⟨(Nat.le_of_ble_eq_true rfl), (Nat.le_of_ble_eq_true rfl)⟩ hE hS wc0 rfl hl.1 rfl (Nat.le_of_ble_eq_true rfl) dX8_on_1 ⟨Nat.le_refl _, Nat.le_refl _⟩ ?_
  refine W.eq (g2 := F0 m 4 ls [.int (bi (inR n 0 11))]) rfl ?_
  refine bif_eq (pc := 4) (tgt := 16) hx hb dX8_on_4 (by decide) (fun c_1 => ?_) (fun c_1 => ?_)
  · skip
    refine lv_iconst (pc := 16) (v := (-1)) hx hb dX8_on_16 (by decide) ?_
    rw [hQ]; exact W.iret (pc := 17) hx hb hr (fun t ht _ => ⟨retI (by simp [rOn, c_1]), ht⟩) (fun _ h => nomatch h) dX8_on_17 hlocks
  · skip
    refine lv_aload_n (pc := 7) hx hb dX8_on_7 rfl (lv_at hl 0 rfl) ?_
    refine fget (pc := 8) (v := .ref (a 8)) hx hb hts hown hE hP fl_X8_28 0 rfl rfl dX8_on_8 ?_
    refine lv_iload_n (pc := 11) hx hb dX8_on_11 rfl (lv_at hl 1 rfl) ?_
    refine aldX (pc := 12) hx hb hE hP 7 rfl (by rcases c_1 with ⟨q1, q2⟩; obtain ⟨j, hj, rfl⟩ := nI_of2 (M := 11) (n := 11) rfl (Int32.not_lt.mpr q1) q2; exact vp_in_nI (by omega) (by omega)) dX8_on_12 ?_
    refine lv_goto (pc := 13) (tgt := 17) hx hb dX8_on_13 (by decide) ?_
    rw [hQ]; exact W.iret (pc := 17) hx hb hr (fun t ht _ => ⟨retI (by simp [rOn, c_1]), ht⟩) (fun _ h => nomatch h) dX8_on_17 hlocks
set_option maxRecDepth 100000 in
set_option maxHeartbeats 4000000 in
theorem k_X8_nightsOn {o : Nat} {a : Nat → Nat} {z : Nat → Int32} {g : Nat → Int64} {r : Nat → Nat → Int32} : MR l yX8_nightsOn cX8_nightsOn 3 (some .int) 0 0 D kB kI kT ks sk sv [.ref o] (wR kB kI o a z g r) (some (.int (nI (nOn (r 8) 12)))) := by
  refine MR.go (by decide +kernel) (Nat.le_of_ble_eq_true rfl) ?_
  intro p e s m below meth c0 args Q ls hQ hx hb hr hml hown hts hlocks hE hP hS hl
  have hl : lv_has ls 3 [(0, .ref o)] := hl
  have hown : s.vm.findClass RX8 = some m.cls := hown
  refine lv_iconst (pc := 0) (v := 0) hx hb dX8_nightsOn_0 (by decide) ?_
  refine lv_istore_n (pc := 1) (lv' := [(1, .int 0), (0, .ref o)]) hx hb dX8_nightsOn_1 rfl hl (by decide) rfl (fun ls hl => ?_)
  refine lv_iconst (pc := 2) (v := 0) hx hb dX8_nightsOn_2 (by decide) ?_
  refine lv_istore_n (pc := 3) (lv' := [(2, .int 0), (1, .int 0), (0, .ref o)]) hx hb dX8_nightsOn_3 rfl hl (by decide) rfl (fun ls hl => ?_)
  have lp_1 : ∀ (fuel : Nat) (i : Nat), 12 - i < fuel → i ≤ 12 → ∀ (ls : Array Slot), lv_has ls 3 [(0, .ref o), (1, .int (nI (nOn (r 8) i))), (2, .int (nI i))] → W p l e (rmO 0 0) s m args below meth c0 s.heap [] 0 0 Q (F0 m 4 ls []) := by
    intro fuel
    induction fuel with
    | zero => intro i hfuel; exact absurd hfuel (Nat.not_lt_zero _)
    | succ fuel ih_lp_1 =>
      intro i hfuel hi ls hl
      refine lv_iload_n (pc := 4) hx hb dX8_nightsOn_4 rfl (lv_at hl 2 rfl) ?_
      refine lv_bipush (pc := 5) (v := 12) hx hb dX8_nightsOn_5 (by decide) ?_
      refine lv_icmp_ge (pc := 7) (tgt := 34) hx hb dX8_nightsOn_7 (by decide) (fun c_2 => ?_) (fun c_2 => ?_)
      · skip
        have c_2n : 12 ≤ i := (nI_leI (a := 12) (b := i) (by omega) (by omega)).mp c_2
        refine lv_iload_n (pc := 34) hx hb dX8_nightsOn_34 rfl (lv_at hl 1 rfl) ?_
        rw [hQ]; exact W.iret (pc := 35) hx hb hr (fun t ht _ => ⟨retI (by rw [show i = 12 by omega]), ht⟩) (fun _ h => nomatch h) dX8_nightsOn_35 hlocks
      · skip
        have c_2n : ¬ 12 ≤ i := fun hh => c_2 ((nI_leI (a := 12) (b := i) (by omega) (by omega)).mpr hh)
        refine lv_iload_n (pc := 10) hx hb dX8_nightsOn_10 rfl (lv_at hl 1 rfl) ?_
        refine lv_aload_n (pc := 11) hx hb dX8_nightsOn_11 rfl (lv_at hl 0 rfl) ?_
        refine fget (pc := 12) (v := .ref (a 8)) hx hb hts hown hE hP fl_X8_28 0 rfl rfl dX8_nightsOn_12 ?_
        refine lv_iload_n (pc := 15) hx hb dX8_nightsOn_15 rfl (lv_at hl 2 rfl) ?_
        refine aldN (pc := 16) hx hb hE hP 7 rfl (i) (by omega) (by omega) dX8_nightsOn_16 ?_
        refine lv_iconst (pc := 17) (v := (-1)) hx hb dX8_nightsOn_17 (by decide) ?_
        refine lv_icmp_ne (pc := 18) (tgt := 25) hx hb dX8_nightsOn_18 (by decide) (fun c_3 => ?_) (fun c_3 => ?_)
        · skip
          refine lv_iconst (pc := 25) (v := 1) hx hb dX8_nightsOn_25 (by decide) ?_
          refine iaddV (pc := 26) (v := nI (nOn (r 8) i + 1)) hx hb dX8_nightsOn_26 (nI_add (nOn (r 8) i) (1)) ?_
          refine lv_istore_n (pc := 27) (lv' := [(1, .int (nI (nOn (r 8) i + 1))), (0, .ref o), (2, .int (nI i))]) hx hb dX8_nightsOn_27 rfl hl (by decide) rfl (fun ls hl => ?_)
          refine lv_iinc (pc := 28) (v := nI (i + 1)) (lv' := [(2, .int (nI (i + 1))), (1, .int (nI (nOn (r 8) i + 1))), (0, .ref o)]) hx hb dX8_nightsOn_28 hl (k := 2) rfl (nI_add (i) 1) (by decide) rfl (fun ls hl => ?_)
          refine lv_goto (pc := 31) (tgt := 4) hx hb dX8_nightsOn_31 (by decide) ?_
          exact ih_lp_1 (i + 1) (by omega) (by omega) ls (by rw [show (nI (nOn (r 8) (i + 1)) : Int32) = nI (nOn (r 8) i + 1) from (by simp [nOn, cntP, c_2, c_3])]; exact lv_sub hl [2, 1, 0] rfl)
        · skip
          refine lv_iconst (pc := 21) (v := 0) hx hb dX8_nightsOn_21 (by decide) ?_
          refine lv_goto (pc := 22) (tgt := 26) hx hb dX8_nightsOn_22 (by decide) ?_
          refine iaddV (pc := 26) (v := nI (nOn (r 8) i + 0)) hx hb dX8_nightsOn_26 (nI_add (nOn (r 8) i) (0)) ?_
          refine lv_istore_n (pc := 27) (lv' := [(1, .int (nI (nOn (r 8) i + 0))), (0, .ref o), (2, .int (nI i))]) hx hb dX8_nightsOn_27 rfl hl (by decide) rfl (fun ls hl => ?_)
          refine lv_iinc (pc := 28) (v := nI (i + 1)) (lv' := [(2, .int (nI (i + 1))), (1, .int (nI (nOn (r 8) i + 0))), (0, .ref o)]) hx hb dX8_nightsOn_28 hl (k := 2) rfl (nI_add (i) 1) (by decide) rfl (fun ls hl => ?_)
          refine lv_goto (pc := 31) (tgt := 4) hx hb dX8_nightsOn_31 (by decide) ?_
          exact ih_lp_1 (i + 1) (by omega) (by omega) ls (by rw [show (nI (nOn (r 8) (i + 1)) : Int32) = nI (nOn (r 8) i + 0) from (by simp [nOn, cntP, c_2, c_3])]; exact lv_sub hl [2, 1, 0] rfl)
  exact lp_1 _ 0 (Nat.lt_succ_self _) (by omega) ls (lv_sub hl [2, 1, 0] rfl)
set_option maxRecDepth 100000 in
set_option maxHeartbeats 4000000 in
theorem k_X8_nightsOf {o : Nat} {a : Nat → Nat} {z : Nat → Int32} {g : Nat → Int64} {r : Nat → Nat → Int32} (t : Int32) (b : Nat) (hb12 : b ≤ 12) : MR l yX8_nightsOf cX8_nightsOf 5 (some .int) 0 0 D kB kI kT ks sk sv [.ref o, .int t, .int (nI b)] (wR kB kI o a z g r) (some (.int (nI (nOf (r 8) t b)))) := by
  refine MR.go (by decide +kernel) (Nat.le_of_ble_eq_true rfl) ?_
  intro p e s m below meth c0 args Q ls hQ hx hb hr hml hown hts hlocks hE hP hS hl
  have hl : lv_has ls 5 [(0, .ref o), (1, .int t), (2, .int (nI b))] := hl
  have hown : s.vm.findClass RX8 = some m.cls := hown
  refine lv_iconst (pc := 0) (v := 0) hx hb dX8_nightsOf_0 (by decide) ?_
  refine lv_istore_n (pc := 1) (lv' := [(3, .int 0), (0, .ref o), (1, .int t), (2, .int (nI b))]) hx hb dX8_nightsOf_1 rfl hl (by decide) rfl (fun ls hl => ?_)
  refine lv_iconst (pc := 2) (v := 0) hx hb dX8_nightsOf_2 (by decide) ?_
  refine lv_istore (pc := 3) (lv' := [(4, .int 0), (3, .int 0), (0, .ref o), (1, .int t), (2, .int (nI b))]) hx hb dX8_nightsOf_3 hl (by decide) rfl (fun ls hl => ?_)
  have lp_1 : ∀ (fuel : Nat) (i : Nat), b - i < fuel → i ≤ b → ∀ (ls : Array Slot), lv_has ls 5 [(0, .ref o), (1, .int t), (2, .int (nI b)), (3, .int (nI (nOf (r 8) t i))), (4, .int (nI i))] → W p l e (rmO 0 0) s m args below meth c0 s.heap [] 0 0 Q (F0 m 5 ls []) := by
    intro fuel
    induction fuel with
    | zero => intro i hfuel; exact absurd hfuel (Nat.not_lt_zero _)
    | succ fuel ih_lp_1 =>
      intro i hfuel hi ls hl
      refine lv_iload (pc := 5) hx hb dX8_nightsOf_5 (lv_at hl 4 rfl) ?_
      refine lv_iload_n (pc := 7) hx hb dX8_nightsOf_7 rfl (lv_at hl 2 rfl) ?_
      refine lv_icmp_ge (pc := 8) (tgt := 36) hx hb dX8_nightsOf_8 (by decide) (fun c_2 => ?_) (fun c_2 => ?_)
      · skip
        have c_2n : b ≤ i := (nI_leI (a := b) (b := i) (by omega) (by omega)).mp c_2
        refine lv_iload_n (pc := 36) hx hb dX8_nightsOf_36 rfl (lv_at hl 3 rfl) ?_
        rw [hQ]; exact W.iret (pc := 37) hx hb hr (fun t ht _ => ⟨retI (by rw [show i = b by omega]), ht⟩) (fun _ h => nomatch h) dX8_nightsOf_37 hlocks
      · skip
        have c_2n : ¬ b ≤ i := fun hh => c_2 ((nI_leI (a := b) (b := i) (by omega) (by omega)).mpr hh)
        refine lv_iload_n (pc := 11) hx hb dX8_nightsOf_11 rfl (lv_at hl 3 rfl) ?_
        refine lv_aload_n (pc := 12) hx hb dX8_nightsOf_12 rfl (lv_at hl 0 rfl) ?_
        refine fget (pc := 13) (v := .ref (a 8)) hx hb hts hown hE hP fl_X8_28 0 rfl rfl dX8_nightsOf_13 ?_
        refine lv_iload (pc := 16) hx hb dX8_nightsOf_16 (lv_at hl 4 rfl) ?_
        refine aldN (pc := 18) hx hb hE hP 7 rfl (i) (by omega) (by omega) dX8_nightsOf_18 ?_
        refine lv_iload_n (pc := 19) hx hb dX8_nightsOf_19 rfl (lv_at hl 1 rfl) ?_
        refine lv_icmp_ne (pc := 20) (tgt := 27) hx hb dX8_nightsOf_20 (by decide) (fun c_3 => ?_) (fun c_3 => ?_)
        · skip
          refine lv_iconst (pc := 27) (v := 0) hx hb dX8_nightsOf_27 (by decide) ?_
          refine iaddV (pc := 28) (v := nI (nOf (r 8) t i + 0)) hx hb dX8_nightsOf_28 (nI_add (nOf (r 8) t i) (0)) ?_
          refine lv_istore_n (pc := 29) (lv' := [(3, .int (nI (nOf (r 8) t i + 0))), (0, .ref o), (1, .int t), (2, .int (nI b)), (4, .int (nI i))]) hx hb dX8_nightsOf_29 rfl hl (by decide) rfl (fun ls hl => ?_)
          refine lv_iinc (pc := 30) (v := nI (i + 1)) (lv' := [(4, .int (nI (i + 1))), (3, .int (nI (nOf (r 8) t i + 0))), (0, .ref o), (1, .int t), (2, .int (nI b))]) hx hb dX8_nightsOf_30 hl (k := 4) rfl (nI_add (i) 1) (by decide) rfl (fun ls hl => ?_)
          refine lv_goto (pc := 33) (tgt := 5) hx hb dX8_nightsOf_33 (by decide) ?_
          exact ih_lp_1 (i + 1) (by omega) (by omega) ls (by rw [show (nI (nOf (r 8) t (i + 1)) : Int32) = nI (nOf (r 8) t i + 0) from (by simp [nOf, cntP, c_2, c_3])]; exact lv_sub hl [2, 3, 4, 1, 0] rfl)
        · skip
          refine lv_iconst (pc := 23) (v := 1) hx hb dX8_nightsOf_23 (by decide) ?_
          refine lv_goto (pc := 24) (tgt := 28) hx hb dX8_nightsOf_24 (by decide) ?_
          refine iaddV (pc := 28) (v := nI (nOf (r 8) t i + 1)) hx hb dX8_nightsOf_28 (nI_add (nOf (r 8) t i) (1)) ?_
          refine lv_istore_n (pc := 29) (lv' := [(3, .int (nI (nOf (r 8) t i + 1))), (0, .ref o), (1, .int t), (2, .int (nI b)), (4, .int (nI i))]) hx hb dX8_nightsOf_29 rfl hl (by decide) rfl (fun ls hl => ?_)
          refine lv_iinc (pc := 30) (v := nI (i + 1)) (lv' := [(4, .int (nI (i + 1))), (3, .int (nI (nOf (r 8) t i + 1))), (0, .ref o), (1, .int t), (2, .int (nI b))]) hx hb dX8_nightsOf_30 hl (k := 4) rfl (nI_add (i) 1) (by decide) rfl (fun ls hl => ?_)
          refine lv_goto (pc := 33) (tgt := 5) hx hb dX8_nightsOf_33 (by decide) ?_
          exact ih_lp_1 (i + 1) (by omega) (by omega) ls (by rw [show (nI (nOf (r 8) t (i + 1)) : Int32) = nI (nOf (r 8) t i + 1) from (by simp [nOf, cntP, c_2, c_3])]; exact lv_sub hl [2, 3, 4, 1, 0] rfl)
  exact lp_1 _ 0 (Nat.lt_succ_self _) (by omega) ls (lv_sub hl [2, 3, 4, 1, 0] rfl)
set_option maxRecDepth 100000 in
set_option maxHeartbeats 4000000 in
theorem k_X8_hasCast {o : Nat} {a : Nat → Nat} {z : Nat → Int32} {g : Nat → Int64} {r : Nat → Nat → Int32} (x : Int32) (cast : Int32) {n : Nat} (hok : okP n (r 8)) (hn5 : n ≤ 5) : MR l yX8_hasCast cX8_hasCast 3 (some .boolean) 3 63 D kB kI kT ks sk sv [.ref o, .int x, .int cast] (wR kB kI o a z g r) (some (.int (bi (hasC (r 4) (r 8) x cast)))) := by
  refine MR.go (by decide +kernel) (Nat.le_of_ble_eq_true rfl) ?_
  intro p e s m below meth c0 args Q ls hQ hx hb hr hml hown hts hlocks hE hP hS hl
  have hl : lv_has ls 3 [(0, .ref o), (1, .int x), (2, .int cast)] := hl
  have hown : s.vm.findClass RX8 = some m.cls := hown
  refine lv_aload_n (pc := 0) hx hb dX8_hasCast_0 rfl (lv_at hl 0 rfl) ?_
  refine lv_iload_n (pc := 1) hx hb dX8_hasCast_1 rfl (lv_at hl 1 rfl) ?_
  refine rV (pc := 2) (rest := []) ⟨hx, hb, hml, hown, hts⟩ (k_X8_on (n := x)) cw_X8_143 ⟨(Nat.le_of_ble_eq_true rfl), (Nat.le_of_ble_eq_true rfl)⟩ hE hS hP rfl rfl rfl rfl hl.1 rfl (Nat.le_of_ble_eq_true rfl) dX8_hasCast_2 ⟨Nat.le_refl _, Nat.le_refl _⟩ ?_
  refine W.eq (g2 := F0 m 5 ls [.int (rOn ((r 8)) x)]) rfl ?_
  refine lv_iconst (pc := 5) (v := (-1)) hx hb dX8_hasCast_5 (by decide) ?_
  refine lv_icmp_eq (pc := 6) (tgt := 27) hx hb dX8_hasCast_6 (by decide) (fun c_1 => ?_) (fun c_1 => ?_)
  · skip
    refine lv_iconst (pc := 27) (v := 0) hx hb dX8_hasCast_27 (by decide) ?_
    rw [hQ]; exact W.zret (pc := 28) hx hb hr rfl (fun t ht _ => ⟨retI (bi_f (fun q => q.1 c_1)), ht⟩) (fun _ h => nomatch h) dX8_hasCast_28 hlocks
  · skip
    refine lv_aload_n (pc := 9) hx hb dX8_hasCast_9 rfl (lv_at hl 0 rfl) ?_
    refine fget (pc := 10) (v := .ref (a 4)) hx hb hts hown hE hP fl_X8_16 0 rfl rfl dX8_hasCast_10 ?_
    refine lv_aload_n (pc := 13) hx hb dX8_hasCast_13 rfl (lv_at hl 0 rfl) ?_
    refine lv_iload_n (pc := 14) hx hb dX8_hasCast_14 rfl (lv_at hl 1 rfl) ?_
    refine rV (pc := 15) (rest := [.ref (a 4)]) ⟨hx, hb, hml, hown, hts⟩ (k_X8_on (n := x)) cw_X8_143 ⟨(Nat.le_of_ble_eq_true rfl), (Nat.le_of_ble_eq_true rfl)⟩ hE hS hP rfl rfl rfl rfl hl.1 rfl (Nat.le_of_ble_eq_true rfl) dX8_hasCast_15 ⟨Nat.le_refl _, Nat.le_refl _⟩ ?_
    refine W.eq (g2 := F0 m 18 ls [.int (rOn ((r 8)) x), .ref (a 4)]) rfl ?_
    refine aldX (pc := 18) hx hb hE hP 3 rfl (rOn_in hok hn5 c_1) dX8_hasCast_18 ?_
    refine lv_iload_n (pc := 19) hx hb dX8_hasCast_19 rfl (lv_at hl 2 rfl) ?_
    refine lv_icmp_ne (pc := 20) (tgt := 27) hx hb dX8_hasCast_20 (by decide) (fun c_2 => ?_) (fun c_2 => ?_)
    · skip
      refine lv_iconst (pc := 27) (v := 0) hx hb dX8_hasCast_27 (by decide) ?_
      rw [hQ]; exact W.zret (pc := 28) hx hb hr rfl (fun t ht _ => ⟨retI (bi_f (fun q => c_2 q.2)), ht⟩) (fun _ h => nomatch h) dX8_hasCast_28 hlocks
    · skip
      refine lv_iconst (pc := 23) (v := 1) hx hb dX8_hasCast_23 (by decide) ?_
      refine lv_goto (pc := 24) (tgt := 28) hx hb dX8_hasCast_24 (by decide) ?_
      rw [hQ]; exact W.zret (pc := 28) hx hb hr rfl (fun t ht _ => ⟨retI (bi_t ⟨c_1, c_2⟩), ht⟩) (fun _ h => nomatch h) dX8_hasCast_28 hlocks
set_option maxRecDepth 100000 in
set_option maxHeartbeats 4000000 in
theorem k_X8_isCastBehind {o : Nat} {a : Nat → Nat} {z : Nat → Int32} {g : Nat → Int64} {r : Nat → Nat → Int32} (i : Nat) (cast : Int32) {n : Nat} (hok : okP n (r 8)) (hn5 : n ≤ 5) (hi : i < 12) : MR l yX8_isCastBehind cX8_isCastBehind 5 (some .boolean) 4 85 D kB kI kT ks sk sv [.ref o, .int (nI i), .int cast] (wR kB kI o a z g r) (some (.int (bi (cBeh (r 4) (r 8) i cast (11 - i) = true)))) := by
  refine MR.go (by decide +kernel) (Nat.le_of_ble_eq_true rfl) ?_
  intro p e s m below meth c0 args Q ls hQ hx hb hr hml hown hts hlocks hE hP hS hl
  have hl : lv_has ls 5 [(0, .ref o), (1, .int (nI i)), (2, .int cast)] := hl
  have hown : s.vm.findClass RX8 = some m.cls := hown
  refine lv_iconst (pc := 0) (v := 0) hx hb dX8_isCastBehind_0 (by decide) ?_
  refine lv_istore_n (pc := 1) (lv' := [(3, .int 0), (0, .ref o), (1, .int (nI i)), (2, .int cast)]) hx hb dX8_isCastBehind_1 rfl hl (by decide) rfl (fun ls hl => ?_)
  refine lv_iload_n (pc := 2) hx hb dX8_isCastBehind_2 rfl (lv_at hl 2 rfl) ?_
  refine lv_iconst (pc := 3) (v := 1) hx hb dX8_isCastBehind_3 (by decide) ?_
  refine iaddV (pc := 4) (v := nI (i + 1)) hx hb dX8_isCastBehind_4 (nI_add (i) (1)) ?_
  refine lv_istore (pc := 5) (lv' := [(4, .int (nI (i + 1))), (3, .int 0), (0, .ref o), (1, .int (nI i)), (2, .int cast)]) hx hb dX8_isCastBehind_5 hl (by decide) rfl (fun ls hl => ?_)
  have lp_1 : ∀ (fuel : Nat) (j : Nat), 12 - (i + 1 + j) < fuel → i + 1 + j ≤ 12 → ∀ (ls : Array Slot), lv_has ls 5 [(0, .ref o), (1, .int (nI i)), (2, .int cast), (3, .int (bi (cBeh (r 4) (r 8) i cast j = true))), (4, .int (nI (i + 1 + j)))] → W p l e (rmO 4 85) s m args below meth c0 s.heap [] 0 0 Q (F0 m 7 ls []) := by
    intro fuel
    induction fuel with
    | zero => intro j hfuel; exact absurd hfuel (Nat.not_lt_zero _)
    | succ fuel ih_lp_1 =>
      intro j hfuel hj ls hl
      refine lv_iload (pc := 7) hx hb dX8_isCastBehind_7 (lv_at hl 4 rfl) ?_
      refine lv_bipush (pc := 9) (v := 12) hx hb dX8_isCastBehind_9 (by decide) ?_
      refine lv_icmp_ge (pc := 11) (tgt := 40) hx hb dX8_isCastBehind_11 (by decide) (fun c_2 => ?_) (fun c_2 => ?_)
      · skip
        have c_2n : 12 ≤ (i + 1 + j) := (nI_leI (a := 12) (b := i + 1 + j) (by omega) (by omega)).mp c_2
        refine lv_iload_n (pc := 40) hx hb dX8_isCastBehind_40 rfl (lv_at hl 3 rfl) ?_
        rw [hQ]; exact W.zret (pc := 41) hx hb hr narrow_bi (fun t ht _ => ⟨retI (by rw [show j = 11 - i by omega]), ht⟩) (fun _ h => nomatch h) dX8_isCastBehind_41 hlocks
      · skip
        have c_2n : ¬ 12 ≤ (i + 1 + j) := fun hh => c_2 ((nI_leI (a := 12) (b := i + 1 + j) (by omega) (by omega)).mpr hh)
        refine lv_iload_n (pc := 14) hx hb dX8_isCastBehind_14 rfl (lv_at hl 3 rfl) ?_
        refine bif_ne (pc := 15) (tgt := 28) hx hb dX8_isCastBehind_15 (by decide) (fun c_3 => ?_) (fun c_3 => ?_)
        · skip
          refine lv_iconst (pc := 28) (v := 1) hx hb dX8_isCastBehind_28 (by decide) ?_
          refine lv_goto (pc := 29) (tgt := 33) hx hb dX8_isCastBehind_29 (by decide) ?_
          refine lv_istore_n (pc := 33) (lv' := [(3, .int 1), (0, .ref o), (1, .int (nI i)), (2, .int cast), (4, .int (nI (i + 1 + j)))]) hx hb dX8_isCastBehind_33 rfl hl (by decide) rfl (fun ls hl => ?_)
          refine lv_iinc (pc := 34) (v := nI (i + 1 + j + 1)) (lv' := [(4, .int (nI (i + 1 + j + 1))), (3, .int 1), (0, .ref o), (1, .int (nI i)), (2, .int cast)]) hx hb dX8_isCastBehind_34 hl (k := 4) rfl (nI_add (i + 1 + j) 1) (by decide) rfl (fun ls hl => ?_)
          refine lv_goto (pc := 37) (tgt := 7) hx hb dX8_isCastBehind_37 (by decide) ?_
          exact ih_lp_1 (j + 1) (by omega) (by omega) ls (by rw [show (bi (cBeh (r 4) (r 8) i cast (j + 1) = true) : Int32) = 1 from (by simp_all [cBeh, anyB, bi])]; exact lv_sub hl [2, 3, 4, 1, 0] rfl)
        · skip
          refine lv_aload_n (pc := 18) hx hb dX8_isCastBehind_18 rfl (lv_at hl 0 rfl) ?_
          refine lv_iload (pc := 19) hx hb dX8_isCastBehind_19 (lv_at hl 4 rfl) ?_
          refine lv_iload_n (pc := 21) hx hb dX8_isCastBehind_21 rfl (lv_at hl 2 rfl) ?_
          refine rV (pc := 22) (rest := []) ⟨hx, hb, hml, hown, hts⟩ (k_X8_hasCast (x := nI (i + 1 + j)) (cast := cast) (hok := (by first | assumption | omega)) (hn5 := (by first | assumption | omega))) cw_X8_146 ⟨(Nat.le_of_ble_eq_true rfl), (Nat.le_of_ble_eq_true rfl)⟩ hE hS hP rfl rfl rfl rfl hl.1 rfl (Nat.le_of_ble_eq_true rfl) dX8_isCastBehind_22 ⟨Nat.le_refl _, Nat.le_refl _⟩ ?_
          refine W.eq (g2 := F0 m 25 ls [.int (bi (hasC ((r 4)) ((r 8)) (nI (i + 1 + j)) cast))]) rfl ?_
          refine bif_eq (pc := 25) (tgt := 32) hx hb dX8_isCastBehind_25 (by decide) (fun c_4 => ?_) (fun c_4 => ?_)
          · skip
            refine lv_iconst (pc := 32) (v := 0) hx hb dX8_isCastBehind_32 (by decide) ?_
            refine lv_istore_n (pc := 33) (lv' := [(3, .int 0), (0, .ref o), (1, .int (nI i)), (2, .int cast), (4, .int (nI (i + 1 + j)))]) hx hb dX8_isCastBehind_33 rfl hl (by decide) rfl (fun ls hl => ?_)
            refine lv_iinc (pc := 34) (v := nI (i + 1 + j + 1)) (lv' := [(4, .int (nI (i + 1 + j + 1))), (3, .int 0), (0, .ref o), (1, .int (nI i)), (2, .int cast)]) hx hb dX8_isCastBehind_34 hl (k := 4) rfl (nI_add (i + 1 + j) 1) (by decide) rfl (fun ls hl => ?_)
            refine lv_goto (pc := 37) (tgt := 7) hx hb dX8_isCastBehind_37 (by decide) ?_
            exact ih_lp_1 (j + 1) (by omega) (by omega) ls (by rw [show (bi (cBeh (r 4) (r 8) i cast (j + 1) = true) : Int32) = 0 from (by simp_all [cBeh, anyB, bi])]; exact lv_sub hl [2, 3, 4, 1, 0] rfl)
          · skip
            refine lv_iconst (pc := 28) (v := 1) hx hb dX8_isCastBehind_28 (by decide) ?_
            refine lv_goto (pc := 29) (tgt := 33) hx hb dX8_isCastBehind_29 (by decide) ?_
            refine lv_istore_n (pc := 33) (lv' := [(3, .int 1), (0, .ref o), (1, .int (nI i)), (2, .int cast), (4, .int (nI (i + 1 + j)))]) hx hb dX8_isCastBehind_33 rfl hl (by decide) rfl (fun ls hl => ?_)
            refine lv_iinc (pc := 34) (v := nI (i + 1 + j + 1)) (lv' := [(4, .int (nI (i + 1 + j + 1))), (3, .int 1), (0, .ref o), (1, .int (nI i)), (2, .int cast)]) hx hb dX8_isCastBehind_34 hl (k := 4) rfl (nI_add (i + 1 + j) 1) (by decide) rfl (fun ls hl => ?_)
            refine lv_goto (pc := 37) (tgt := 7) hx hb dX8_isCastBehind_37 (by decide) ?_
            exact ih_lp_1 (j + 1) (by omega) (by omega) ls (by rw [show (bi (cBeh (r 4) (r 8) i cast (j + 1) = true) : Int32) = 1 from (by simp_all [cBeh, anyB, bi])]; exact lv_sub hl [2, 3, 4, 1, 0] rfl)
  exact lp_1 _ 0 (Nat.lt_succ_self _) (by omega) ls (lv_sub hl [2, 3, 4, 1, 0] rfl)
set_option maxRecDepth 100000 in
set_option maxHeartbeats 4000000 in
theorem k_X8_breaksAt {o : Nat} {a : Nat → Nat} {z : Nat → Int32} {g : Nat → Int64} {r : Nat → Nat → Int32} (i : Nat) {n : Nat} (hok : okP n (r 8)) (hn5 : n ≤ 5) (hi : i < 12) : MR l yX8_breaksAt cX8_breaksAt 3 (some .int) 5 109 D kB kI kT ks sk sv [.ref o, .int (nI i)] (wR kB kI o a z g r) (some (.int (brk (r 2) (r 3) (r 4) (r 5) (r 6) (r 8) i))) := by
  refine MR.go (by decide +kernel) (Nat.le_of_ble_eq_true rfl) ?_
  intro p e s m below meth c0 args Q ls hQ hx hb hr hml hown hts hlocks hE hP hS hl
  have hl : lv_has ls 3 [(0, .ref o), (1, .int (nI i))] := hl
  have hown : s.vm.findClass RX8 = some m.cls := hown
  refine lv_aload_n (pc := 0) hx hb dX8_breaksAt_0 rfl (lv_at hl 0 rfl) ?_
  refine fget (pc := 1) (v := .ref (a 8)) hx hb hts hown hE hP fl_X8_28 0 rfl rfl dX8_breaksAt_1 ?_
  refine lv_iload_n (pc := 4) hx hb dX8_breaksAt_4 rfl (lv_at hl 1 rfl) ?_
  refine aldN (pc := 5) hx hb hE hP 7 rfl (i) (by omega) (by omega) dX8_breaksAt_5 ?_
  refine lv_istore_n (pc := 6) (lv' := [(2, .int ((r 8) i)), (0, .ref o), (1, .int (nI i))]) hx hb dX8_breaksAt_6 rfl hl (by decide) rfl (fun ls hl => ?_)
  refine lv_iload_n (pc := 7) hx hb dX8_breaksAt_7 rfl (lv_at hl 0 rfl) ?_
  refine lv_iconst (pc := 8) (v := (-1)) hx hb dX8_breaksAt_8 (by decide) ?_
  refine lv_icmp_ne (pc := 9) (tgt := 14) hx hb dX8_breaksAt_9 (by decide) (fun c_1 => ?_) (fun c_1 => ?_)
  · skip
    refine lv_iload_n (pc := 14) hx hb dX8_breaksAt_14 rfl (lv_at hl 2 rfl) ?_
    refine lv_aload_n (pc := 15) hx hb dX8_breaksAt_15 rfl (lv_at hl 1 rfl) ?_
    refine fget (pc := 16) (v := .ref (a 5)) hx hb hts hown hE hP fl_X8_19 0 rfl rfl dX8_breaksAt_16 ?_
    refine lv_iload_n (pc := 19) hx hb dX8_breaksAt_19 rfl (lv_at hl 0 rfl) ?_
    refine aldX (pc := 20) hx hb hE hP 4 rfl (okP_in hok hn5 hi c_1) dX8_breaksAt_20 ?_
    refine lv_aload_n (pc := 21) hx hb dX8_breaksAt_21 rfl (lv_at hl 1 rfl) ?_
    refine fget (pc := 22) (v := .ref (a 6)) hx hb hts hown hE hP fl_X8_22 0 rfl rfl dX8_breaksAt_22 ?_
    refine lv_iload_n (pc := 25) hx hb dX8_breaksAt_25 rfl (lv_at hl 0 rfl) ?_
    refine aldX (pc := 26) hx hb hE hP 5 rfl (okP_in hok hn5 hi c_1) dX8_breaksAt_26 ?_
    refine rS (pc := 27) (rest := []) ⟨hx, hb, hml, hown, hts⟩ (k_X8_within (v := nI i) (lo := (r 5) (ix ((r 8) i))) (hi := (r 6) (ix ((r 8) i)))) cw_X8_86 ⟨(Nat.le_of_ble_eq_true rfl), (Nat.le_of_ble_eq_true rfl)⟩ hE hS wc0 rfl hl.1 rfl (Nat.le_of_ble_eq_true rfl) dX8_breaksAt_27 ⟨Nat.le_refl _, Nat.le_refl _⟩ ?_
    refine W.eq (g2 := F0 m 30 ls [.int (bi (inR (nI i) ((r 5) (ix ((r 8) i))) ((r 6) (ix ((r 8) i)))))]) rfl ?_
    refine bif_ne (pc := 30) (tgt := 35) hx hb dX8_breaksAt_30 (by decide) (fun c_2 => ?_) (fun c_2 => ?_)
    · skip
      have jn_3 : ¬ (¬ rOn (r 8) (nI i - 1) = -1 ∧ ¬ r 3 (ix (rOn (r 8) (nI i - 1))) = r 3 (ix (r 8 i))) → W p l e (rmO 5 109) s m args below meth c0 s.heap [] 0 0 Q (F0 m 69 ls []) := by
        intro cj_4
        have jn_5 : ¬ (hasC (r 4) (r 8) (nI i - 1) (r 4 (ix (r 8 i))) ∧ hasC (r 4) (r 8) (nI i - 2) (r 4 (ix (r 8 i)))) → W p l e (rmO 5 109) s m args below meth c0 s.heap [] 0 0 Q (F0 m 103 ls []) := by
          intro cj_6
          have jn_7 : ¬ (isG (r 2 (ix (r 8 i))) ∧ 0 < nOf (r 8) (r 8 i) i) → W p l e (rmO 5 109) s m args below meth c0 s.heap [] 0 0 Q (F0 m 122 ls []) := by
            intro cj_8
            have jn_9 : ¬ (r 2 (ix (r 8 i)) = 2 ∧ cBeh (r 4) (r 8) i (r 4 (ix (r 8 i))) (11 - i) = true) → W p l e (rmO 5 109) s m args below meth c0 s.heap [] 0 0 Q (F0 m 148 ls []) := by
              intro cj_10
              refine lv_aload_n (pc := 148) hx hb dX8_breaksAt_148 rfl (lv_at hl 1 rfl) ?_
              refine fget (pc := 149) (v := .ref (a 2)) hx hb hts hown hE hP fl_X8_7 0 rfl rfl dX8_breaksAt_149 ?_
              refine lv_iload_n (pc := 152) hx hb dX8_breaksAt_152 rfl (lv_at hl 0 rfl) ?_
              refine aldX (pc := 153) hx hb hE hP 1 rfl (okP_in hok hn5 hi c_1) dX8_breaksAt_153 ?_
              refine lv_iconst (pc := 154) (v := 3) hx hb dX8_breaksAt_154 (by decide) ?_
              refine lv_icmp_ne (pc := 155) (tgt := 185) hx hb dX8_breaksAt_155 (by decide) (fun c_11 => ?_) (fun c_11 => ?_)
              · skip
                refine lv_iconst (pc := 185) (v := 0) hx hb dX8_breaksAt_185 (by decide) ?_
                rw [hQ]; exact W.iret (pc := 186) hx hb hr (fun t ht _ => ⟨retI (by unfold brk; rw [if_neg c_1, if_neg (fun q => q c_2), if_neg cj_4, if_neg cj_6, if_neg cj_8, if_neg cj_10, if_neg (by simp_all)]), ht⟩) (fun _ h => nomatch h) dX8_breaksAt_186 hlocks
              · skip
                refine lv_aload_n (pc := 158) hx hb dX8_breaksAt_158 rfl (lv_at hl 1 rfl) ?_
                refine lv_iload_n (pc := 159) hx hb dX8_breaksAt_159 rfl (lv_at hl 2 rfl) ?_
                refine lv_iconst (pc := 160) (v := 1) hx hb dX8_breaksAt_160 (by decide) ?_
                refine lv_isub (pc := 161) hx hb dX8_breaksAt_161 ?_
                refine rV (pc := 162) (rest := []) ⟨hx, hb, hml, hown, hts⟩ (k_X8_on (n := (nI i) - 1)) cw_X8_143 ⟨(Nat.le_of_ble_eq_true rfl), (Nat.le_of_ble_eq_true rfl)⟩ hE hS hP rfl rfl rfl rfl hl.1 rfl (Nat.le_of_ble_eq_true rfl) dX8_breaksAt_162 ⟨Nat.le_refl _, Nat.le_refl _⟩ ?_
                refine W.eq (g2 := F0 m 165 ls [.int (rOn ((r 8)) ((nI i) - 1))]) rfl ?_
                refine lv_iload_n (pc := 165) hx hb dX8_breaksAt_165 rfl (lv_at hl 0 rfl) ?_
                refine lv_icmp_eq (pc := 166) (tgt := 185) hx hb dX8_breaksAt_166 (by decide) (fun c_12 => ?_) (fun c_12 => ?_)
                · skip
                  refine lv_iconst (pc := 185) (v := 0) hx hb dX8_breaksAt_185 (by decide) ?_
                  rw [hQ]; exact W.iret (pc := 186) hx hb hr (fun t ht _ => ⟨retI (by unfold brk; rw [if_neg c_1, if_neg (fun q => q c_2), if_neg cj_4, if_neg cj_6, if_neg cj_8, if_neg cj_10, if_neg (by simp_all)]), ht⟩) (fun _ h => nomatch h) dX8_breaksAt_186 hlocks
                · skip
                  refine lv_aload_n (pc := 169) hx hb dX8_breaksAt_169 rfl (lv_at hl 1 rfl) ?_
                  refine lv_iload_n (pc := 170) hx hb dX8_breaksAt_170 rfl (lv_at hl 2 rfl) ?_
                  refine lv_iconst (pc := 171) (v := 1) hx hb dX8_breaksAt_171 (by decide) ?_
                  refine iaddV (pc := 172) (v := nI (i + 1)) hx hb dX8_breaksAt_172 (nI_add (i) (1)) ?_
                  refine rV (pc := 173) (rest := []) ⟨hx, hb, hml, hown, hts⟩ (k_X8_on (n := nI (i + 1))) cw_X8_143 ⟨(Nat.le_of_ble_eq_true rfl), (Nat.le_of_ble_eq_true rfl)⟩ hE hS hP rfl rfl rfl rfl hl.1 rfl (Nat.le_of_ble_eq_true rfl) dX8_breaksAt_173 ⟨Nat.le_refl _, Nat.le_refl _⟩ ?_
                  refine W.eq (g2 := F0 m 176 ls [.int (rOn ((r 8)) (nI (i + 1)))]) rfl ?_
                  refine lv_iload_n (pc := 176) hx hb dX8_breaksAt_176 rfl (lv_at hl 0 rfl) ?_
                  refine lv_icmp_eq (pc := 177) (tgt := 185) hx hb dX8_breaksAt_177 (by decide) (fun c_13 => ?_) (fun c_13 => ?_)
                  · skip
                    refine lv_iconst (pc := 185) (v := 0) hx hb dX8_breaksAt_185 (by decide) ?_
                    rw [hQ]; exact W.iret (pc := 186) hx hb hr (fun t ht _ => ⟨retI (by unfold brk; rw [if_neg c_1, if_neg (fun q => q c_2), if_neg cj_4, if_neg cj_6, if_neg cj_8, if_neg cj_10, if_neg (by simp_all)]), ht⟩) (fun _ h => nomatch h) dX8_breaksAt_186 hlocks
                  · skip
                    refine lv_bipush (pc := 180) (v := 6) hx hb dX8_breaksAt_180 (by decide) ?_
                    refine lv_goto (pc := 182) (tgt := 186) hx hb dX8_breaksAt_182 (by decide) ?_
                    rw [hQ]; exact W.iret (pc := 186) hx hb hr (fun t ht _ => ⟨retI (by unfold brk; rw [if_neg c_1, if_neg (fun q => q c_2), if_neg cj_4, if_neg cj_6, if_neg cj_8, if_neg cj_10, if_pos ⟨c_11, c_12, c_13⟩]), ht⟩) (fun _ h => nomatch h) dX8_breaksAt_186 hlocks
            refine lv_aload_n (pc := 122) hx hb dX8_breaksAt_122 rfl (lv_at hl 1 rfl) ?_
            refine fget (pc := 123) (v := .ref (a 2)) hx hb hts hown hE hP fl_X8_7 0 rfl rfl dX8_breaksAt_123 ?_
            refine lv_iload_n (pc := 126) hx hb dX8_breaksAt_126 rfl (lv_at hl 0 rfl) ?_
            refine aldX (pc := 127) hx hb hE hP 1 rfl (okP_in hok hn5 hi c_1) dX8_breaksAt_127 ?_
            refine lv_iconst (pc := 128) (v := 2) hx hb dX8_breaksAt_128 (by decide) ?_
            refine lv_icmp_ne (pc := 129) (tgt := 148) hx hb dX8_breaksAt_129 (by decide) (fun c_14 => ?_) (fun c_14 => ?_)
            · skip
              exact jn_9 (fun q => c_14 q.1)
            · skip
              refine lv_aload_n (pc := 132) hx hb dX8_breaksAt_132 rfl (lv_at hl 1 rfl) ?_
              refine lv_iload_n (pc := 133) hx hb dX8_breaksAt_133 rfl (lv_at hl 2 rfl) ?_
              refine lv_aload_n (pc := 134) hx hb dX8_breaksAt_134 rfl (lv_at hl 1 rfl) ?_
              refine fget (pc := 135) (v := .ref (a 4)) hx hb hts hown hE hP fl_X8_16 0 rfl rfl dX8_breaksAt_135 ?_
              refine lv_iload_n (pc := 138) hx hb dX8_breaksAt_138 rfl (lv_at hl 0 rfl) ?_
              refine aldX (pc := 139) hx hb hE hP 3 rfl (okP_in hok hn5 hi c_1) dX8_breaksAt_139 ?_
              refine rV (pc := 140) (rest := []) ⟨hx, hb, hml, hown, hts⟩ (k_X8_isCastBehind (i := i) (cast := (r 4) (ix ((r 8) i))) (hok := (by first | assumption | omega)) (hn5 := (by first | assumption | omega)) (hi := (by first | assumption | omega))) cw_X8_157 ⟨(Nat.le_of_ble_eq_true rfl), (Nat.le_of_ble_eq_true rfl)⟩ hE hS hP rfl rfl rfl rfl hl.1 rfl (Nat.le_of_ble_eq_true rfl) dX8_breaksAt_140 ⟨Nat.le_refl _, Nat.le_refl _⟩ ?_
              refine W.eq (g2 := F0 m 143 ls [.int (bi (cBeh ((r 4)) ((r 8)) i ((r 4) (ix ((r 8) i))) (11 - i) = true))]) rfl ?_
              refine bif_eq (pc := 143) (tgt := 148) hx hb dX8_breaksAt_143 (by decide) (fun c_15 => ?_) (fun c_15 => ?_)
              · skip
                exact jn_9 (fun q => c_15 q.2)
              · skip
                refine lv_iconst (pc := 146) (v := 5) hx hb dX8_breaksAt_146 (by decide) ?_
                rw [hQ]; exact W.iret (pc := 147) hx hb hr (fun t ht _ => ⟨retI (by unfold brk; rw [if_neg c_1, if_neg (fun q => q c_2), if_neg cj_4, if_neg cj_6, if_neg cj_8, if_pos ⟨c_14, c_15⟩]), ht⟩) (fun _ h => nomatch h) dX8_breaksAt_147 hlocks
          refine lv_aload_n (pc := 103) hx hb dX8_breaksAt_103 rfl (lv_at hl 1 rfl) ?_
          refine lv_iload_n (pc := 104) hx hb dX8_breaksAt_104 rfl (lv_at hl 0 rfl) ?_
          refine rV (pc := 105) (rest := []) ⟨hx, hb, hml, hown, hts⟩ (k_X8_isGala (t := (r 8) i) (ht := okP_in hok hn5 hi c_1)) cw_X8_150 ⟨(Nat.le_of_ble_eq_true rfl), (Nat.le_of_ble_eq_true rfl)⟩ hE hS hP rfl rfl rfl rfl hl.1 rfl (Nat.le_of_ble_eq_true rfl) dX8_breaksAt_105 ⟨Nat.le_refl _, Nat.le_refl _⟩ ?_
          refine W.eq (g2 := F0 m 108 ls [.int (bi (isG ((r 2) (ix ((r 8) i)))))]) rfl ?_
          refine bif_eq (pc := 108) (tgt := 122) hx hb dX8_breaksAt_108 (by decide) (fun c_16 => ?_) (fun c_16 => ?_)
          · skip
            exact jn_7 (fun q => c_16 q.1)
          · skip
            refine lv_aload_n (pc := 111) hx hb dX8_breaksAt_111 rfl (lv_at hl 1 rfl) ?_
            refine lv_iload_n (pc := 112) hx hb dX8_breaksAt_112 rfl (lv_at hl 0 rfl) ?_
            refine lv_iload_n (pc := 113) hx hb dX8_breaksAt_113 rfl (lv_at hl 2 rfl) ?_
            refine rV (pc := 114) (rest := []) ⟨hx, hb, hml, hown, hts⟩ (k_X8_nightsOf (t := (r 8) i) (b := i) (hb12 := (by omega))) cw_X8_153 ⟨(Nat.le_of_ble_eq_true rfl), (Nat.le_of_ble_eq_true rfl)⟩ hE hS hP rfl rfl rfl rfl hl.1 rfl (Nat.le_of_ble_eq_true rfl) dX8_breaksAt_114 ⟨Nat.le_refl _, Nat.le_refl _⟩ ?_
            refine W.eq (g2 := F0 m 117 ls [.int (nI (nOf ((r 8)) ((r 8) i) i))]) rfl ?_
            have hnb : nOf (r 8) (r 8 i) i ≤ i := cntP_le _ _
            refine lv_if_le (pc := 117) (tgt := 122) hx hb dX8_breaksAt_117 (by decide) (fun c_17 => ?_) (fun c_17 => ?_)
            · skip
              have c_17n : (nOf ((r 8)) ((r 8) i) i) ≤ 0 := (nI_leI (a := nOf ((r 8)) ((r 8) i) i) (b := 0) (by omega) (by omega)).mp c_17
              exact jn_7 (fun q => (Nat.not_lt.mpr c_17n) q.2)
            · skip
              have c_17n : ¬ (nOf ((r 8)) ((r 8) i) i) ≤ 0 := fun hh => c_17 ((nI_leI (a := nOf ((r 8)) ((r 8) i) i) (b := 0) (by omega) (by omega)).mpr hh)
              refine lv_iconst (pc := 120) (v := 4) hx hb dX8_breaksAt_120 (by decide) ?_
              rw [hQ]; exact W.iret (pc := 121) hx hb hr (fun t ht _ => ⟨retI (by unfold brk; rw [if_neg c_1, if_neg (fun q => q c_2), if_neg cj_4, if_neg cj_6, if_pos ⟨c_16, Nat.lt_of_not_le c_17n⟩]), ht⟩) (fun _ h => nomatch h) dX8_breaksAt_121 hlocks
        refine lv_aload_n (pc := 69) hx hb dX8_breaksAt_69 rfl (lv_at hl 1 rfl) ?_
        refine lv_iload_n (pc := 70) hx hb dX8_breaksAt_70 rfl (lv_at hl 2 rfl) ?_
        refine lv_iconst (pc := 71) (v := 1) hx hb dX8_breaksAt_71 (by decide) ?_
        refine lv_isub (pc := 72) hx hb dX8_breaksAt_72 ?_
        refine lv_aload_n (pc := 73) hx hb dX8_breaksAt_73 rfl (lv_at hl 1 rfl) ?_
        refine fget (pc := 74) (v := .ref (a 4)) hx hb hts hown hE hP fl_X8_16 0 rfl rfl dX8_breaksAt_74 ?_
        refine lv_iload_n (pc := 77) hx hb dX8_breaksAt_77 rfl (lv_at hl 0 rfl) ?_
        refine aldX (pc := 78) hx hb hE hP 3 rfl (okP_in hok hn5 hi c_1) dX8_breaksAt_78 ?_
        refine rV (pc := 79) (rest := []) ⟨hx, hb, hml, hown, hts⟩ (k_X8_hasCast (x := (nI i) - 1) (cast := (r 4) (ix ((r 8) i))) (hok := (by first | assumption | omega)) (hn5 := (by first | assumption | omega))) cw_X8_146 ⟨(Nat.le_of_ble_eq_true rfl), (Nat.le_of_ble_eq_true rfl)⟩ hE hS hP rfl rfl rfl rfl hl.1 rfl (Nat.le_of_ble_eq_true rfl) dX8_breaksAt_79 ⟨Nat.le_refl _, Nat.le_refl _⟩ ?_
        refine W.eq (g2 := F0 m 82 ls [.int (bi (hasC ((r 4)) ((r 8)) ((nI i) - 1) ((r 4) (ix ((r 8) i)))))]) rfl ?_
        refine bif_eq (pc := 82) (tgt := 103) hx hb dX8_breaksAt_82 (by decide) (fun c_18 => ?_) (fun c_18 => ?_)
        · skip
          exact jn_5 (fun q => c_18 q.1)
        · skip
          refine lv_aload_n (pc := 85) hx hb dX8_breaksAt_85 rfl (lv_at hl 1 rfl) ?_
          refine lv_iload_n (pc := 86) hx hb dX8_breaksAt_86 rfl (lv_at hl 2 rfl) ?_
          refine lv_iconst (pc := 87) (v := 2) hx hb dX8_breaksAt_87 (by decide) ?_
          refine lv_isub (pc := 88) hx hb dX8_breaksAt_88 ?_
          refine lv_aload_n (pc := 89) hx hb dX8_breaksAt_89 rfl (lv_at hl 1 rfl) ?_
          refine fget (pc := 90) (v := .ref (a 4)) hx hb hts hown hE hP fl_X8_16 0 rfl rfl dX8_breaksAt_90 ?_
          refine lv_iload_n (pc := 93) hx hb dX8_breaksAt_93 rfl (lv_at hl 0 rfl) ?_
          refine aldX (pc := 94) hx hb hE hP 3 rfl (okP_in hok hn5 hi c_1) dX8_breaksAt_94 ?_
          refine rV (pc := 95) (rest := []) ⟨hx, hb, hml, hown, hts⟩ (k_X8_hasCast (x := (nI i) - 2) (cast := (r 4) (ix ((r 8) i))) (hok := (by first | assumption | omega)) (hn5 := (by first | assumption | omega))) cw_X8_146 ⟨(Nat.le_of_ble_eq_true rfl), (Nat.le_of_ble_eq_true rfl)⟩ hE hS hP rfl rfl rfl rfl hl.1 rfl (Nat.le_of_ble_eq_true rfl) dX8_breaksAt_95 ⟨Nat.le_refl _, Nat.le_refl _⟩ ?_
          refine W.eq (g2 := F0 m 98 ls [.int (bi (hasC ((r 4)) ((r 8)) ((nI i) - 2) ((r 4) (ix ((r 8) i)))))]) rfl ?_
          refine bif_eq (pc := 98) (tgt := 103) hx hb dX8_breaksAt_98 (by decide) (fun c_19 => ?_) (fun c_19 => ?_)
          · skip
            exact jn_5 (fun q => c_19 q.2)
          · skip
            refine lv_iconst (pc := 101) (v := 3) hx hb dX8_breaksAt_101 (by decide) ?_
            rw [hQ]; exact W.iret (pc := 102) hx hb hr (fun t ht _ => ⟨retI (by unfold brk; rw [if_neg c_1, if_neg (fun q => q c_2), if_neg cj_4, if_pos ⟨c_18, c_19⟩]), ht⟩) (fun _ h => nomatch h) dX8_breaksAt_102 hlocks
      refine lv_aload_n (pc := 35) hx hb dX8_breaksAt_35 rfl (lv_at hl 1 rfl) ?_
      refine lv_iload_n (pc := 36) hx hb dX8_breaksAt_36 rfl (lv_at hl 2 rfl) ?_
      refine lv_iconst (pc := 37) (v := 1) hx hb dX8_breaksAt_37 (by decide) ?_
      refine lv_isub (pc := 38) hx hb dX8_breaksAt_38 ?_
      refine rV (pc := 39) (rest := []) ⟨hx, hb, hml, hown, hts⟩ (k_X8_on (n := (nI i) - 1)) cw_X8_143 ⟨(Nat.le_of_ble_eq_true rfl), (Nat.le_of_ble_eq_true rfl)⟩ hE hS hP rfl rfl rfl rfl hl.1 rfl (Nat.le_of_ble_eq_true rfl) dX8_breaksAt_39 ⟨Nat.le_refl _, Nat.le_refl _⟩ ?_
      refine W.eq (g2 := F0 m 42 ls [.int (rOn ((r 8)) ((nI i) - 1))]) rfl ?_
      refine lv_iconst (pc := 42) (v := (-1)) hx hb dX8_breaksAt_42 (by decide) ?_
      refine lv_icmp_eq (pc := 43) (tgt := 69) hx hb dX8_breaksAt_43 (by decide) (fun c_20 => ?_) (fun c_20 => ?_)
      · skip
        exact jn_3 (fun q => q.1 c_20)
      · skip
        refine lv_aload_n (pc := 46) hx hb dX8_breaksAt_46 rfl (lv_at hl 1 rfl) ?_
        refine fget (pc := 47) (v := .ref (a 3)) hx hb hts hown hE hP fl_X8_13 0 rfl rfl dX8_breaksAt_47 ?_
        refine lv_aload_n (pc := 50) hx hb dX8_breaksAt_50 rfl (lv_at hl 1 rfl) ?_
        refine lv_iload_n (pc := 51) hx hb dX8_breaksAt_51 rfl (lv_at hl 2 rfl) ?_
        refine lv_iconst (pc := 52) (v := 1) hx hb dX8_breaksAt_52 (by decide) ?_
        refine lv_isub (pc := 53) hx hb dX8_breaksAt_53 ?_
        refine rV (pc := 54) (rest := [.ref (a 3)]) ⟨hx, hb, hml, hown, hts⟩ (k_X8_on (n := (nI i) - 1)) cw_X8_143 ⟨(Nat.le_of_ble_eq_true rfl), (Nat.le_of_ble_eq_true rfl)⟩ hE hS hP rfl rfl rfl rfl hl.1 rfl (Nat.le_of_ble_eq_true rfl) dX8_breaksAt_54 ⟨Nat.le_refl _, Nat.le_refl _⟩ ?_
        refine W.eq (g2 := F0 m 57 ls [.int (rOn ((r 8)) ((nI i) - 1)), .ref (a 3)]) rfl ?_
        refine aldX (pc := 57) hx hb hE hP 2 rfl (rOn_in hok hn5 c_20) dX8_breaksAt_57 ?_
        refine lv_aload_n (pc := 58) hx hb dX8_breaksAt_58 rfl (lv_at hl 1 rfl) ?_
        refine fget (pc := 59) (v := .ref (a 3)) hx hb hts hown hE hP fl_X8_13 0 rfl rfl dX8_breaksAt_59 ?_
        refine lv_iload_n (pc := 62) hx hb dX8_breaksAt_62 rfl (lv_at hl 0 rfl) ?_
        refine aldX (pc := 63) hx hb hE hP 2 rfl (okP_in hok hn5 hi c_1) dX8_breaksAt_63 ?_
        refine lv_icmp_eq (pc := 64) (tgt := 69) hx hb dX8_breaksAt_64 (by decide) (fun c_21 => ?_) (fun c_21 => ?_)
        · skip
          exact jn_3 (fun q => q.2 c_21)
        · skip
          refine lv_iconst (pc := 67) (v := 2) hx hb dX8_breaksAt_67 (by decide) ?_
          rw [hQ]; exact W.iret (pc := 68) hx hb hr (fun t ht _ => ⟨retI (by unfold brk; rw [if_neg c_1, if_neg (fun q => q c_2), if_pos ⟨c_20, c_21⟩]), ht⟩) (fun _ h => nomatch h) dX8_breaksAt_68 hlocks
    · skip
      refine lv_iconst (pc := 33) (v := 1) hx hb dX8_breaksAt_33 (by decide) ?_
      rw [hQ]; exact W.iret (pc := 34) hx hb hr (fun t ht _ => ⟨retI (by unfold brk; rw [if_neg c_1, if_pos c_2]), ht⟩) (fun _ h => nomatch h) dX8_breaksAt_34 hlocks
  · skip
    refine lv_iconst (pc := 12) (v := 0) hx hb dX8_breaksAt_12 (by decide) ?_
    rw [hQ]; exact W.iret (pc := 13) hx hb hr (fun t ht _ => ⟨retI (by unfold brk; rw [if_pos c_1]), ht⟩) (fun _ h => nomatch h) dX8_breaksAt_13 hlocks
set_option maxRecDepth 100000 in
set_option maxHeartbeats 4000000 in
theorem k_X8_draws {o : Nat} {a : Nat → Nat} {z : Nat → Int32} {g : Nat → Int64} {r : Nat → Nat → Int32} (x : Int32) (t : Int32) {n : Nat} (hok : okP n (r 8)) (hn5 : n ≤ 5) : MR l yX8_draws cX8_draws 3 (some .boolean) 3 63 D kB kI kT ks sk sv [.ref o, .int x, .int t] (wR kB kI o a z g r) (some (.int (bi (draws (r 2) (r 8) x t)))) := by
  refine MR.go (by decide +kernel) (Nat.le_of_ble_eq_true rfl) ?_
  intro p e s m below meth c0 args Q ls hQ hx hb hr hml hown hts hlocks hE hP hS hl
  have hl : lv_has ls 3 [(0, .ref o), (1, .int x), (2, .int t)] := hl
  have hown : s.vm.findClass RX8 = some m.cls := hown
  refine lv_aload_n (pc := 0) hx hb dX8_draws_0 rfl (lv_at hl 0 rfl) ?_
  refine lv_iload_n (pc := 1) hx hb dX8_draws_1 rfl (lv_at hl 1 rfl) ?_
  refine rV (pc := 2) (rest := []) ⟨hx, hb, hml, hown, hts⟩ (k_X8_on (n := x)) cw_X8_143 ⟨(Nat.le_of_ble_eq_true rfl), (Nat.le_of_ble_eq_true rfl)⟩ hE hS hP rfl rfl rfl rfl hl.1 rfl (Nat.le_of_ble_eq_true rfl) dX8_draws_2 ⟨Nat.le_refl _, Nat.le_refl _⟩ ?_
  refine W.eq (g2 := F0 m 5 ls [.int (rOn ((r 8)) x)]) rfl ?_
  refine lv_iconst (pc := 5) (v := (-1)) hx hb dX8_draws_5 (by decide) ?_
  refine lv_icmp_eq (pc := 6) (tgt := 36) hx hb dX8_draws_6 (by decide) (fun c_1 => ?_) (fun c_1 => ?_)
  · skip
    refine lv_iconst (pc := 36) (v := 0) hx hb dX8_draws_36 (by decide) ?_
    rw [hQ]; exact W.zret (pc := 37) hx hb hr rfl (fun t ht _ => ⟨retI (bi_f (fun q => q.1 c_1)), ht⟩) (fun _ h => nomatch h) dX8_draws_37 hlocks
  · skip
    refine lv_aload_n (pc := 9) hx hb dX8_draws_9 rfl (lv_at hl 0 rfl) ?_
    refine lv_iload_n (pc := 10) hx hb dX8_draws_10 rfl (lv_at hl 1 rfl) ?_
    refine rV (pc := 11) (rest := []) ⟨hx, hb, hml, hown, hts⟩ (k_X8_on (n := x)) cw_X8_143 ⟨(Nat.le_of_ble_eq_true rfl), (Nat.le_of_ble_eq_true rfl)⟩ hE hS hP rfl rfl rfl rfl hl.1 rfl (Nat.le_of_ble_eq_true rfl) dX8_draws_11 ⟨Nat.le_refl _, Nat.le_refl _⟩ ?_
    refine W.eq (g2 := F0 m 14 ls [.int (rOn ((r 8)) x)]) rfl ?_
    refine lv_iload_n (pc := 14) hx hb dX8_draws_14 rfl (lv_at hl 2 rfl) ?_
    refine lv_icmp_eq (pc := 15) (tgt := 36) hx hb dX8_draws_15 (by decide) (fun c_2 => ?_) (fun c_2 => ?_)
    · skip
      refine lv_iconst (pc := 36) (v := 0) hx hb dX8_draws_36 (by decide) ?_
      rw [hQ]; exact W.zret (pc := 37) hx hb hr rfl (fun t ht _ => ⟨retI (bi_f (fun q => q.2.1 c_2)), ht⟩) (fun _ h => nomatch h) dX8_draws_37 hlocks
    · skip
      refine lv_aload_n (pc := 18) hx hb dX8_draws_18 rfl (lv_at hl 0 rfl) ?_
      refine fget (pc := 19) (v := .ref (a 2)) hx hb hts hown hE hP fl_X8_7 0 rfl rfl dX8_draws_19 ?_
      refine lv_aload_n (pc := 22) hx hb dX8_draws_22 rfl (lv_at hl 0 rfl) ?_
      refine lv_iload_n (pc := 23) hx hb dX8_draws_23 rfl (lv_at hl 1 rfl) ?_
      refine rV (pc := 24) (rest := [.ref (a 2)]) ⟨hx, hb, hml, hown, hts⟩ (k_X8_on (n := x)) cw_X8_143 ⟨(Nat.le_of_ble_eq_true rfl), (Nat.le_of_ble_eq_true rfl)⟩ hE hS hP rfl rfl rfl rfl hl.1 rfl (Nat.le_of_ble_eq_true rfl) dX8_draws_24 ⟨Nat.le_refl _, Nat.le_refl _⟩ ?_
      refine W.eq (g2 := F0 m 27 ls [.int (rOn ((r 8)) x), .ref (a 2)]) rfl ?_
      refine aldX (pc := 27) hx hb hE hP 1 rfl (rOn_in hok hn5 c_1) dX8_draws_27 ?_
      refine lv_iconst (pc := 28) (v := 4) hx hb dX8_draws_28 (by decide) ?_
      refine lv_icmp_ne (pc := 29) (tgt := 36) hx hb dX8_draws_29 (by decide) (fun c_3 => ?_) (fun c_3 => ?_)
      · skip
        refine lv_iconst (pc := 36) (v := 0) hx hb dX8_draws_36 (by decide) ?_
        rw [hQ]; exact W.zret (pc := 37) hx hb hr rfl (fun t ht _ => ⟨retI (bi_f (fun q => c_3 q.2.2)), ht⟩) (fun _ h => nomatch h) dX8_draws_37 hlocks
      · skip
        refine lv_iconst (pc := 32) (v := 1) hx hb dX8_draws_32 (by decide) ?_
        refine lv_goto (pc := 33) (tgt := 37) hx hb dX8_draws_33 (by decide) ?_
        rw [hQ]; exact W.zret (pc := 37) hx hb hr rfl (fun t ht _ => ⟨retI (bi_t ⟨c_1, c_2, c_3⟩), ht⟩) (fun _ h => nomatch h) dX8_draws_37 hlocks
set_option maxRecDepth 100000 in
set_option maxHeartbeats 4000000 in
theorem k_X8_seatsAt {o : Nat} {a : Nat → Nat} {z : Nat → Int32} {g : Nat → Int64} {r : Nat → Nat → Int32} (i : Nat) {n : Nat} (hok : okP n (r 8)) (hn5 : n ≤ 5) (hi : i < 12) : MR l yX8_seatsAt cX8_seatsAt 6 (some .int) 4 85 D kB kI kT ks sk sv [.ref o, .int (nI i)] (wR kB kI o a z g r) (some (.int (sts (r 2) (r 7) (r 8) i))) := by
  refine MR.go (by decide +kernel) (Nat.le_of_ble_eq_true rfl) ?_
  intro p e s m below meth c0 args Q ls hQ hx hb hr hml hown hts hlocks hE hP hS hl
  have hl : lv_has ls 6 [(0, .ref o), (1, .int (nI i))] := hl
  have hown : s.vm.findClass RX8 = some m.cls := hown
  refine lv_aload_n (pc := 0) hx hb dX8_seatsAt_0 rfl (lv_at hl 0 rfl) ?_
  refine fget (pc := 1) (v := .ref (a 8)) hx hb hts hown hE hP fl_X8_28 0 rfl rfl dX8_seatsAt_1 ?_
  refine lv_iload_n (pc := 4) hx hb dX8_seatsAt_4 rfl (lv_at hl 1 rfl) ?_
  refine aldN (pc := 5) hx hb hE hP 7 rfl (i) (by omega) (by omega) dX8_seatsAt_5 ?_
  refine lv_istore_n (pc := 6) (lv' := [(2, .int ((r 8) i)), (0, .ref o), (1, .int (nI i))]) hx hb dX8_seatsAt_6 rfl hl (by decide) rfl (fun ls hl => ?_)
  refine lv_iload_n (pc := 7) hx hb dX8_seatsAt_7 rfl (lv_at hl 0 rfl) ?_
  refine lv_iconst (pc := 8) (v := (-1)) hx hb dX8_seatsAt_8 (by decide) ?_
  refine lv_icmp_ne (pc := 9) (tgt := 14) hx hb dX8_seatsAt_9 (by decide) (fun c_1 => ?_) (fun c_1 => ?_)
  · skip
    refine lv_bipush (pc := 14) (v := 100) hx hb dX8_seatsAt_14 (by decide) ?_
    refine lv_aload_n (pc := 16) hx hb dX8_seatsAt_16 rfl (lv_at hl 1 rfl) ?_
    refine fget (pc := 17) (v := .ref (a 7)) hx hb hts hown hE hP fl_X8_25 0 rfl rfl dX8_seatsAt_17 ?_
    refine lv_iload_n (pc := 20) hx hb dX8_seatsAt_20 rfl (lv_at hl 0 rfl) ?_
    refine aldX (pc := 21) hx hb hE hP 6 rfl (okP_in hok hn5 hi c_1) dX8_seatsAt_21 ?_
    refine lv_imul (pc := 22) hx hb dX8_seatsAt_22 ?_
    refine lv_istore_n (pc := 23) (lv' := [(3, .int (100 * ((r 7) (ix ((r 8) i))))), (2, .int ((r 8) i)), (0, .ref o), (1, .int (nI i))]) hx hb dX8_seatsAt_23 rfl hl (by decide) rfl (fun ls hl => ?_)
    refine lv_aload_n (pc := 24) hx hb dX8_seatsAt_24 rfl (lv_at hl 2 rfl) ?_
    refine lv_iload_n (pc := 25) hx hb dX8_seatsAt_25 rfl (lv_at hl 1 rfl) ?_
    refine lv_iload_n (pc := 26) hx hb dX8_seatsAt_26 rfl (lv_at hl 3 rfl) ?_
    refine rV (pc := 27) (rest := []) ⟨hx, hb, hml, hown, hts⟩ (k_X8_nightsOf (t := (r 8) i) (b := i) (hb12 := (by omega))) cw_X8_153 ⟨(Nat.le_of_ble_eq_true rfl), (Nat.le_of_ble_eq_true rfl)⟩ hE hS hP rfl rfl rfl rfl hl.1 rfl (Nat.le_of_ble_eq_true rfl) dX8_seatsAt_27 ⟨Nat.le_refl _, Nat.le_refl _⟩ ?_
    refine W.eq (g2 := F0 m 30 ls [.int (nI (nOf ((r 8)) ((r 8) i) i))]) rfl ?_
    have hnb : nOf (r 8) (r 8 i) i ≤ i := cntP_le _ _
    refine lv_istore (pc := 30) (lv' := [(4, .int (nI (nOf ((r 8)) ((r 8) i) i))), (3, .int (100 * ((r 7) (ix ((r 8) i))))), (2, .int ((r 8) i)), (0, .ref o), (1, .int (nI i))]) hx hb dX8_seatsAt_30 hl (by decide) rfl (fun ls hl => ?_)
    refine lv_iconst (pc := 32) (v := 0) hx hb dX8_seatsAt_32 (by decide) ?_
    refine lv_istore (pc := 33) (lv' := [(5, .int 0), (4, .int (nI (nOf ((r 8)) ((r 8) i) i))), (3, .int (100 * ((r 7) (ix ((r 8) i))))), (2, .int ((r 8) i)), (0, .ref o), (1, .int (nI i))]) hx hb dX8_seatsAt_33 hl (by decide) rfl (fun ls hl => ?_)
    have lp_2 : ∀ (fuel : Nat) (k : Nat), 3 - k < fuel → k ≤ 3 → k ≤ nOf (r 8) (r 8 i) i → ∀ (ls : Array Slot), lv_has ls 6 [(0, .ref o), (1, .int (nI i)), (2, .int (r 8 i)), (3, .int (fade (100 * r 7 (ix (r 8 i))) k)), (4, .int (nI (nOf (r 8) (r 8 i) i))), (5, .int (nI k))] → W p l e (rmO 4 85) s m args below meth c0 s.heap [] 0 0 Q (F0 m 35 ls []) := by
      intro fuel
      induction fuel with
      | zero => intro k hfuel; exact absurd hfuel (Nat.not_lt_zero _)
      | succ fuel ih_lp_2 =>
        intro k hfuel hk hk2 ls hl
        refine lv_iload (pc := 35) hx hb dX8_seatsAt_35 (lv_at hl 5 rfl) ?_
        refine lv_iload (pc := 37) hx hb dX8_seatsAt_37 (lv_at hl 4 rfl) ?_
        refine lv_icmp_ge (pc := 39) (tgt := 62) hx hb dX8_seatsAt_39 (by decide) (fun c_3 => ?_) (fun c_3 => ?_)
        · skip
          have c_3n : (nOf (r 8) (r 8 i) i) ≤ k := (nI_leI (a := nOf (r 8) (r 8 i) i) (b := k) (by omega) (by omega)).mp c_3
          have hk3 : min (nOf (r 8) (r 8 i) i) 3 = k := by omega
          refine lv_aload_n (pc := 62) hx hb dX8_seatsAt_62 rfl (lv_at hl 0 rfl) ?_
          refine lv_iload_n (pc := 63) hx hb dX8_seatsAt_63 rfl (lv_at hl 2 rfl) ?_
          refine rV (pc := 64) (rest := []) ⟨hx, hb, hml, hown, hts⟩ (k_X8_isGala (t := r 8 i) (ht := okP_in hok hn5 hi c_1)) cw_X8_150 ⟨(Nat.le_of_ble_eq_true rfl), (Nat.le_of_ble_eq_true rfl)⟩ hE hS hP rfl rfl rfl rfl hl.1 rfl (Nat.le_of_ble_eq_true rfl) dX8_seatsAt_64 ⟨Nat.le_refl _, Nat.le_refl _⟩ ?_
          refine W.eq (g2 := F0 m 67 ls [.int (bi (isG ((r 2) (ix (r 8 i)))))]) rfl ?_
          refine bif_eq (pc := 67) (tgt := 78) hx hb dX8_seatsAt_67 (by decide) (fun c_4 => ?_) (fun c_4 => ?_)
          · skip
            refine lv_iload_n (pc := 78) hx hb dX8_seatsAt_78 rfl (lv_at hl 3 rfl) ?_
            refine lv_istore_n (pc := 79) (lv' := [(3, .int (fade (100 * r 7 (ix (r 8 i))) k)), (0, .ref o), (1, .int (nI i)), (2, .int (r 8 i)), (4, .int (nI (nOf (r 8) (r 8 i) i))), (5, .int (nI k))]) hx hb dX8_seatsAt_79 rfl hl (by decide) rfl (fun ls hl => ?_)
            refine lv_aload_n (pc := 80) hx hb dX8_seatsAt_80 rfl (lv_at hl 1 rfl) ?_
            refine lv_iload_n (pc := 81) hx hb dX8_seatsAt_81 rfl (lv_at hl 2 rfl) ?_
            refine lv_iconst (pc := 82) (v := 1) hx hb dX8_seatsAt_82 (by decide) ?_
            refine lv_isub (pc := 83) hx hb dX8_seatsAt_83 ?_
            refine lv_iload_n (pc := 84) hx hb dX8_seatsAt_84 rfl (lv_at hl 3 rfl) ?_
            refine rV (pc := 85) (rest := []) ⟨hx, hb, hml, hown, hts⟩ (k_X8_draws (x := (nI i) - 1) (t := r 8 i) (hok := (by first | assumption | omega)) (hn5 := (by first | assumption | omega))) cw_X8_160 ⟨(Nat.le_of_ble_eq_true rfl), (Nat.le_of_ble_eq_true rfl)⟩ hE hS hP rfl rfl rfl rfl hl.1 rfl (Nat.le_of_ble_eq_true rfl) dX8_seatsAt_85 ⟨Nat.le_refl _, Nat.le_refl _⟩ ?_
            refine W.eq (g2 := F0 m 88 ls [.int (bi (draws ((r 2)) ((r 8)) ((nI i) - 1) (r 8 i)))]) rfl ?_
            refine bif_ne (pc := 88) (tgt := 102) hx hb dX8_seatsAt_88 (by decide) (fun c_5 => ?_) (fun c_5 => ?_)
            · skip
              refine lv_iload_n (pc := 102) hx hb dX8_seatsAt_102 rfl (lv_at hl 0 rfl) ?_
              refine lv_bipush (pc := 103) (v := 50) hx hb dX8_seatsAt_103 (by decide) ?_
              refine lv_iadd (pc := 105) hx hb dX8_seatsAt_105 ?_
              refine lv_goto (pc := 106) (tgt := 110) hx hb dX8_seatsAt_106 (by decide) ?_
              rw [hQ]; exact W.iret (pc := 110) hx hb hr (fun t ht _ => ⟨retI (by unfold sts; rw [hk3, if_neg c_1, if_pos (Or.inl c_5), if_neg c_4]), ht⟩) (fun _ h => nomatch h) dX8_seatsAt_110 hlocks
            · skip
              refine lv_aload_n (pc := 91) hx hb dX8_seatsAt_91 rfl (lv_at hl 1 rfl) ?_
              refine lv_iload_n (pc := 92) hx hb dX8_seatsAt_92 rfl (lv_at hl 2 rfl) ?_
              refine lv_iconst (pc := 93) (v := 1) hx hb dX8_seatsAt_93 (by decide) ?_
              refine iaddV (pc := 94) (v := nI (i + 1)) hx hb dX8_seatsAt_94 (nI_add (i) (1)) ?_
              refine lv_iload_n (pc := 95) hx hb dX8_seatsAt_95 rfl (lv_at hl 3 rfl) ?_
              refine rV (pc := 96) (rest := []) ⟨hx, hb, hml, hown, hts⟩ (k_X8_draws (x := nI (i + 1)) (t := r 8 i) (hok := (by first | assumption | omega)) (hn5 := (by first | assumption | omega))) cw_X8_160 ⟨(Nat.le_of_ble_eq_true rfl), (Nat.le_of_ble_eq_true rfl)⟩ hE hS hP rfl rfl rfl rfl hl.1 rfl (Nat.le_of_ble_eq_true rfl) dX8_seatsAt_96 ⟨Nat.le_refl _, Nat.le_refl _⟩ ?_
              refine W.eq (g2 := F0 m 99 ls [.int (bi (draws ((r 2)) ((r 8)) (nI (i + 1)) (r 8 i)))]) rfl ?_
              refine bif_eq (pc := 99) (tgt := 109) hx hb dX8_seatsAt_99 (by decide) (fun c_6 => ?_) (fun c_6 => ?_)
              · skip
                refine lv_iload_n (pc := 109) hx hb dX8_seatsAt_109 rfl (lv_at hl 0 rfl) ?_
                rw [hQ]; exact W.iret (pc := 110) hx hb hr (fun t ht _ => ⟨retI (by unfold sts; rw [hk3, if_neg c_1, if_neg (fun q => q.elim c_5 c_6), if_neg c_4]), ht⟩) (fun _ h => nomatch h) dX8_seatsAt_110 hlocks
              · skip
                refine lv_iload_n (pc := 102) hx hb dX8_seatsAt_102 rfl (lv_at hl 0 rfl) ?_
                refine lv_bipush (pc := 103) (v := 50) hx hb dX8_seatsAt_103 (by decide) ?_
                refine lv_iadd (pc := 105) hx hb dX8_seatsAt_105 ?_
                refine lv_goto (pc := 106) (tgt := 110) hx hb dX8_seatsAt_106 (by decide) ?_
                rw [hQ]; exact W.iret (pc := 110) hx hb hr (fun t ht _ => ⟨retI (by unfold sts; rw [hk3, if_neg c_1, if_pos (Or.inr c_6), if_neg c_4]), ht⟩) (fun _ h => nomatch h) dX8_seatsAt_110 hlocks
          · skip
            refine lv_iconst (pc := 70) (v := 3) hx hb dX8_seatsAt_70 (by decide) ?_
            refine lv_iload_n (pc := 71) hx hb dX8_seatsAt_71 rfl (lv_at hl 3 rfl) ?_
            refine lv_imul (pc := 72) hx hb dX8_seatsAt_72 ?_
            refine lv_iconst (pc := 73) (v := 2) hx hb dX8_seatsAt_73 (by decide) ?_
            refine lv_idiv (pc := 74) hx hb dX8_seatsAt_74 (by decide) ?_
            refine lv_goto (pc := 75) (tgt := 79) hx hb dX8_seatsAt_75 (by decide) ?_
            refine lv_istore_n (pc := 79) (lv' := [(3, .int ((3 * (fade (100 * r 7 (ix (r 8 i))) k)) / 2)), (0, .ref o), (1, .int (nI i)), (2, .int (r 8 i)), (4, .int (nI (nOf (r 8) (r 8 i) i))), (5, .int (nI k))]) hx hb dX8_seatsAt_79 rfl hl (by decide) rfl (fun ls hl => ?_)
            refine lv_aload_n (pc := 80) hx hb dX8_seatsAt_80 rfl (lv_at hl 1 rfl) ?_
            refine lv_iload_n (pc := 81) hx hb dX8_seatsAt_81 rfl (lv_at hl 2 rfl) ?_
            refine lv_iconst (pc := 82) (v := 1) hx hb dX8_seatsAt_82 (by decide) ?_
            refine lv_isub (pc := 83) hx hb dX8_seatsAt_83 ?_
            refine lv_iload_n (pc := 84) hx hb dX8_seatsAt_84 rfl (lv_at hl 3 rfl) ?_
            refine rV (pc := 85) (rest := []) ⟨hx, hb, hml, hown, hts⟩ (k_X8_draws (x := (nI i) - 1) (t := r 8 i) (hok := (by first | assumption | omega)) (hn5 := (by first | assumption | omega))) cw_X8_160 ⟨(Nat.le_of_ble_eq_true rfl), (Nat.le_of_ble_eq_true rfl)⟩ hE hS hP rfl rfl rfl rfl hl.1 rfl (Nat.le_of_ble_eq_true rfl) dX8_seatsAt_85 ⟨Nat.le_refl _, Nat.le_refl _⟩ ?_
            refine W.eq (g2 := F0 m 88 ls [.int (bi (draws ((r 2)) ((r 8)) ((nI i) - 1) (r 8 i)))]) rfl ?_
            refine bif_ne (pc := 88) (tgt := 102) hx hb dX8_seatsAt_88 (by decide) (fun c_7 => ?_) (fun c_7 => ?_)
            · skip
              refine lv_iload_n (pc := 102) hx hb dX8_seatsAt_102 rfl (lv_at hl 0 rfl) ?_
              refine lv_bipush (pc := 103) (v := 50) hx hb dX8_seatsAt_103 (by decide) ?_
              refine lv_iadd (pc := 105) hx hb dX8_seatsAt_105 ?_
              refine lv_goto (pc := 106) (tgt := 110) hx hb dX8_seatsAt_106 (by decide) ?_
              rw [hQ]; exact W.iret (pc := 110) hx hb hr (fun t ht _ => ⟨retI (by unfold sts; rw [hk3, if_neg c_1, if_pos (Or.inl c_7), if_pos c_4]), ht⟩) (fun _ h => nomatch h) dX8_seatsAt_110 hlocks
            · skip
              refine lv_aload_n (pc := 91) hx hb dX8_seatsAt_91 rfl (lv_at hl 1 rfl) ?_
              refine lv_iload_n (pc := 92) hx hb dX8_seatsAt_92 rfl (lv_at hl 2 rfl) ?_
              refine lv_iconst (pc := 93) (v := 1) hx hb dX8_seatsAt_93 (by decide) ?_
              refine iaddV (pc := 94) (v := nI (i + 1)) hx hb dX8_seatsAt_94 (nI_add (i) (1)) ?_
              refine lv_iload_n (pc := 95) hx hb dX8_seatsAt_95 rfl (lv_at hl 3 rfl) ?_
              refine rV (pc := 96) (rest := []) ⟨hx, hb, hml, hown, hts⟩ (k_X8_draws (x := nI (i + 1)) (t := r 8 i) (hok := (by first | assumption | omega)) (hn5 := (by first | assumption | omega))) cw_X8_160 ⟨(Nat.le_of_ble_eq_true rfl), (Nat.le_of_ble_eq_true rfl)⟩ hE hS hP rfl rfl rfl rfl hl.1 rfl (Nat.le_of_ble_eq_true rfl) dX8_seatsAt_96 ⟨Nat.le_refl _, Nat.le_refl _⟩ ?_
              refine W.eq (g2 := F0 m 99 ls [.int (bi (draws ((r 2)) ((r 8)) (nI (i + 1)) (r 8 i)))]) rfl ?_
              refine bif_eq (pc := 99) (tgt := 109) hx hb dX8_seatsAt_99 (by decide) (fun c_8 => ?_) (fun c_8 => ?_)
              · skip
                refine lv_iload_n (pc := 109) hx hb dX8_seatsAt_109 rfl (lv_at hl 0 rfl) ?_
                rw [hQ]; exact W.iret (pc := 110) hx hb hr (fun t ht _ => ⟨retI (by unfold sts; rw [hk3, if_neg c_1, if_neg (fun q => q.elim c_7 c_8), if_pos c_4]), ht⟩) (fun _ h => nomatch h) dX8_seatsAt_110 hlocks
              · skip
                refine lv_iload_n (pc := 102) hx hb dX8_seatsAt_102 rfl (lv_at hl 0 rfl) ?_
                refine lv_bipush (pc := 103) (v := 50) hx hb dX8_seatsAt_103 (by decide) ?_
                refine lv_iadd (pc := 105) hx hb dX8_seatsAt_105 ?_
                refine lv_goto (pc := 106) (tgt := 110) hx hb dX8_seatsAt_106 (by decide) ?_
                rw [hQ]; exact W.iret (pc := 110) hx hb hr (fun t ht _ => ⟨retI (by unfold sts; rw [hk3, if_neg c_1, if_pos (Or.inr c_8), if_pos c_4]), ht⟩) (fun _ h => nomatch h) dX8_seatsAt_110 hlocks
        · skip
          have c_3n : ¬ (nOf (r 8) (r 8 i) i) ≤ k := fun hh => c_3 ((nI_leI (a := nOf (r 8) (r 8 i) i) (b := k) (by omega) (by omega)).mpr hh)
          refine lv_iload (pc := 42) hx hb dX8_seatsAt_42 (lv_at hl 5 rfl) ?_
          refine lv_iconst (pc := 44) (v := 3) hx hb dX8_seatsAt_44 (by decide) ?_
          refine lv_icmp_ge (pc := 45) (tgt := 62) hx hb dX8_seatsAt_45 (by decide) (fun c_9 => ?_) (fun c_9 => ?_)
          · skip
            have c_9n : 3 ≤ k := (nI_leI (a := 3) (b := k) (by omega) (by omega)).mp c_9
            have hk3 : min (nOf (r 8) (r 8 i) i) 3 = k := by omega
            refine lv_aload_n (pc := 62) hx hb dX8_seatsAt_62 rfl (lv_at hl 0 rfl) ?_
            refine lv_iload_n (pc := 63) hx hb dX8_seatsAt_63 rfl (lv_at hl 2 rfl) ?_
            refine rV (pc := 64) (rest := []) ⟨hx, hb, hml, hown, hts⟩ (k_X8_isGala (t := r 8 i) (ht := okP_in hok hn5 hi c_1)) cw_X8_150 ⟨(Nat.le_of_ble_eq_true rfl), (Nat.le_of_ble_eq_true rfl)⟩ hE hS hP rfl rfl rfl rfl hl.1 rfl (Nat.le_of_ble_eq_true rfl) dX8_seatsAt_64 ⟨Nat.le_refl _, Nat.le_refl _⟩ ?_
            refine W.eq (g2 := F0 m 67 ls [.int (bi (isG ((r 2) (ix (r 8 i)))))]) rfl ?_
            refine bif_eq (pc := 67) (tgt := 78) hx hb dX8_seatsAt_67 (by decide) (fun c_10 => ?_) (fun c_10 => ?_)
            · skip
              refine lv_iload_n (pc := 78) hx hb dX8_seatsAt_78 rfl (lv_at hl 3 rfl) ?_
              refine lv_istore_n (pc := 79) (lv' := [(3, .int (fade (100 * r 7 (ix (r 8 i))) k)), (0, .ref o), (1, .int (nI i)), (2, .int (r 8 i)), (4, .int (nI (nOf (r 8) (r 8 i) i))), (5, .int (nI k))]) hx hb dX8_seatsAt_79 rfl hl (by decide) rfl (fun ls hl => ?_)
              refine lv_aload_n (pc := 80) hx hb dX8_seatsAt_80 rfl (lv_at hl 1 rfl) ?_
              refine lv_iload_n (pc := 81) hx hb dX8_seatsAt_81 rfl (lv_at hl 2 rfl) ?_
              refine lv_iconst (pc := 82) (v := 1) hx hb dX8_seatsAt_82 (by decide) ?_
              refine lv_isub (pc := 83) hx hb dX8_seatsAt_83 ?_
              refine lv_iload_n (pc := 84) hx hb dX8_seatsAt_84 rfl (lv_at hl 3 rfl) ?_
              refine rV (pc := 85) (rest := []) ⟨hx, hb, hml, hown, hts⟩ (k_X8_draws (x := (nI i) - 1) (t := r 8 i) (hok := (by first | assumption | omega)) (hn5 := (by first | assumption | omega))) cw_X8_160 ⟨(Nat.le_of_ble_eq_true rfl), (Nat.le_of_ble_eq_true rfl)⟩ hE hS hP rfl rfl rfl rfl hl.1 rfl (Nat.le_of_ble_eq_true rfl) dX8_seatsAt_85 ⟨Nat.le_refl _, Nat.le_refl _⟩ ?_
              refine W.eq (g2 := F0 m 88 ls [.int (bi (draws ((r 2)) ((r 8)) ((nI i) - 1) (r 8 i)))]) rfl ?_
              refine bif_ne (pc := 88) (tgt := 102) hx hb dX8_seatsAt_88 (by decide) (fun c_11 => ?_) (fun c_11 => ?_)
              · skip
                refine lv_iload_n (pc := 102) hx hb dX8_seatsAt_102 rfl (lv_at hl 0 rfl) ?_
                refine lv_bipush (pc := 103) (v := 50) hx hb dX8_seatsAt_103 (by decide) ?_
                refine lv_iadd (pc := 105) hx hb dX8_seatsAt_105 ?_
                refine lv_goto (pc := 106) (tgt := 110) hx hb dX8_seatsAt_106 (by decide) ?_
                rw [hQ]; exact W.iret (pc := 110) hx hb hr (fun t ht _ => ⟨retI (by unfold sts; rw [hk3, if_neg c_1, if_pos (Or.inl c_11), if_neg c_10]), ht⟩) (fun _ h => nomatch h) dX8_seatsAt_110 hlocks
              · skip
                refine lv_aload_n (pc := 91) hx hb dX8_seatsAt_91 rfl (lv_at hl 1 rfl) ?_
                refine lv_iload_n (pc := 92) hx hb dX8_seatsAt_92 rfl (lv_at hl 2 rfl) ?_
                refine lv_iconst (pc := 93) (v := 1) hx hb dX8_seatsAt_93 (by decide) ?_
                refine iaddV (pc := 94) (v := nI (i + 1)) hx hb dX8_seatsAt_94 (nI_add (i) (1)) ?_
                refine lv_iload_n (pc := 95) hx hb dX8_seatsAt_95 rfl (lv_at hl 3 rfl) ?_
                refine rV (pc := 96) (rest := []) ⟨hx, hb, hml, hown, hts⟩ (k_X8_draws (x := nI (i + 1)) (t := r 8 i) (hok := (by first | assumption | omega)) (hn5 := (by first | assumption | omega))) cw_X8_160 ⟨(Nat.le_of_ble_eq_true rfl), (Nat.le_of_ble_eq_true rfl)⟩ hE hS hP rfl rfl rfl rfl hl.1 rfl (Nat.le_of_ble_eq_true rfl) dX8_seatsAt_96 ⟨Nat.le_refl _, Nat.le_refl _⟩ ?_
                refine W.eq (g2 := F0 m 99 ls [.int (bi (draws ((r 2)) ((r 8)) (nI (i + 1)) (r 8 i)))]) rfl ?_
                refine bif_eq (pc := 99) (tgt := 109) hx hb dX8_seatsAt_99 (by decide) (fun c_12 => ?_) (fun c_12 => ?_)
                · skip
                  refine lv_iload_n (pc := 109) hx hb dX8_seatsAt_109 rfl (lv_at hl 0 rfl) ?_
                  rw [hQ]; exact W.iret (pc := 110) hx hb hr (fun t ht _ => ⟨retI (by unfold sts; rw [hk3, if_neg c_1, if_neg (fun q => q.elim c_11 c_12), if_neg c_10]), ht⟩) (fun _ h => nomatch h) dX8_seatsAt_110 hlocks
                · skip
                  refine lv_iload_n (pc := 102) hx hb dX8_seatsAt_102 rfl (lv_at hl 0 rfl) ?_
                  refine lv_bipush (pc := 103) (v := 50) hx hb dX8_seatsAt_103 (by decide) ?_
                  refine lv_iadd (pc := 105) hx hb dX8_seatsAt_105 ?_
                  refine lv_goto (pc := 106) (tgt := 110) hx hb dX8_seatsAt_106 (by decide) ?_
                  rw [hQ]; exact W.iret (pc := 110) hx hb hr (fun t ht _ => ⟨retI (by unfold sts; rw [hk3, if_neg c_1, if_pos (Or.inr c_12), if_neg c_10]), ht⟩) (fun _ h => nomatch h) dX8_seatsAt_110 hlocks
            · skip
              refine lv_iconst (pc := 70) (v := 3) hx hb dX8_seatsAt_70 (by decide) ?_
              refine lv_iload_n (pc := 71) hx hb dX8_seatsAt_71 rfl (lv_at hl 3 rfl) ?_
              refine lv_imul (pc := 72) hx hb dX8_seatsAt_72 ?_
              refine lv_iconst (pc := 73) (v := 2) hx hb dX8_seatsAt_73 (by decide) ?_
              refine lv_idiv (pc := 74) hx hb dX8_seatsAt_74 (by decide) ?_
              refine lv_goto (pc := 75) (tgt := 79) hx hb dX8_seatsAt_75 (by decide) ?_
              refine lv_istore_n (pc := 79) (lv' := [(3, .int ((3 * (fade (100 * r 7 (ix (r 8 i))) k)) / 2)), (0, .ref o), (1, .int (nI i)), (2, .int (r 8 i)), (4, .int (nI (nOf (r 8) (r 8 i) i))), (5, .int (nI k))]) hx hb dX8_seatsAt_79 rfl hl (by decide) rfl (fun ls hl => ?_)
              refine lv_aload_n (pc := 80) hx hb dX8_seatsAt_80 rfl (lv_at hl 1 rfl) ?_
              refine lv_iload_n (pc := 81) hx hb dX8_seatsAt_81 rfl (lv_at hl 2 rfl) ?_
              refine lv_iconst (pc := 82) (v := 1) hx hb dX8_seatsAt_82 (by decide) ?_
              refine lv_isub (pc := 83) hx hb dX8_seatsAt_83 ?_
              refine lv_iload_n (pc := 84) hx hb dX8_seatsAt_84 rfl (lv_at hl 3 rfl) ?_
              refine rV (pc := 85) (rest := []) ⟨hx, hb, hml, hown, hts⟩ (k_X8_draws (x := (nI i) - 1) (t := r 8 i) (hok := (by first | assumption | omega)) (hn5 := (by first | assumption | omega))) cw_X8_160 ⟨(Nat.le_of_ble_eq_true rfl), (Nat.le_of_ble_eq_true rfl)⟩ hE hS hP rfl rfl rfl rfl hl.1 rfl (Nat.le_of_ble_eq_true rfl) dX8_seatsAt_85 ⟨Nat.le_refl _, Nat.le_refl _⟩ ?_
              refine W.eq (g2 := F0 m 88 ls [.int (bi (draws ((r 2)) ((r 8)) ((nI i) - 1) (r 8 i)))]) rfl ?_
              refine bif_ne (pc := 88) (tgt := 102) hx hb dX8_seatsAt_88 (by decide) (fun c_13 => ?_) (fun c_13 => ?_)
              · skip
                refine lv_iload_n (pc := 102) hx hb dX8_seatsAt_102 rfl (lv_at hl 0 rfl) ?_
                refine lv_bipush (pc := 103) (v := 50) hx hb dX8_seatsAt_103 (by decide) ?_
                refine lv_iadd (pc := 105) hx hb dX8_seatsAt_105 ?_
                refine lv_goto (pc := 106) (tgt := 110) hx hb dX8_seatsAt_106 (by decide) ?_
                rw [hQ]; exact W.iret (pc := 110) hx hb hr (fun t ht _ => ⟨retI (by unfold sts; rw [hk3, if_neg c_1, if_pos (Or.inl c_13), if_pos c_10]), ht⟩) (fun _ h => nomatch h) dX8_seatsAt_110 hlocks
              · skip
                refine lv_aload_n (pc := 91) hx hb dX8_seatsAt_91 rfl (lv_at hl 1 rfl) ?_
                refine lv_iload_n (pc := 92) hx hb dX8_seatsAt_92 rfl (lv_at hl 2 rfl) ?_
                refine lv_iconst (pc := 93) (v := 1) hx hb dX8_seatsAt_93 (by decide) ?_
                refine iaddV (pc := 94) (v := nI (i + 1)) hx hb dX8_seatsAt_94 (nI_add (i) (1)) ?_
                refine lv_iload_n (pc := 95) hx hb dX8_seatsAt_95 rfl (lv_at hl 3 rfl) ?_
                refine rV (pc := 96) (rest := []) ⟨hx, hb, hml, hown, hts⟩ (k_X8_draws (x := nI (i + 1)) (t := r 8 i) (hok := (by first | assumption | omega)) (hn5 := (by first | assumption | omega))) cw_X8_160 ⟨(Nat.le_of_ble_eq_true rfl), (Nat.le_of_ble_eq_true rfl)⟩ hE hS hP rfl rfl rfl rfl hl.1 rfl (Nat.le_of_ble_eq_true rfl) dX8_seatsAt_96 ⟨Nat.le_refl _, Nat.le_refl _⟩ ?_
                refine W.eq (g2 := F0 m 99 ls [.int (bi (draws ((r 2)) ((r 8)) (nI (i + 1)) (r 8 i)))]) rfl ?_
                refine bif_eq (pc := 99) (tgt := 109) hx hb dX8_seatsAt_99 (by decide) (fun c_14 => ?_) (fun c_14 => ?_)
                · skip
                  refine lv_iload_n (pc := 109) hx hb dX8_seatsAt_109 rfl (lv_at hl 0 rfl) ?_
                  rw [hQ]; exact W.iret (pc := 110) hx hb hr (fun t ht _ => ⟨retI (by unfold sts; rw [hk3, if_neg c_1, if_neg (fun q => q.elim c_13 c_14), if_pos c_10]), ht⟩) (fun _ h => nomatch h) dX8_seatsAt_110 hlocks
                · skip
                  refine lv_iload_n (pc := 102) hx hb dX8_seatsAt_102 rfl (lv_at hl 0 rfl) ?_
                  refine lv_bipush (pc := 103) (v := 50) hx hb dX8_seatsAt_103 (by decide) ?_
                  refine lv_iadd (pc := 105) hx hb dX8_seatsAt_105 ?_
                  refine lv_goto (pc := 106) (tgt := 110) hx hb dX8_seatsAt_106 (by decide) ?_
                  rw [hQ]; exact W.iret (pc := 110) hx hb hr (fun t ht _ => ⟨retI (by unfold sts; rw [hk3, if_neg c_1, if_pos (Or.inr c_14), if_pos c_10]), ht⟩) (fun _ h => nomatch h) dX8_seatsAt_110 hlocks
          · skip
            have c_9n : ¬ 3 ≤ k := fun hh => c_9 ((nI_leI (a := 3) (b := k) (by omega) (by omega)).mpr hh)
            refine lv_iload_n (pc := 48) hx hb dX8_seatsAt_48 rfl (lv_at hl 3 rfl) ?_
            refine lv_bipush (pc := 49) (v := 70) hx hb dX8_seatsAt_49 (by decide) ?_
            refine lv_imul (pc := 51) hx hb dX8_seatsAt_51 ?_
            refine lv_bipush (pc := 52) (v := 100) hx hb dX8_seatsAt_52 (by decide) ?_
            refine lv_idiv (pc := 54) hx hb dX8_seatsAt_54 (by decide) ?_
            refine lv_istore_n (pc := 55) (lv' := [(3, .int (((fade (100 * r 7 (ix (r 8 i))) k) * 70) / 100)), (0, .ref o), (1, .int (nI i)), (2, .int (r 8 i)), (4, .int (nI (nOf (r 8) (r 8 i) i))), (5, .int (nI k))]) hx hb dX8_seatsAt_55 rfl hl (by decide) rfl (fun ls hl => ?_)
            refine lv_iinc (pc := 56) (v := nI (k + 1)) (lv' := [(5, .int (nI (k + 1))), (3, .int (((fade (100 * r 7 (ix (r 8 i))) k) * 70) / 100)), (0, .ref o), (1, .int (nI i)), (2, .int (r 8 i)), (4, .int (nI (nOf (r 8) (r 8 i) i)))]) hx hb dX8_seatsAt_56 hl (k := 5) rfl (nI_add (k) 1) (by decide) rfl (fun ls hl => ?_)
            refine lv_goto (pc := 59) (tgt := 35) hx hb dX8_seatsAt_59 (by decide) ?_
            exact ih_lp_2 (k + 1) (by omega) (by omega) (by omega) ls (by rw [show (fade (100 * r 7 (ix (r 8 i))) (k + 1) : Int32) = ((fade (100 * r 7 (ix (r 8 i))) k) * 70) / 100 from (rfl)]; exact lv_sub hl [2, 3, 4, 1, 5, 0] rfl)
    exact lp_2 _ 0 (Nat.lt_succ_self _) (by omega) (by omega) ls (lv_sub hl [4, 5, 3, 2, 1, 0] rfl)
  · skip
    refine lv_iconst (pc := 12) (v := 0) hx hb dX8_seatsAt_12 (by decide) ?_
    rw [hQ]; exact W.iret (pc := 13) hx hb hr (fun t ht _ => ⟨retI (by unfold sts; rw [if_pos c_1]), ht⟩) (fun _ h => nomatch h) dX8_seatsAt_13 hlocks
set_option maxRecDepth 100000 in
set_option maxHeartbeats 4000000 in
theorem k_X8_breaks {o : Nat} {a : Nat → Nat} {z : Nat → Int32} {g : Nat → Int64} {r : Nat → Nat → Int32} {n : Nat} (hok : okP n (r 8)) (hn5 : n ≤ 5) : MR l yX8_breaks cX8_breaks 3 (some .int) 6 131 D kB kI kT ks sk sv [.ref o] (wR kB kI o a z g r) (some (.int (nI (cntP (fun j => 0 < brk (r 2) (r 3) (r 4) (r 5) (r 6) (r 8) j) 12)))) := by
  refine MR.go (by decide +kernel) (Nat.le_of_ble_eq_true rfl) ?_
  intro p e s m below meth c0 args Q ls hQ hx hb hr hml hown hts hlocks hE hP hS hl
  have hl : lv_has ls 3 [(0, .ref o)] := hl
  have hown : s.vm.findClass RX8 = some m.cls := hown
  refine lv_iconst (pc := 0) (v := 0) hx hb dX8_breaks_0 (by decide) ?_
  refine lv_istore_n (pc := 1) (lv' := [(1, .int 0), (0, .ref o)]) hx hb dX8_breaks_1 rfl hl (by decide) rfl (fun ls hl => ?_)
  refine lv_iconst (pc := 2) (v := 0) hx hb dX8_breaks_2 (by decide) ?_
  refine lv_istore_n (pc := 3) (lv' := [(2, .int 0), (1, .int 0), (0, .ref o)]) hx hb dX8_breaks_3 rfl hl (by decide) rfl (fun ls hl => ?_)
  have lp_1 : ∀ (fuel : Nat) (i : Nat), 12 - i < fuel → i ≤ 12 → ∀ (ls : Array Slot), lv_has ls 3 [(0, .ref o), (1, .int (nI (cntP (fun j => 0 < brk (r 2) (r 3) (r 4) (r 5) (r 6) (r 8) j) i))), (2, .int (nI i))] → W p l e (rmO 6 131) s m args below meth c0 s.heap [] 0 0 Q (F0 m 4 ls []) := by
    intro fuel
    induction fuel with
    | zero => intro i hfuel; exact absurd hfuel (Nat.not_lt_zero _)
    | succ fuel ih_lp_1 =>
      intro i hfuel hi ls hl
      refine lv_iload_n (pc := 4) hx hb dX8_breaks_4 rfl (lv_at hl 2 rfl) ?_
      refine lv_bipush (pc := 5) (v := 12) hx hb dX8_breaks_5 (by decide) ?_
      refine lv_icmp_ge (pc := 7) (tgt := 32) hx hb dX8_breaks_7 (by decide) (fun c_2 => ?_) (fun c_2 => ?_)
      · skip
        have c_2n : 12 ≤ i := (nI_leI (a := 12) (b := i) (by omega) (by omega)).mp c_2
        refine lv_iload_n (pc := 32) hx hb dX8_breaks_32 rfl (lv_at hl 1 rfl) ?_
        rw [hQ]; exact W.iret (pc := 33) hx hb hr (fun t ht _ => ⟨retI (by rw [show i = 12 by omega]), ht⟩) (fun _ h => nomatch h) dX8_breaks_33 hlocks
      · skip
        have c_2n : ¬ 12 ≤ i := fun hh => c_2 ((nI_leI (a := 12) (b := i) (by omega) (by omega)).mpr hh)
        refine lv_iload_n (pc := 10) hx hb dX8_breaks_10 rfl (lv_at hl 1 rfl) ?_
        refine lv_aload_n (pc := 11) hx hb dX8_breaks_11 rfl (lv_at hl 0 rfl) ?_
        refine lv_iload_n (pc := 12) hx hb dX8_breaks_12 rfl (lv_at hl 2 rfl) ?_
        refine rV (pc := 13) (rest := [.int (nI (cntP (fun j => 0 < brk (r 2) (r 3) (r 4) (r 5) (r 6) (r 8) j) i))]) ⟨hx, hb, hml, hown, hts⟩ (k_X8_breaksAt (i := i) (hok := (by first | assumption | omega)) (hn5 := (by first | assumption | omega)) (hi := (by omega))) cw_X8_163 ⟨(Nat.le_of_ble_eq_true rfl), (Nat.le_of_ble_eq_true rfl)⟩ hE hS hP rfl rfl rfl rfl hl.1 rfl (Nat.le_of_ble_eq_true rfl) dX8_breaks_13 ⟨Nat.le_refl _, Nat.le_refl _⟩ ?_
        refine W.eq (g2 := F0 m 16 ls [.int (brk ((r 2)) ((r 3)) ((r 4)) ((r 5)) ((r 6)) ((r 8)) i), .int (nI (cntP (fun j => 0 < brk (r 2) (r 3) (r 4) (r 5) (r 6) (r 8) j) i))]) rfl ?_
        refine lv_if_le (pc := 16) (tgt := 23) hx hb dX8_breaks_16 (by decide) (fun c_3 => ?_) (fun c_3 => ?_)
        · skip
          refine lv_iconst (pc := 23) (v := 0) hx hb dX8_breaks_23 (by decide) ?_
          refine iaddV (pc := 24) (v := nI (cntP (fun j => 0 < brk (r 2) (r 3) (r 4) (r 5) (r 6) (r 8) j) i + 0)) hx hb dX8_breaks_24 (nI_add (cntP (fun j => 0 < brk (r 2) (r 3) (r 4) (r 5) (r 6) (r 8) j) i) (0)) ?_
          refine lv_istore_n (pc := 25) (lv' := [(1, .int (nI (cntP (fun j => 0 < brk (r 2) (r 3) (r 4) (r 5) (r 6) (r 8) j) i + 0))), (0, .ref o), (2, .int (nI i))]) hx hb dX8_breaks_25 rfl hl (by decide) rfl (fun ls hl => ?_)
          refine lv_iinc (pc := 26) (v := nI (i + 1)) (lv' := [(2, .int (nI (i + 1))), (1, .int (nI (cntP (fun j => 0 < brk (r 2) (r 3) (r 4) (r 5) (r 6) (r 8) j) i + 0))), (0, .ref o)]) hx hb dX8_breaks_26 hl (k := 2) rfl (nI_add (i) 1) (by decide) rfl (fun ls hl => ?_)
          refine lv_goto (pc := 29) (tgt := 4) hx hb dX8_breaks_29 (by decide) ?_
          exact ih_lp_1 (i + 1) (by omega) (by omega) ls (by rw [show (nI (cntP (fun j => 0 < brk (r 2) (r 3) (r 4) (r 5) (r 6) (r 8) j) (i + 1)) : Int32) = nI (cntP (fun j => 0 < brk (r 2) (r 3) (r 4) (r 5) (r 6) (r 8) j) i + 0) from (by rw [cntP_f (Int32.not_lt.mpr c_3)]; rfl)]; exact lv_sub hl [2, 1, 0] rfl)
        · skip
          refine lv_iconst (pc := 19) (v := 1) hx hb dX8_breaks_19 (by decide) ?_
          refine lv_goto (pc := 20) (tgt := 24) hx hb dX8_breaks_20 (by decide) ?_
          refine iaddV (pc := 24) (v := nI (cntP (fun j => 0 < brk (r 2) (r 3) (r 4) (r 5) (r 6) (r 8) j) i + 1)) hx hb dX8_breaks_24 (nI_add (cntP (fun j => 0 < brk (r 2) (r 3) (r 4) (r 5) (r 6) (r 8) j) i) (1)) ?_
          refine lv_istore_n (pc := 25) (lv' := [(1, .int (nI (cntP (fun j => 0 < brk (r 2) (r 3) (r 4) (r 5) (r 6) (r 8) j) i + 1))), (0, .ref o), (2, .int (nI i))]) hx hb dX8_breaks_25 rfl hl (by decide) rfl (fun ls hl => ?_)
          refine lv_iinc (pc := 26) (v := nI (i + 1)) (lv' := [(2, .int (nI (i + 1))), (1, .int (nI (cntP (fun j => 0 < brk (r 2) (r 3) (r 4) (r 5) (r 6) (r 8) j) i + 1))), (0, .ref o)]) hx hb dX8_breaks_26 hl (k := 2) rfl (nI_add (i) 1) (by decide) rfl (fun ls hl => ?_)
          refine lv_goto (pc := 29) (tgt := 4) hx hb dX8_breaks_29 (by decide) ?_
          exact ih_lp_1 (i + 1) (by omega) (by omega) ls (by rw [show (nI (cntP (fun j => 0 < brk (r 2) (r 3) (r 4) (r 5) (r 6) (r 8) j) (i + 1)) : Int32) = nI (cntP (fun j => 0 < brk (r 2) (r 3) (r 4) (r 5) (r 6) (r 8) j) i + 1) from (by rw [cntP_t (Int32.not_le.mp c_3)])]; exact lv_sub hl [2, 1, 0] rfl)
  exact lp_1 _ 0 (Nat.lt_succ_self _) (by omega) ls (lv_sub hl [2, 1, 0] rfl)
set_option maxRecDepth 100000 in
set_option maxHeartbeats 4000000 in
theorem k_X8_earned {o : Nat} {a : Nat → Nat} {z : Nat → Int32} {g : Nat → Int64} {r : Nat → Nat → Int32} {n : Nat} (hok : okP n (r 8)) (hn5 : n ≤ 5) : MR l yX8_earned cX8_earned 3 (some .int) 6 131 D kB kI kT ks sk sv [.ref o] (wR kB kI o a z g r) (some (.int (sumI (fun j => if brk (r 2) (r 3) (r 4) (r 5) (r 6) (r 8) j = 0 then sts (r 2) (r 7) (r 8) j else 0) 12))) := by
  refine MR.go (by decide +kernel) (Nat.le_of_ble_eq_true rfl) ?_
  intro p e s m below meth c0 args Q ls hQ hx hb hr hml hown hts hlocks hE hP hS hl
  have hl : lv_has ls 3 [(0, .ref o)] := hl
  have hown : s.vm.findClass RX8 = some m.cls := hown
  refine lv_iconst (pc := 0) (v := 0) hx hb dX8_earned_0 (by decide) ?_
  refine lv_istore_n (pc := 1) (lv' := [(1, .int 0), (0, .ref o)]) hx hb dX8_earned_1 rfl hl (by decide) rfl (fun ls hl => ?_)
  refine lv_iconst (pc := 2) (v := 0) hx hb dX8_earned_2 (by decide) ?_
  refine lv_istore_n (pc := 3) (lv' := [(2, .int 0), (1, .int 0), (0, .ref o)]) hx hb dX8_earned_3 rfl hl (by decide) rfl (fun ls hl => ?_)
  have lp_1 : ∀ (fuel : Nat) (i : Nat), 12 - i < fuel → i ≤ 12 → ∀ (ls : Array Slot), lv_has ls 3 [(0, .ref o), (1, .int (sumI (fun j => if brk (r 2) (r 3) (r 4) (r 5) (r 6) (r 8) j = 0 then sts (r 2) (r 7) (r 8) j else 0) i)), (2, .int (nI i))] → W p l e (rmO 6 131) s m args below meth c0 s.heap [] 0 0 Q (F0 m 4 ls []) := by
    intro fuel
    induction fuel with
    | zero => intro i hfuel; exact absurd hfuel (Nat.not_lt_zero _)
    | succ fuel ih_lp_1 =>
      intro i hfuel hi ls hl
      refine lv_iload_n (pc := 4) hx hb dX8_earned_4 rfl (lv_at hl 2 rfl) ?_
      refine lv_bipush (pc := 5) (v := 12) hx hb dX8_earned_5 (by decide) ?_
      refine lv_icmp_ge (pc := 7) (tgt := 36) hx hb dX8_earned_7 (by decide) (fun c_2 => ?_) (fun c_2 => ?_)
      · skip
        have c_2n : 12 ≤ i := (nI_leI (a := 12) (b := i) (by omega) (by omega)).mp c_2
        refine lv_iload_n (pc := 36) hx hb dX8_earned_36 rfl (lv_at hl 1 rfl) ?_
        rw [hQ]; exact W.iret (pc := 37) hx hb hr (fun t ht _ => ⟨retI (by rw [show i = 12 by omega]), ht⟩) (fun _ h => nomatch h) dX8_earned_37 hlocks
      · skip
        have c_2n : ¬ 12 ≤ i := fun hh => c_2 ((nI_leI (a := 12) (b := i) (by omega) (by omega)).mpr hh)
        refine lv_iload_n (pc := 10) hx hb dX8_earned_10 rfl (lv_at hl 1 rfl) ?_
        refine lv_aload_n (pc := 11) hx hb dX8_earned_11 rfl (lv_at hl 0 rfl) ?_
        refine lv_iload_n (pc := 12) hx hb dX8_earned_12 rfl (lv_at hl 2 rfl) ?_
        refine rV (pc := 13) (rest := [.int (sumI (fun j => if brk (r 2) (r 3) (r 4) (r 5) (r 6) (r 8) j = 0 then sts (r 2) (r 7) (r 8) j else 0) i)]) ⟨hx, hb, hml, hown, hts⟩ (k_X8_breaksAt (i := i) (hok := (by first | assumption | omega)) (hn5 := (by first | assumption | omega)) (hi := (by omega))) cw_X8_163 ⟨(Nat.le_of_ble_eq_true rfl), (Nat.le_of_ble_eq_true rfl)⟩ hE hS hP rfl rfl rfl rfl hl.1 rfl (Nat.le_of_ble_eq_true rfl) dX8_earned_13 ⟨Nat.le_refl _, Nat.le_refl _⟩ ?_
        refine W.eq (g2 := F0 m 16 ls [.int (brk ((r 2)) ((r 3)) ((r 4)) ((r 5)) ((r 6)) ((r 8)) i), .int (sumI (fun j => if brk (r 2) (r 3) (r 4) (r 5) (r 6) (r 8) j = 0 then sts (r 2) (r 7) (r 8) j else 0) i)]) rfl ?_
        refine lv_if_ne (pc := 16) (tgt := 27) hx hb dX8_earned_16 (by decide) (fun c_3 => ?_) (fun c_3 => ?_)
        · skip
          refine lv_iconst (pc := 27) (v := 0) hx hb dX8_earned_27 (by decide) ?_
          refine lv_iadd (pc := 28) hx hb dX8_earned_28 ?_
          refine lv_istore_n (pc := 29) (lv' := [(1, .int ((sumI (fun j => if brk (r 2) (r 3) (r 4) (r 5) (r 6) (r 8) j = 0 then sts (r 2) (r 7) (r 8) j else 0) i) + 0)), (0, .ref o), (2, .int (nI i))]) hx hb dX8_earned_29 rfl hl (by decide) rfl (fun ls hl => ?_)
          refine lv_iinc (pc := 30) (v := nI (i + 1)) (lv' := [(2, .int (nI (i + 1))), (1, .int ((sumI (fun j => if brk (r 2) (r 3) (r 4) (r 5) (r 6) (r 8) j = 0 then sts (r 2) (r 7) (r 8) j else 0) i) + 0)), (0, .ref o)]) hx hb dX8_earned_30 hl (k := 2) rfl (nI_add (i) 1) (by decide) rfl (fun ls hl => ?_)
          refine lv_goto (pc := 33) (tgt := 4) hx hb dX8_earned_33 (by decide) ?_
          exact ih_lp_1 (i + 1) (by omega) (by omega) ls (by rw [show (sumI (fun j => if brk (r 2) (r 3) (r 4) (r 5) (r 6) (r 8) j = 0 then sts (r 2) (r 7) (r 8) j else 0) (i + 1) : Int32) = (sumI (fun j => if brk (r 2) (r 3) (r 4) (r 5) (r 6) (r 8) j = 0 then sts (r 2) (r 7) (r 8) j else 0) i) + 0 from (by rw [sumI]; simp [c_2, c_3])]; exact lv_sub hl [2, 1, 0] rfl)
        · skip
          refine lv_aload_n (pc := 19) hx hb dX8_earned_19 rfl (lv_at hl 0 rfl) ?_
          refine lv_iload_n (pc := 20) hx hb dX8_earned_20 rfl (lv_at hl 2 rfl) ?_
          refine rV (pc := 21) (rest := [.int (sumI (fun j => if brk (r 2) (r 3) (r 4) (r 5) (r 6) (r 8) j = 0 then sts (r 2) (r 7) (r 8) j else 0) i)]) ⟨hx, hb, hml, hown, hts⟩ (k_X8_seatsAt (i := i) (hok := (by first | assumption | omega)) (hn5 := (by first | assumption | omega)) (hi := (by omega))) cw_X8_169 ⟨(Nat.le_of_ble_eq_true rfl), (Nat.le_of_ble_eq_true rfl)⟩ hE hS hP rfl rfl rfl rfl hl.1 rfl (Nat.le_of_ble_eq_true rfl) dX8_earned_21 ⟨Nat.le_refl _, Nat.le_refl _⟩ ?_
          refine W.eq (g2 := F0 m 24 ls [.int (sts ((r 2)) ((r 7)) ((r 8)) i), .int (sumI (fun j => if brk (r 2) (r 3) (r 4) (r 5) (r 6) (r 8) j = 0 then sts (r 2) (r 7) (r 8) j else 0) i)]) rfl ?_
          refine lv_goto (pc := 24) (tgt := 28) hx hb dX8_earned_24 (by decide) ?_
          refine lv_iadd (pc := 28) hx hb dX8_earned_28 ?_
          refine lv_istore_n (pc := 29) (lv' := [(1, .int ((sumI (fun j => if brk (r 2) (r 3) (r 4) (r 5) (r 6) (r 8) j = 0 then sts (r 2) (r 7) (r 8) j else 0) i) + (sts ((r 2)) ((r 7)) ((r 8)) i))), (0, .ref o), (2, .int (nI i))]) hx hb dX8_earned_29 rfl hl (by decide) rfl (fun ls hl => ?_)
          refine lv_iinc (pc := 30) (v := nI (i + 1)) (lv' := [(2, .int (nI (i + 1))), (1, .int ((sumI (fun j => if brk (r 2) (r 3) (r 4) (r 5) (r 6) (r 8) j = 0 then sts (r 2) (r 7) (r 8) j else 0) i) + (sts ((r 2)) ((r 7)) ((r 8)) i))), (0, .ref o)]) hx hb dX8_earned_30 hl (k := 2) rfl (nI_add (i) 1) (by decide) rfl (fun ls hl => ?_)
          refine lv_goto (pc := 33) (tgt := 4) hx hb dX8_earned_33 (by decide) ?_
          exact ih_lp_1 (i + 1) (by omega) (by omega) ls (by rw [show (sumI (fun j => if brk (r 2) (r 3) (r 4) (r 5) (r 6) (r 8) j = 0 then sts (r 2) (r 7) (r 8) j else 0) (i + 1) : Int32) = (sumI (fun j => if brk (r 2) (r 3) (r 4) (r 5) (r 6) (r 8) j = 0 then sts (r 2) (r 7) (r 8) j else 0) i) + (sts ((r 2)) ((r 7)) ((r 8)) i) from (by rw [sumI]; simp [c_2, c_3])]; exact lv_sub hl [2, 1, 0] rfl)
  exact lp_1 _ 0 (Nat.lt_succ_self _) (by omega) ls (lv_sub hl [2, 1, 0] rfl)
set_option maxRecDepth 100000 in
set_option maxHeartbeats 4000000 in
theorem k_X8_lost {o : Nat} {a : Nat → Nat} {z : Nat → Int32} {g : Nat → Int64} {r : Nat → Nat → Int32} {n : Nat} (hok : okP n (r 8)) (hn5 : n ≤ 5) : MR l yX8_lost cX8_lost 1 (some .int) 7 153 D kB kI kT ks sk sv [.ref o] (wR kB kI o a z g r) (some (.int (12 - nI (nOn (r 8) 12) + nI (cntP (fun j => 0 < brk (r 2) (r 3) (r 4) (r 5) (r 6) (r 8) j) 12)))) := by
  refine MR.go (by decide +kernel) (Nat.le_of_ble_eq_true rfl) ?_
  intro p e s m below meth c0 args Q ls hQ hx hb hr hml hown hts hlocks hE hP hS hl
  have hl : lv_has ls 1 [(0, .ref o)] := hl
  have hown : s.vm.findClass RX8 = some m.cls := hown
  refine lv_bipush (pc := 0) (v := 12) hx hb dX8_lost_0 (by decide) ?_
  refine lv_aload_n (pc := 2) hx hb dX8_lost_2 rfl (lv_at hl 0 rfl) ?_
  refine rV (pc := 3) (rest := [.int 12]) ⟨hx, hb, hml, hown, hts⟩ (k_X8_nightsOn ) cw_X8_137 ⟨(Nat.le_of_ble_eq_true rfl), (Nat.le_of_ble_eq_true rfl)⟩ hE hS hP rfl rfl rfl rfl hl.1 rfl (Nat.le_of_ble_eq_true rfl) dX8_lost_3 ⟨Nat.le_refl _, Nat.le_refl _⟩ ?_
  refine W.eq (g2 := F0 m 6 ls [.int (nI (nOn ((r 8)) 12)), .int 12]) rfl ?_
  refine lv_isub (pc := 6) hx hb dX8_lost_6 ?_
  refine lv_aload_n (pc := 7) hx hb dX8_lost_7 rfl (lv_at hl 0 rfl) ?_
  refine rV (pc := 8) (rest := [.int (12 - (nI (nOn ((r 8)) 12)))]) ⟨hx, hb, hml, hown, hts⟩ (k_X8_breaks (hok := (by first | assumption | omega)) (hn5 := (by first | assumption | omega))) cw_X8_166 ⟨(Nat.le_of_ble_eq_true rfl), (Nat.le_of_ble_eq_true rfl)⟩ hE hS hP rfl rfl rfl rfl hl.1 rfl (Nat.le_of_ble_eq_true rfl) dX8_lost_8 ⟨Nat.le_refl _, Nat.le_refl _⟩ ?_
  refine W.eq (g2 := F0 m 11 ls [.int (nI (cntP (fun j => 0 < brk ((r 2)) ((r 3)) ((r 4)) ((r 5)) ((r 6)) ((r 8)) j) 12)), .int (12 - (nI (nOn ((r 8)) 12)))]) rfl ?_
  refine lv_iadd (pc := 11) hx hb dX8_lost_11 ?_
  rw [hQ]; exact W.iret (pc := 12) hx hb hr (fun t ht _ => ⟨retI (rfl), ht⟩) (fun _ h => nomatch h) dX8_lost_12 hlocks
set_option maxRecDepth 100000 in
set_option maxHeartbeats 4000000 in
theorem k_X8_isTitle {o : Nat} {a : Nat → Nat} {z : Nat → Int32} {g : Nat → Int64} {r : Nat → Nat → Int32} (t : Int32) : MR l yX8_isTitle cX8_isTitle 2 (some .boolean) 1 22 D kB kI kT ks sk sv [.ref o, .int t] (wR kB kI o a z g r) (some (.int (bi (inR t 0 (z 1 - 1))))) := by
  refine MR.go (by decide +kernel) (Nat.le_of_ble_eq_true rfl) ?_
  intro p e s m below meth c0 args Q ls hQ hx hb hr hml hown hts hlocks hE hP hS hl
  have hl : lv_has ls 2 [(0, .ref o), (1, .int t)] := hl
  have hown : s.vm.findClass RX8 = some m.cls := hown
  refine lv_iload_n (pc := 0) hx hb dX8_isTitle_0 rfl (lv_at hl 1 rfl) ?_
  refine lv_iconst (pc := 1) (v := 0) hx hb dX8_isTitle_1 (by decide) ?_
  refine lv_aload_n (pc := 2) hx hb dX8_isTitle_2 rfl (lv_at hl 0 rfl) ?_
  refine fget (pc := 3) (v := .int (z 1)) hx hb hts hown hE hP fl_X8_124 0 rfl rfl dX8_isTitle_3 ?_
  refine lv_iconst (pc := 6) (v := 1) hx hb dX8_isTitle_6 (by decide) ?_
  refine lv_isub (pc := 7) hx hb dX8_isTitle_7 ?_
  refine rS (pc := 8) (rest := []) ⟨hx, hb, hml, hown, hts⟩ (k_X8_within (v := t) (lo := 0) (hi := (z 1) - 1)) cw_X8_86 ⟨(Nat.le_of_ble_eq_true rfl), (Nat.le_of_ble_eq_true rfl)⟩ hE hS wc0 rfl hl.1 rfl (Nat.le_of_ble_eq_true rfl) dX8_isTitle_8 ⟨Nat.le_refl _, Nat.le_refl _⟩ ?_
  refine W.eq (g2 := F0 m 11 ls [.int (bi (inR t 0 ((z 1) - 1)))]) rfl ?_
  rw [hQ]; exact W.zret (pc := 11) hx hb hr narrow_bi (fun t ht _ => ⟨retI (rfl), ht⟩) (fun _ h => nomatch h) dX8_isTitle_11 hlocks
end
end
section
def allB (p : Nat → Bool) : Nat → Bool
  | 0 => true
  | k + 1 => allB p k && p k
def orI (f : Nat → Int32) : Nat → Int32
  | 0 => 0
  | k + 1 => orI f k ||| f k
abbrev isInP (set k : Int32) : Prop := (set >>> (k &&& 31)) &&& 1 = 1
def sizeI (bits : Int32) (b : Nat) : Int32 := sumI (fun k => (bits >>> (nI k &&& 31)) &&& 1) b
def kindBy (c : Int32) : Int32 := if c = 100 then 4 else if c = 102 then 2 else if c = 103 then 1 else if c = 114 then 3 else if c = 116 then 0 else -1
def atP (pg : Nat → Int32) (pn k : Nat) : Int32 := if k < pn then pg k else 0
def leastP (told : Nat → Int32) (nt : Nat) (x : Int32) : Int32 := if x = 1 then 48 else if x = 2 then 48 else if x = 3 then 97 else if x = 4 then 97 + told (6 * nt + 3) else 49
def mostP (x : Int32) : Int32 := if 3 ≤ x then (if 5 ≤ x then 57 else 108) else 52
def couldB (k w : Int32) : Bool := if w = 0 then decide (¬ k = 1 ∧ ¬ k = 2) else if w = 1 then decide (¬ k = 3) else if w = 2 then decide (k = 1 ∨ k = 2) else decide (k = 4)
def seenOk (st sw sc : Nat → Int32) (t kind : Int32) (k : Nat) : Bool := decide (¬ st k = t) || (couldB kind (sw k) == decide (sc k = 1))
def sortsS (st sw sc : Nat → Int32) (sn : Nat) (t : Int32) (b : Nat) : Int32 := orI (fun kind => if allB (seenOk st sw sc t (nI kind)) sn = true then (1 : Int32) <<< (nI kind &&& 31) else 0) b
def yesN (bits : Int32) (w b : Nat) : Nat := cntP (fun kind => isInP bits (nI kind) ∧ couldB (nI kind) (nI w) = true) b
def worstI (bits : Int32) (w : Nat) : Int32 := if nI (yesN bits w 5) ≤ sizeI bits 16 - nI (yesN bits w 5) then sizeI bits 16 - nI (yesN bits w 5) else nI (yesN bits w 5)
def askL (bits : Int32) : Nat → Int32 × Int32
  | 0 => (-1, 268435456)
  | w + 1 => if (askL bits w).2 ≤ worstI bits w then askL bits w else (nI w, worstI bits w)
def askS (bits : Int32) : Int32 := if bits = 0 then -1 else (askL bits 4).1
abbrev rBk (r : Nat → Nat → Int32) : Nat → Int32 := brk (r 2) (r 3) (r 4) (r 5) (r 6) (r 8)
abbrev rSt (r : Nat → Nat → Int32) : Nat → Int32 := sts (r 2) (r 7) (r 8)
def titleS (r : Nat → Nat → Int32) (sn k : Nat) (what : Int32) : Int32 :=
  if what = 0 then r 2 k else if what = 1 then r 3 k else if what = 2 then r 4 k else if what = 3 then r 5 k else if what = 4 then r 6 k else if what = 5 then r 7 k else
  if what = 6 then nI (nOf (r 8) (nI k) 12) else if what = 7 then sortsS (r 11) (r 12) (r 13) sn (nI k) 5 else askS (sortsS (r 11) (r 12) (r 13) sn (nI k) 5)
def nightS (r : Nat → Nat → Int32) (i : Nat) (what : Int32) : Int32 := if what = 0 then r 8 i else if what = 1 then rBk r i else rSt r i
def dkN (pl : Nat → Int32) (f b : Nat) : Nat := cntP (fun j => pl (f + j) = -1) b
def seatS (r : Nat → Nat → Int32) (t : Int32) (b : Nat) : Int32 := sumI (fun j => if r 8 j = t ∧ rBk r j = 0 then rSt r j else 0) b
def ahdB (o1 o2 s1 s2 one other : Int32) : Bool := if o1 - o2 = 0 then (if s1 - s2 = 0 then decide (one < other) else decide (0 < s1 - s2)) else decide (0 < o1 - o2)
def aheadB (r : Nat → Nat → Int32) (one other : Int32) : Bool := ahdB (nI (nOf (r 8) one 12)) (nI (nOf (r 8) other 12)) (seatS r one 12) (seatS r other 12) one other
def aheadN (r : Nat → Nat → Int32) (k b : Nat) : Nat := cntP (fun e => ¬ e = k ∧ aheadB r (nI e) (nI k) = true) b
def rankF (f : Nat → Nat) (place : Int32) (n : Nat) : Nat → Int32
  | 0 => -101
  | m + 1 => if nI (f (n - (m + 1))) = place then nI (n - (m + 1)) else rankF f place n m
def rankS (r : Nat → Nat → Int32) (n : Nat) (place : Int32) : Int32 := rankF (fun k => aheadN r k n) place n n
def unlN (pl : Nat → Int32) (b : Nat) : Nat := cntP (fun k => 0 < nOf pl (nI k) 12) b
def brkN (r : Nat → Nat → Int32) : Nat := cntP (fun j => 0 < rBk r j) 12
def ernS (r : Nat → Nat → Int32) : Int32 := sumI (fun j => if rBk r j = 0 then rSt r j else 0) 12
def lostS (r : Nat → Nat → Int32) : Int32 := 12 - nI (nOn (r 8) 12) + nI (brkN r)
def howS (z : Nat → Int32) (r : Nat → Nat → Int32) (n : Nat) (what : Int32) : Int32 :=
  if what = 0 then z 1 else if what = 1 then nI (nOn (r 8) 12) else if what = 2 then nI (brkN r) else if what = 3 then lostS r else if what = 4 then ernS r else if what = 5 then nI (unlN (r 8) n) else
  if what = 6 then z 10 else if what = 7 then z 14 else if what = 8 then z 0 else if what = 9 then z 9 else -102
theorem inR_nat {x : Int32} (h : inR x 0 11) : ∃ i, i < 12 ∧ x = nI i := by
  obtain ⟨j, hj, h2⟩ := nI_of2 (M := 11) (n := 11) rfl (Int32.not_lt.mpr h.1) h.2
  exact ⟨j, by omega, h2⟩
theorem isT_nat {x v : Int32} {n : Nat} (hv : v = nI n) (hn : n ≤ 5) (h : inR x 0 (v - 1)) : ∃ k, k < n ∧ x = nI k := by
  subst hv
  have h0 : n ≠ 0 := by
    rintro rfl
    exact absurd (Int32.le_trans h.1 h.2) (by decide)
  have h1 : (nI n - 1 : Int32) = nI (n - 1) := by
    have := pk_sub (a := n) (b := 1) (by omega)
    exact this
  have h2 := h.2
  rw [h1] at h2
  obtain ⟨j, hj, h3⟩ := nI_of2 (M := nI (n - 1)) (n := n - 1) (nI_toInt (by omega)) (Int32.not_lt.mpr h.1) h2
  exact ⟨j, by omega, h3⟩
def titS (z : Nat → Int32) (r : Nat → Nat → Int32) (sn : Nat) (t what : Int32) : Int32 := if inR t 0 (z 1 - 1) then (if inR what 0 8 then titleS r sn (ix t) what else -102) else -101
def asS (z : Nat → Int32) (r : Nat → Nat → Int32) (t kind : Int32) : Int32 := if inR t 0 (z 1 - 1) then (if inR kind 0 4 then (if kind = 0 ∨ r 2 (ix t) = kind ∨ (kind = 1 ∧ r 2 (ix t) = 2) then t else -1) else -102) else -101
def nigS (z : Nat → Int32) (r : Nat → Nat → Int32) (x what : Int32) : Int32 := if inR x 0 11 ∧ ¬ z 1 = 0 then (if inR what 0 2 then nightS r (ix x) what else -102) else -101
end
section
section
variable {l : Launch} {D : va_G} {kB kI kT : ClassId} {ks sk sv : Nat}
set_option maxRecDepth 100000 in
set_option maxHeartbeats 4000000 in
theorem k_X8_isIn (set : Int32) (k : Int32) : MR l yX8_isIn cX8_isIn 2 (some .boolean) 0 0 D kB kI kT ks sk sv [.int set, .int k] ([]) (some (.int (bi (isInP set k)))) := by
  refine MR.go (by decide +kernel) (Nat.le_of_ble_eq_true rfl) ?_
  intro p e s m below meth c0 args Q ls hQ hx hb hr hml hown hts hlocks hE hP hS hl
  have hl : lv_has ls 2 [(0, .int set), (1, .int k)] := hl
  have hown : s.vm.findClass RX8 = some m.cls := hown
  refine lv_iload_n (pc := 0) hx hb dX8_isIn_0 rfl (lv_at hl 0 rfl) ?_
  refine lv_iload_n (pc := 1) hx hb dX8_isIn_1 rfl (lv_at hl 1 rfl) ?_
  refine lv_ishr (pc := 2) hx hb dX8_isIn_2 ?_
  refine lv_iconst (pc := 3) (v := 1) hx hb dX8_isIn_3 (by decide) ?_
  refine lv_iand (pc := 4) hx hb dX8_isIn_4 ?_
  refine lv_iconst (pc := 5) (v := 1) hx hb dX8_isIn_5 (by decide) ?_
  refine lv_icmp_ne (pc := 6) (tgt := 13) hx hb dX8_isIn_6 (by decide) (fun c_1 => ?_) (fun c_1 => ?_)
  · skip
    refine lv_iconst (pc := 13) (v := 0) hx hb dX8_isIn_13 (by decide) ?_
    rw [hQ]; exact W.zret (pc := 14) hx hb hr rfl (fun t9 ht _ => ⟨retI (bi_f c_1), ht⟩) (fun _ h => nomatch h) dX8_isIn_14 hlocks
  · skip
    refine lv_iconst (pc := 9) (v := 1) hx hb dX8_isIn_9 (by decide) ?_
    refine lv_goto (pc := 10) (tgt := 14) hx hb dX8_isIn_10 (by decide) ?_
    rw [hQ]; exact W.zret (pc := 14) hx hb hr rfl (fun t9 ht _ => ⟨retI (bi_t c_1), ht⟩) (fun _ h => nomatch h) dX8_isIn_14 hlocks
set_option maxRecDepth 100000 in
set_option maxHeartbeats 4000000 in
theorem k_X8_size (bits : Int32) : MR l yX8_size cX8_size 3 (some .int) 0 0 D kB kI kT ks sk sv [.int bits] ([]) (some (.int (sizeI bits 16))) := by
  refine MR.go (by decide +kernel) (Nat.le_of_ble_eq_true rfl) ?_
  intro p e s m below meth c0 args Q ls hQ hx hb hr hml hown hts hlocks hE hP hS hl
  have hl : lv_has ls 3 [(0, .int bits)] := hl
  have hown : s.vm.findClass RX8 = some m.cls := hown
  refine lv_iconst (pc := 0) (v := 0) hx hb dX8_size_0 (by decide) ?_
  refine lv_istore_n (pc := 1) (lv' := [(1, .int 0), (0, .int bits)]) hx hb dX8_size_1 rfl hl (by decide) rfl (fun ls hl => ?_)
  refine lv_iconst (pc := 2) (v := 0) hx hb dX8_size_2 (by decide) ?_
  refine lv_istore_n (pc := 3) (lv' := [(2, .int 0), (1, .int 0), (0, .int bits)]) hx hb dX8_size_3 rfl hl (by decide) rfl (fun ls hl => ?_)
  have lp_1 : ∀ (fuel : Nat) (i : Nat), 16 - i < fuel → (i ≤ 16) → ∀ (ls : Array Slot), lv_has ls 3 [(0, .int bits), (1, .int (sizeI bits i)), (2, .int (nI i))] → W p l e (rmO 0 0) s m args below meth c0 s.heap [] 0 0 Q (F0 m 4 ls []) := by
    intro fuel
    induction fuel with
    | zero => intro i hfuel; exact absurd hfuel (Nat.not_lt_zero _)
    | succ fuel ih_lp_1 =>
      intro i hfuel hi ls hl
      refine lv_iload_n (pc := 4) hx hb dX8_size_4 rfl (lv_at hl 2 rfl) ?_
      refine lv_bipush (pc := 5) (v := 16) hx hb dX8_size_5 (by decide) ?_
      refine lv_icmp_ge (pc := 7) (tgt := 24) hx hb dX8_size_7 (by decide) (fun c_2 => ?_) (fun c_2 => ?_)
      · skip
        have c_2n : 16 ≤ i := (nI_leI (a := 16) (b := i) (by omega) (by omega)).mp c_2
        refine lv_iload_n (pc := 24) hx hb dX8_size_24 rfl (lv_at hl 1 rfl) ?_
        rw [hQ]; exact W.iret (pc := 25) hx hb hr (fun t9 ht _ => ⟨retI (by rw [show i = 16 by omega]), ht⟩) (fun _ h => nomatch h) dX8_size_25 hlocks
      · skip
        have c_2n : ¬ 16 ≤ i := fun hh => c_2 ((nI_leI (a := 16) (b := i) (by omega) (by omega)).mpr hh)
        refine lv_iload_n (pc := 10) hx hb dX8_size_10 rfl (lv_at hl 1 rfl) ?_
        refine lv_iload_n (pc := 11) hx hb dX8_size_11 rfl (lv_at hl 0 rfl) ?_
        refine lv_iload_n (pc := 12) hx hb dX8_size_12 rfl (lv_at hl 2 rfl) ?_
        refine lv_ishr (pc := 13) hx hb dX8_size_13 ?_
        refine lv_iconst (pc := 14) (v := 1) hx hb dX8_size_14 (by decide) ?_
        refine lv_iand (pc := 15) hx hb dX8_size_15 ?_
        refine lv_iadd (pc := 16) hx hb dX8_size_16 ?_
        refine lv_istore_n (pc := 17) (lv' := [(1, .int ((sizeI bits i) + ((bits >>> ((nI i) &&& 31)) &&& 1))), (0, .int bits), (2, .int (nI i))]) hx hb dX8_size_17 rfl hl (by decide) rfl (fun ls hl => ?_)
        refine lv_iinc (pc := 18) (v := nI (i + 1)) (lv' := [(2, .int (nI (i + 1))), (1, .int ((sizeI bits i) + ((bits >>> ((nI i) &&& 31)) &&& 1))), (0, .int bits)]) hx hb dX8_size_18 hl (k := 2) rfl (nI_add (i) 1) (by decide) rfl (fun ls hl => ?_)
        refine lv_goto (pc := 21) (tgt := 4) hx hb dX8_size_21 (by decide) ?_
        exact ih_lp_1 (i + 1) (by omega) (by omega) ls (by rw [show (sizeI bits (i + 1) : Int32) = (sizeI bits i) + ((bits >>> ((nI i) &&& 31)) &&& 1) from (rfl)]; exact lv_sub hl [2, 1, 0] rfl)
  exact lp_1 _ 0 (Nat.lt_succ_self _) (by omega) ls (lv_sub hl [2, 1, 0] rfl)
set_option maxRecDepth 100000 in
set_option maxHeartbeats 4000000 in
theorem k_X8_kindBy (c : Int32) : MR l yX8_kindBy cX8_kindBy 1 (some .int) 0 0 D kB kI kT ks sk sv [.int c] ([]) (some (.int (kindBy c))) := by
  refine MR.go (by decide +kernel) (Nat.le_of_ble_eq_true rfl) ?_
  intro p e s m below meth c0 args Q ls hQ hx hb hr hml hown hts hlocks hE hP hS hl
  have hl : lv_has ls 1 [(0, .int c)] := hl
  have hown : s.vm.findClass RX8 = some m.cls := hown
  refine lv_iload_n (pc := 0) hx hb dX8_kindBy_0 rfl (lv_at hl 0 rfl) ?_
  by_cases c_1 : c = 100
  · skip
    refine lv_lookup (pc := 1) (off := 59) (tgt := 60) hx hb dX8_kindBy_1 (by decide) (by rw [c_1]; try rfl) (by decide) ?_
    refine lv_iconst (pc := 60) (v := 4) hx hb dX8_kindBy_60 (by decide) ?_
    rw [hQ]; exact W.iret (pc := 61) hx hb hr (fun t9 ht _ => ⟨retI (by simp [kindBy, c_1]), ht⟩) (fun _ h => nomatch h) dX8_kindBy_61 hlocks
  by_cases c_2 : c = 102
  · skip
    refine lv_lookup (pc := 1) (off := 55) (tgt := 56) hx hb dX8_kindBy_1 (by decide) (by rw [c_2]; try rfl) (by decide) ?_
    refine lv_iconst (pc := 56) (v := 2) hx hb dX8_kindBy_56 (by decide) ?_
    rw [hQ]; exact W.iret (pc := 57) hx hb hr (fun t9 ht _ => ⟨retI (by simp [kindBy, c_1, c_2]), ht⟩) (fun _ h => nomatch h) dX8_kindBy_57 hlocks
  by_cases c_3 : c = 103
  · skip
    refine lv_lookup (pc := 1) (off := 53) (tgt := 54) hx hb dX8_kindBy_1 (by decide) (by rw [c_3]; try rfl) (by decide) ?_
    refine lv_iconst (pc := 54) (v := 1) hx hb dX8_kindBy_54 (by decide) ?_
    rw [hQ]; exact W.iret (pc := 55) hx hb hr (fun t9 ht _ => ⟨retI (by simp [kindBy, c_1, c_2, c_3]), ht⟩) (fun _ h => nomatch h) dX8_kindBy_55 hlocks
  by_cases c_4 : c = 114
  · skip
    refine lv_lookup (pc := 1) (off := 57) (tgt := 58) hx hb dX8_kindBy_1 (by decide) (by rw [c_4]; try rfl) (by decide) ?_
    refine lv_iconst (pc := 58) (v := 3) hx hb dX8_kindBy_58 (by decide) ?_
    rw [hQ]; exact W.iret (pc := 59) hx hb hr (fun t9 ht _ => ⟨retI (by simp [kindBy, c_1, c_2, c_3, c_4]), ht⟩) (fun _ h => nomatch h) dX8_kindBy_59 hlocks
  by_cases c_5 : c = 116
  · skip
    refine lv_lookup (pc := 1) (off := 51) (tgt := 52) hx hb dX8_kindBy_1 (by decide) (by rw [c_5]; try rfl) (by decide) ?_
    refine lv_iconst (pc := 52) (v := 0) hx hb dX8_kindBy_52 (by decide) ?_
    rw [hQ]; exact W.iret (pc := 53) hx hb hr (fun t9 ht _ => ⟨retI (by simp [kindBy, c_1, c_2, c_3, c_4, c_5]), ht⟩) (fun _ h => nomatch h) dX8_kindBy_53 hlocks
  refine lv_lookup (pc := 1) (off := 61) (tgt := 62) hx hb dX8_kindBy_1 (by decide) (by show Op.lookupswitch.offset [(100, 59), (102, 55), (103, 53), (114, 57), (116, 51)] 61 (c).toInt = 61; rw [lv_osw (a := 100) c_1 (by decide), lv_osw (a := 102) c_2 (by decide), lv_osw (a := 103) c_3 (by decide), lv_osw (a := 114) c_4 (by decide), lv_osw (a := 116) c_5 (by decide)]; try rfl) (by decide) ?_
  refine lv_iconst (pc := 62) (v := (-1)) hx hb dX8_kindBy_62 (by decide) ?_
  rw [hQ]; exact W.iret (pc := 63) hx hb hr (fun t9 ht _ => ⟨retI (by simp [kindBy, c_1, c_2, c_3, c_4, c_5]), ht⟩) (fun _ h => nomatch h) dX8_kindBy_63 hlocks
set_option maxRecDepth 100000 in
set_option maxHeartbeats 4000000 in
theorem k_X8_at {o : Nat} {a : Nat → Nat} {z : Nat → Int32} {g : Nat → Int64} {r : Nat → Nat → Int32} (k : Nat) {pn : Nat} (hz14 : z 14 = nI pn) (hpn : pn ≤ 40) (hk : k < 2147483648) : MR l yX8_at cX8_at 2 (some .int) 0 0 D kB kI kT ks sk sv [.ref o, .int (nI k)] (wR kB kI o a z g r) (some (.int (atP (r 15) pn k))) := by
  refine MR.go (by decide +kernel) (Nat.le_of_ble_eq_true rfl) ?_
  intro p e s m below meth c0 args Q ls hQ hx hb hr hml hown hts hlocks hE hP hS hl
  have hl : lv_has ls 2 [(0, .ref o), (1, .int (nI k))] := hl
  have hown : s.vm.findClass RX8 = some m.cls := hown
  refine lv_iload_n (pc := 0) hx hb dX8_at_0 rfl (lv_at hl 1 rfl) ?_
  refine lv_aload_n (pc := 1) hx hb dX8_at_1 rfl (lv_at hl 0 rfl) ?_
  refine fget (pc := 2) (v := .int (z 14)) hx hb hts hown hE hP fl_X8_90 0 rfl rfl dX8_at_2 ?_
  refine vEq (v := nI pn) hz14 ?_
  refine lv_icmp_ge (pc := 5) (tgt := 17) hx hb dX8_at_5 (by decide) (fun c_1 => ?_) (fun c_1 => ?_)
  · skip
    have c_1n : pn ≤ k := (nI_leI (a := pn) (b := k) (by omega) (by omega)).mp c_1
    refine lv_iconst (pc := 17) (v := 0) hx hb dX8_at_17 (by decide) ?_
    rw [hQ]; exact W.iret (pc := 18) hx hb hr (fun t9 ht _ => ⟨retI (by simp [atP]; omega), ht⟩) (fun _ h => nomatch h) dX8_at_18 hlocks
  · skip
    have c_1n : ¬ pn ≤ k := fun hh => c_1 ((nI_leI (a := pn) (b := k) (by omega) (by omega)).mpr hh)
    refine lv_aload_n (pc := 8) hx hb dX8_at_8 rfl (lv_at hl 0 rfl) ?_
    refine fget (pc := 9) (v := .ref (a 15)) hx hb hts hown hE hP fl_X8_40 0 rfl rfl dX8_at_9 ?_
    refine lv_iload_n (pc := 12) hx hb dX8_at_12 rfl (lv_at hl 1 rfl) ?_
    refine aldB (pc := 13) hx hb hE hP 11 rfl (k) (by omega) (by omega) dX8_at_13 ?_
    refine lv_goto (pc := 14) (tgt := 18) hx hb dX8_at_14 (by decide) ?_
    rw [hQ]; exact W.iret (pc := 18) hx hb hr (fun t9 ht _ => ⟨retI (by simp [atP]; omega), ht⟩) (fun _ h => nomatch h) dX8_at_18 hlocks
set_option maxRecDepth 100000 in
set_option maxHeartbeats 4000000 in
theorem k_X8_least {o : Nat} {a : Nat → Nat} {z : Nat → Int32} {g : Nat → Int64} {r : Nat → Nat → Int32} (x : Int32) {nt : Nat} (hz18 : z 18 = nI nt) (hnt : nt < 5) : MR l yX8_least cX8_least 2 (some .int) 0 0 D kB kI kT ks sk sv [.ref o, .int x] (wR kB kI o a z g r) (some (.int (leastP (r 19) nt x))) := by
  refine MR.go (by decide +kernel) (Nat.le_of_ble_eq_true rfl) ?_
  intro p e s m below meth c0 args Q ls hQ hx hb hr hml hown hts hlocks hE hP hS hl
  have hl : lv_has ls 2 [(0, .ref o), (1, .int x)] := hl
  have hown : s.vm.findClass RX8 = some m.cls := hown
  refine lv_iload_n (pc := 0) hx hb dX8_least_0 rfl (lv_at hl 1 rfl) ?_
  by_cases c_1 : x = 1
  · skip
    refine lv_tableIn (pc := 1) (off := 31) (tgt := 32) hx hb dX8_least_1 (by rw [c_1]; decide) (by rw [c_1]; decide) (by rw [c_1]; try rfl) (by decide) ?_
    refine lv_bipush (pc := 32) (v := 48) hx hb dX8_least_32 (by decide) ?_
    rw [hQ]; exact W.iret (pc := 34) hx hb hr (fun t9 ht _ => ⟨retI (by simp [leastP, c_1]), ht⟩) (fun _ h => nomatch h) dX8_least_34 hlocks
  by_cases c_2 : x = 2
  · skip
    refine lv_tableIn (pc := 1) (off := 31) (tgt := 32) hx hb dX8_least_1 (by rw [c_2]; decide) (by rw [c_2]; decide) (by rw [c_2]; try rfl) (by decide) ?_
    refine lv_bipush (pc := 32) (v := 48) hx hb dX8_least_32 (by decide) ?_
    rw [hQ]; exact W.iret (pc := 34) hx hb hr (fun t9 ht _ => ⟨retI (by simp [leastP, c_1, c_2]), ht⟩) (fun _ h => nomatch h) dX8_least_34 hlocks
  by_cases c_3 : x = 3
  · skip
    refine lv_tableIn (pc := 1) (off := 34) (tgt := 35) hx hb dX8_least_1 (by rw [c_3]; decide) (by rw [c_3]; decide) (by rw [c_3]; try rfl) (by decide) ?_
    refine lv_bipush (pc := 35) (v := 97) hx hb dX8_least_35 (by decide) ?_
    rw [hQ]; exact W.iret (pc := 37) hx hb hr (fun t9 ht _ => ⟨retI (by simp [leastP, c_1, c_2, c_3]), ht⟩) (fun _ h => nomatch h) dX8_least_37 hlocks
  by_cases c_4 : x = 4
  · skip
    refine lv_tableIn (pc := 1) (off := 37) (tgt := 38) hx hb dX8_least_1 (by rw [c_4]; decide) (by rw [c_4]; decide) (by rw [c_4]; try rfl) (by decide) ?_
    refine lv_bipush (pc := 38) (v := 97) hx hb dX8_least_38 (by decide) ?_
    refine lv_aload_n (pc := 40) hx hb dX8_least_40 rfl (lv_at hl 0 rfl) ?_
    refine fget (pc := 41) (v := .ref (a 19)) hx hb hts hown hE hP fl_X8_44 0 rfl rfl dX8_least_41 ?_
    refine lv_bipush (pc := 44) (v := 6) hx hb dX8_least_44 (by decide) ?_
    refine lv_aload_n (pc := 46) hx hb dX8_least_46 rfl (lv_at hl 0 rfl) ?_
    refine fget (pc := 47) (v := .int (z 18)) hx hb hts hown hE hP fl_X8_94 0 rfl rfl dX8_least_47 ?_
    refine vEq (v := nI nt) hz18 ?_
    refine imulV (pc := 50) (v := nI (6 * nt)) hx hb dX8_least_50 (pk_mul (6) (nt)) ?_
    refine lv_iconst (pc := 51) (v := 3) hx hb dX8_least_51 (by decide) ?_
    refine iaddV (pc := 52) (v := nI (6 * nt + 3)) hx hb dX8_least_52 (nI_add (6 * nt) (3)) ?_
    refine aldN (pc := 53) hx hb hE hP 12 rfl (6 * nt + 3) (by omega) (by omega) dX8_least_53 ?_
    refine lv_iadd (pc := 54) hx hb dX8_least_54 ?_
    rw [hQ]; exact W.iret (pc := 55) hx hb hr (fun t9 ht _ => ⟨retI (by simp [leastP, c_1, c_2, c_3, c_4]), ht⟩) (fun _ h => nomatch h) dX8_least_55 hlocks
  refine lv_tableOut (pc := 1) (tgt := 56) hx hb dX8_least_1 (by (have q0 : ¬ x.toInt = 1 := fun q => c_1 (Int32.toInt_inj.mp (q.trans rfl)); have q1 : ¬ x.toInt = 2 := fun q => c_2 (Int32.toInt_inj.mp (q.trans rfl)); have q2 : ¬ x.toInt = 3 := fun q => c_3 (Int32.toInt_inj.mp (q.trans rfl)); have q3 : ¬ x.toInt = 4 := fun q => c_4 (Int32.toInt_inj.mp (q.trans rfl)); omega)) (by decide) ?_
  refine lv_bipush (pc := 56) (v := 49) hx hb dX8_least_56 (by decide) ?_
  rw [hQ]; exact W.iret (pc := 58) hx hb hr (fun t9 ht _ => ⟨retI (by simp [leastP, c_1, c_2, c_3, c_4]), ht⟩) (fun _ h => nomatch h) dX8_least_58 hlocks
set_option maxRecDepth 100000 in
set_option maxHeartbeats 4000000 in
theorem k_X8_most (x : Int32) : MR l yX8_most cX8_most 1 (some .int) 0 0 D kB kI kT ks sk sv [.int x] ([]) (some (.int (mostP x))) := by
  refine MR.go (by decide +kernel) (Nat.le_of_ble_eq_true rfl) ?_
  intro p e s m below meth c0 args Q ls hQ hx hb hr hml hown hts hlocks hE hP hS hl
  have hl : lv_has ls 1 [(0, .int x)] := hl
  have hown : s.vm.findClass RX8 = some m.cls := hown
  refine lv_iload_n (pc := 0) hx hb dX8_most_0 rfl (lv_at hl 0 rfl) ?_
  refine lv_iconst (pc := 1) (v := 3) hx hb dX8_most_1 (by decide) ?_
  refine lv_icmp_ge (pc := 2) (tgt := 10) hx hb dX8_most_2 (by decide) (fun c_1 => ?_) (fun c_1 => ?_)
  · skip
    refine lv_iload_n (pc := 10) hx hb dX8_most_10 rfl (lv_at hl 0 rfl) ?_
    refine lv_iconst (pc := 11) (v := 5) hx hb dX8_most_11 (by decide) ?_
    refine lv_icmp_ge (pc := 12) (tgt := 20) hx hb dX8_most_12 (by decide) (fun c_2 => ?_) (fun c_2 => ?_)
    · skip
      refine lv_bipush (pc := 20) (v := 57) hx hb dX8_most_20 (by decide) ?_
      rw [hQ]; exact W.iret (pc := 22) hx hb hr (fun t9 ht _ => ⟨retI (by simp [mostP, c_1, c_2]), ht⟩) (fun _ h => nomatch h) dX8_most_22 hlocks
    · skip
      refine lv_bipush (pc := 15) (v := 108) hx hb dX8_most_15 (by decide) ?_
      refine lv_goto (pc := 17) (tgt := 22) hx hb dX8_most_17 (by decide) ?_
      rw [hQ]; exact W.iret (pc := 22) hx hb hr (fun t9 ht _ => ⟨retI (by simp [mostP, c_1, c_2]), ht⟩) (fun _ h => nomatch h) dX8_most_22 hlocks
  · skip
    refine lv_bipush (pc := 5) (v := 52) hx hb dX8_most_5 (by decide) ?_
    refine lv_goto (pc := 7) (tgt := 22) hx hb dX8_most_7 (by decide) ?_
    rw [hQ]; exact W.iret (pc := 22) hx hb hr (fun t9 ht _ => ⟨retI (by simp [mostP, c_1]), ht⟩) (fun _ h => nomatch h) dX8_most_22 hlocks
set_option maxRecDepth 100000 in
set_option maxHeartbeats 4000000 in
theorem k_X8_could (k : Int32) (w : Int32) : MR l yX8_could cX8_could 2 (some .boolean) 0 0 D kB kI kT ks sk sv [.int k, .int w] ([]) (some (.int (bi (couldB k w = true)))) := by
  refine MR.go (by decide +kernel) (Nat.le_of_ble_eq_true rfl) ?_
  intro p e s m below meth c0 args Q ls hQ hx hb hr hml hown hts hlocks hE hP hS hl
  have hl : lv_has ls 2 [(0, .int k), (1, .int w)] := hl
  have hown : s.vm.findClass RX8 = some m.cls := hown
  refine lv_iload_n (pc := 0) hx hb dX8_could_0 rfl (lv_at hl 1 rfl) ?_
  by_cases c_1 : w = 0
  · skip
    refine lv_tableIn (pc := 1) (off := 27) (tgt := 28) hx hb dX8_could_1 (by rw [c_1]; decide) (by rw [c_1]; decide) (by rw [c_1]; try rfl) (by decide) ?_
    refine lv_iload_n (pc := 28) hx hb dX8_could_28 rfl (lv_at hl 0 rfl) ?_
    refine lv_iconst (pc := 29) (v := 1) hx hb dX8_could_29 (by decide) ?_
    refine lv_icmp_eq (pc := 30) (tgt := 42) hx hb dX8_could_30 (by decide) (fun c_2 => ?_) (fun c_2 => ?_)
    · skip
      refine lv_iconst (pc := 42) (v := 0) hx hb dX8_could_42 (by decide) ?_
      rw [hQ]; exact W.zret (pc := 43) hx hb hr rfl (fun t9 ht _ => ⟨retI (bi_f (by simp [couldB, c_1, c_2])), ht⟩) (fun _ h => nomatch h) dX8_could_43 hlocks
    · skip
      refine lv_iload_n (pc := 33) hx hb dX8_could_33 rfl (lv_at hl 0 rfl) ?_
      refine lv_iconst (pc := 34) (v := 2) hx hb dX8_could_34 (by decide) ?_
      refine lv_icmp_eq (pc := 35) (tgt := 42) hx hb dX8_could_35 (by decide) (fun c_3 => ?_) (fun c_3 => ?_)
      · skip
        refine lv_iconst (pc := 42) (v := 0) hx hb dX8_could_42 (by decide) ?_
        rw [hQ]; exact W.zret (pc := 43) hx hb hr rfl (fun t9 ht _ => ⟨retI (bi_f (by simp [couldB, c_1, c_2, c_3])), ht⟩) (fun _ h => nomatch h) dX8_could_43 hlocks
      · skip
        refine lv_iconst (pc := 38) (v := 1) hx hb dX8_could_38 (by decide) ?_
        refine lv_goto (pc := 39) (tgt := 43) hx hb dX8_could_39 (by decide) ?_
        rw [hQ]; exact W.zret (pc := 43) hx hb hr rfl (fun t9 ht _ => ⟨retI (bi_t (by simp [couldB, c_1, c_2, c_3])), ht⟩) (fun _ h => nomatch h) dX8_could_43 hlocks
  by_cases c_4 : w = 1
  · skip
    refine lv_tableIn (pc := 1) (off := 43) (tgt := 44) hx hb dX8_could_1 (by rw [c_4]; decide) (by rw [c_4]; decide) (by rw [c_4]; try rfl) (by decide) ?_
    refine lv_iload_n (pc := 44) hx hb dX8_could_44 rfl (lv_at hl 0 rfl) ?_
    refine lv_iconst (pc := 45) (v := 3) hx hb dX8_could_45 (by decide) ?_
    refine lv_icmp_eq (pc := 46) (tgt := 53) hx hb dX8_could_46 (by decide) (fun c_5 => ?_) (fun c_5 => ?_)
    · skip
      refine lv_iconst (pc := 53) (v := 0) hx hb dX8_could_53 (by decide) ?_
      rw [hQ]; exact W.zret (pc := 54) hx hb hr rfl (fun t9 ht _ => ⟨retI (bi_f (by simp [couldB, c_1, c_4, c_5])), ht⟩) (fun _ h => nomatch h) dX8_could_54 hlocks
    · skip
      refine lv_iconst (pc := 49) (v := 1) hx hb dX8_could_49 (by decide) ?_
      refine lv_goto (pc := 50) (tgt := 54) hx hb dX8_could_50 (by decide) ?_
      rw [hQ]; exact W.zret (pc := 54) hx hb hr rfl (fun t9 ht _ => ⟨retI (bi_t (by simp [couldB, c_1, c_4, c_5])), ht⟩) (fun _ h => nomatch h) dX8_could_54 hlocks
  by_cases c_6 : w = 2
  · skip
    refine lv_tableIn (pc := 1) (off := 54) (tgt := 55) hx hb dX8_could_1 (by rw [c_6]; decide) (by rw [c_6]; decide) (by rw [c_6]; try rfl) (by decide) ?_
    refine lv_iload_n (pc := 55) hx hb dX8_could_55 rfl (lv_at hl 0 rfl) ?_
    refine lv_iconst (pc := 56) (v := 1) hx hb dX8_could_56 (by decide) ?_
    refine lv_icmp_eq (pc := 57) (tgt := 65) hx hb dX8_could_57 (by decide) (fun c_7 => ?_) (fun c_7 => ?_)
    · skip
      refine lv_iconst (pc := 65) (v := 1) hx hb dX8_could_65 (by decide) ?_
      refine lv_goto (pc := 66) (tgt := 70) hx hb dX8_could_66 (by decide) ?_
      rw [hQ]; exact W.zret (pc := 70) hx hb hr rfl (fun t9 ht _ => ⟨retI (bi_t (by simp [couldB, c_1, c_4, c_6, c_7])), ht⟩) (fun _ h => nomatch h) dX8_could_70 hlocks
    · skip
      refine lv_iload_n (pc := 60) hx hb dX8_could_60 rfl (lv_at hl 0 rfl) ?_
      refine lv_iconst (pc := 61) (v := 2) hx hb dX8_could_61 (by decide) ?_
      refine lv_icmp_ne (pc := 62) (tgt := 69) hx hb dX8_could_62 (by decide) (fun c_8 => ?_) (fun c_8 => ?_)
      · skip
        refine lv_iconst (pc := 69) (v := 0) hx hb dX8_could_69 (by decide) ?_
        rw [hQ]; exact W.zret (pc := 70) hx hb hr rfl (fun t9 ht _ => ⟨retI (bi_f (by simp [couldB, c_1, c_4, c_6, c_7, c_8])), ht⟩) (fun _ h => nomatch h) dX8_could_70 hlocks
      · skip
        refine lv_iconst (pc := 65) (v := 1) hx hb dX8_could_65 (by decide) ?_
        refine lv_goto (pc := 66) (tgt := 70) hx hb dX8_could_66 (by decide) ?_
        rw [hQ]; exact W.zret (pc := 70) hx hb hr rfl (fun t9 ht _ => ⟨retI (bi_t (by simp [couldB, c_1, c_4, c_6, c_7, c_8])), ht⟩) (fun _ h => nomatch h) dX8_could_70 hlocks
  refine lv_tableOut (pc := 1) (tgt := 71) hx hb dX8_could_1 (by (have q0 : ¬ w.toInt = 0 := fun q => c_1 (Int32.toInt_inj.mp (q.trans rfl)); have q1 : ¬ w.toInt = 1 := fun q => c_4 (Int32.toInt_inj.mp (q.trans rfl)); have q2 : ¬ w.toInt = 2 := fun q => c_6 (Int32.toInt_inj.mp (q.trans rfl)); omega)) (by decide) ?_
  refine lv_iload_n (pc := 71) hx hb dX8_could_71 rfl (lv_at hl 0 rfl) ?_
  refine lv_iconst (pc := 72) (v := 4) hx hb dX8_could_72 (by decide) ?_
  refine lv_icmp_ne (pc := 73) (tgt := 80) hx hb dX8_could_73 (by decide) (fun c_9 => ?_) (fun c_9 => ?_)
  · skip
    refine lv_iconst (pc := 80) (v := 0) hx hb dX8_could_80 (by decide) ?_
    rw [hQ]; exact W.zret (pc := 81) hx hb hr rfl (fun t9 ht _ => ⟨retI (bi_f (by simp [couldB, c_1, c_4, c_6, c_9])), ht⟩) (fun _ h => nomatch h) dX8_could_81 hlocks
  · skip
    refine lv_iconst (pc := 76) (v := 1) hx hb dX8_could_76 (by decide) ?_
    refine lv_goto (pc := 77) (tgt := 81) hx hb dX8_could_77 (by decide) ?_
    rw [hQ]; exact W.zret (pc := 81) hx hb hr rfl (fun t9 ht _ => ⟨retI (bi_t (by simp [couldB, c_1, c_4, c_6, c_9])), ht⟩) (fun _ h => nomatch h) dX8_could_81 hlocks
end
end
section
section
variable {l : Launch} {D : va_G} {kB kI kT : ClassId} {ks sk sv : Nat}
set_option maxRecDepth 100000 in
set_option maxHeartbeats 4000000 in
theorem k_X8_sortsOf {o : Nat} {a : Nat → Nat} {z : Nat → Int32} {g : Nat → Int64} {r : Nat → Nat → Int32} (t : Int32) {sn : Nat} (hz10 : z 10 = nI sn) (hsn : sn ≤ 6) : MR l yX8_sortsOf cX8_sortsOf 6 (some .int) 1 21 D kB kI kT ks sk sv [.ref o, .int t] (wR kB kI o a z g r) (some (.int (sortsS (r 11) (r 12) (r 13) sn t 5))) := by
  refine MR.go (by decide +kernel) (Nat.le_of_ble_eq_true rfl) ?_
  intro p e s m below meth c0 args Q ls hQ hx hb hr hml hown hts hlocks hE hP hS hl
  have hl : lv_has ls 6 [(0, .ref o), (1, .int t)] := hl
  have hown : s.vm.findClass RX8 = some m.cls := hown
  refine lv_iconst (pc := 0) (v := 0) hx hb dX8_sortsOf_0 (by decide) ?_
  refine lv_istore_n (pc := 1) (lv' := [(2, .int 0), (0, .ref o), (1, .int t)]) hx hb dX8_sortsOf_1 rfl hl (by decide) rfl (fun ls hl => ?_)
  refine lv_iconst (pc := 2) (v := 0) hx hb dX8_sortsOf_2 (by decide) ?_
  refine lv_istore_n (pc := 3) (lv' := [(3, .int 0), (2, .int 0), (0, .ref o), (1, .int t)]) hx hb dX8_sortsOf_3 rfl hl (by decide) rfl (fun ls hl => ?_)
  have lp_1 : ∀ (fuel : Nat) (kind : Nat), 5 - kind < fuel → (kind ≤ 5) → ∀ (ls : Array Slot), lv_has ls 6 [(0, .ref o), (1, .int t), (2, .int (sortsS (r 11) (r 12) (r 13) sn t kind)), (3, .int (nI kind))] → W p l e (rmO 1 21) s m args below meth c0 s.heap [] 0 0 Q (F0 m 4 ls []) := by
    intro fuel
    induction fuel with
    | zero => intro kind hfuel; exact absurd hfuel (Nat.not_lt_zero _)
    | succ fuel ih_lp_1 =>
      intro kind hfuel hkind ls hl
      refine lv_iload_n (pc := 4) hx hb dX8_sortsOf_4 rfl (lv_at hl 3 rfl) ?_
      refine lv_iconst (pc := 5) (v := 4) hx hb dX8_sortsOf_5 (by decide) ?_
      refine lv_icmp_gt (pc := 6) (tgt := 104) hx hb dX8_sortsOf_6 (by decide) (fun c_2 => ?_) (fun c_2 => ?_)
      · skip
        have c_2n : 4 < kind := (nI_ltI (a := 4) (b := kind) (by omega) (by omega)).mp c_2
        refine lv_iload_n (pc := 104) hx hb dX8_sortsOf_104 rfl (lv_at hl 2 rfl) ?_
        rw [hQ]; exact W.iret (pc := 105) hx hb hr (fun t9 ht _ => ⟨retI (by rw [show kind = 5 by omega]), ht⟩) (fun _ h => nomatch h) dX8_sortsOf_105 hlocks
      · skip
        have c_2n : ¬ 4 < kind := fun hh => c_2 ((nI_ltI (a := 4) (b := kind) (by omega) (by omega)).mpr hh)
        refine lv_iconst (pc := 9) (v := 1) hx hb dX8_sortsOf_9 (by decide) ?_
        refine lv_istore (pc := 10) (lv' := [(4, .int 1), (0, .ref o), (1, .int t), (2, .int (sortsS (r 11) (r 12) (r 13) sn t kind)), (3, .int (nI kind))]) hx hb dX8_sortsOf_10 hl (by decide) rfl (fun ls hl => ?_)
        refine lv_iconst (pc := 12) (v := 0) hx hb dX8_sortsOf_12 (by decide) ?_
        refine lv_istore (pc := 13) (lv' := [(5, .int 0), (4, .int 1), (0, .ref o), (1, .int t), (2, .int (sortsS (r 11) (r 12) (r 13) sn t kind)), (3, .int (nI kind))]) hx hb dX8_sortsOf_13 hl (by decide) rfl (fun ls hl => ?_)
        have lp_3 : ∀ (fuel : Nat) (k : Nat), sn - k < fuel → (k ≤ sn) → ∀ (ls : Array Slot), lv_has ls 6 [(0, .ref o), (1, .int t), (2, .int (sortsS (r 11) (r 12) (r 13) sn t kind)), (3, .int (nI kind)), (4, .int (bi (allB (seenOk (r 11) (r 12) (r 13) t (nI kind)) k = true))), (5, .int (nI k))] → W p l e (rmO 1 21) s m args below meth c0 s.heap [] 0 0 Q (F0 m 15 ls []) := by
          intro fuel
          induction fuel with
          | zero => intro k hfuel; exact absurd hfuel (Nat.not_lt_zero _)
          | succ fuel ih_lp_3 =>
            intro k hfuel hk ls hl
            refine lv_iload (pc := 15) hx hb dX8_sortsOf_15 (lv_at hl 5 rfl) ?_
            refine lv_aload_n (pc := 17) hx hb dX8_sortsOf_17 rfl (lv_at hl 0 rfl) ?_
            refine fget (pc := 18) (v := .int (z 10)) hx hb hts hown hE hP fl_X8_130 0 rfl rfl dX8_sortsOf_18 ?_
            refine vEq (v := nI sn) hz10 ?_
            refine lv_icmp_ge (pc := 21) (tgt := 83) hx hb dX8_sortsOf_21 (by decide) (fun c_4 => ?_) (fun c_4 => ?_)
            · skip
              have c_4n : sn ≤ k := (nI_leI (a := sn) (b := k) (by omega) (by omega)).mp c_4
              have hks : k = sn := by omega
              refine lv_iload_n (pc := 83) hx hb dX8_sortsOf_83 rfl (lv_at hl 2 rfl) ?_
              refine lv_iload (pc := 84) hx hb dX8_sortsOf_84 (lv_at hl 4 rfl) ?_
              refine bif_eq (pc := 86) (tgt := 95) hx hb dX8_sortsOf_86 (by decide) (fun c_5 => ?_) (fun c_5 => ?_)
              · skip
                refine lv_iconst (pc := 95) (v := 0) hx hb dX8_sortsOf_95 (by decide) ?_
                refine lv_ior (pc := 96) hx hb dX8_sortsOf_96 ?_
                refine lv_istore_n (pc := 97) (lv' := [(2, .int ((sortsS (r 11) (r 12) (r 13) sn t kind) ||| 0)), (0, .ref o), (1, .int t), (3, .int (nI kind)), (4, .int (bi (allB (seenOk (r 11) (r 12) (r 13) t (nI kind)) k = true))), (5, .int (nI k))]) hx hb dX8_sortsOf_97 rfl hl (by decide) rfl (fun ls hl => ?_)
                refine lv_iinc (pc := 98) (v := nI (kind + 1)) (lv' := [(3, .int (nI (kind + 1))), (2, .int ((sortsS (r 11) (r 12) (r 13) sn t kind) ||| 0)), (0, .ref o), (1, .int t), (4, .int (bi (allB (seenOk (r 11) (r 12) (r 13) t (nI kind)) k = true))), (5, .int (nI k))]) hx hb dX8_sortsOf_98 hl (k := 3) rfl (nI_add (kind) 1) (by decide) rfl (fun ls hl => ?_)
                refine lv_goto (pc := 101) (tgt := 4) hx hb dX8_sortsOf_101 (by decide) ?_
                exact ih_lp_1 (kind + 1) (by omega) (by omega) ls (by rw [show (sortsS (r 11) (r 12) (r 13) sn t (kind + 1) : Int32) = (sortsS (r 11) (r 12) (r 13) sn t kind) ||| 0 from (by simp [sortsS, orI, ← hks, c_2, c_4, c_5])]; exact lv_sub hl [2, 3, 1, 0] rfl)
              · skip
                refine lv_iconst (pc := 89) (v := 1) hx hb dX8_sortsOf_89 (by decide) ?_
                refine lv_iload_n (pc := 90) hx hb dX8_sortsOf_90 rfl (lv_at hl 3 rfl) ?_
                refine lv_ishl (pc := 91) hx hb dX8_sortsOf_91 ?_
                refine lv_goto (pc := 92) (tgt := 96) hx hb dX8_sortsOf_92 (by decide) ?_
                refine lv_ior (pc := 96) hx hb dX8_sortsOf_96 ?_
                refine lv_istore_n (pc := 97) (lv' := [(2, .int ((sortsS (r 11) (r 12) (r 13) sn t kind) ||| (1 <<< ((nI kind) &&& 31)))), (0, .ref o), (1, .int t), (3, .int (nI kind)), (4, .int (bi (allB (seenOk (r 11) (r 12) (r 13) t (nI kind)) k = true))), (5, .int (nI k))]) hx hb dX8_sortsOf_97 rfl hl (by decide) rfl (fun ls hl => ?_)
                refine lv_iinc (pc := 98) (v := nI (kind + 1)) (lv' := [(3, .int (nI (kind + 1))), (2, .int ((sortsS (r 11) (r 12) (r 13) sn t kind) ||| (1 <<< ((nI kind) &&& 31)))), (0, .ref o), (1, .int t), (4, .int (bi (allB (seenOk (r 11) (r 12) (r 13) t (nI kind)) k = true))), (5, .int (nI k))]) hx hb dX8_sortsOf_98 hl (k := 3) rfl (nI_add (kind) 1) (by decide) rfl (fun ls hl => ?_)
                refine lv_goto (pc := 101) (tgt := 4) hx hb dX8_sortsOf_101 (by decide) ?_
                exact ih_lp_1 (kind + 1) (by omega) (by omega) ls (by rw [show (sortsS (r 11) (r 12) (r 13) sn t (kind + 1) : Int32) = (sortsS (r 11) (r 12) (r 13) sn t kind) ||| (1 <<< ((nI kind) &&& 31)) from (by simp [sortsS, orI, ← hks, c_2, c_4, c_5])]; exact lv_sub hl [2, 3, 1, 0] rfl)
            · skip
              have c_4n : ¬ sn ≤ k := fun hh => c_4 ((nI_leI (a := sn) (b := k) (by omega) (by omega)).mpr hh)
              refine lv_iload (pc := 24) hx hb dX8_sortsOf_24 (lv_at hl 4 rfl) ?_
              refine bif_eq (pc := 26) (tgt := 74) hx hb dX8_sortsOf_26 (by decide) (fun c_6 => ?_) (fun c_6 => ?_)
              · skip
                refine lv_iconst (pc := 74) (v := 0) hx hb dX8_sortsOf_74 (by decide) ?_
                refine lv_istore (pc := 75) (lv' := [(4, .int 0), (0, .ref o), (1, .int t), (2, .int (sortsS (r 11) (r 12) (r 13) sn t kind)), (3, .int (nI kind)), (5, .int (nI k))]) hx hb dX8_sortsOf_75 hl (by decide) rfl (fun ls hl => ?_)
                refine lv_iinc (pc := 77) (v := nI (k + 1)) (lv' := [(5, .int (nI (k + 1))), (4, .int 0), (0, .ref o), (1, .int t), (2, .int (sortsS (r 11) (r 12) (r 13) sn t kind)), (3, .int (nI kind))]) hx hb dX8_sortsOf_77 hl (k := 5) rfl (nI_add (k) 1) (by decide) rfl (fun ls hl => ?_)
                refine lv_goto (pc := 80) (tgt := 15) hx hb dX8_sortsOf_80 (by decide) ?_
                exact ih_lp_3 (k + 1) (by omega) (by omega) ls (by rw [show (bi (allB (seenOk (r 11) (r 12) (r 13) t (nI kind)) (k + 1) = true) : Int32) = 0 from (by simp_all [allB, seenOk, bi])]; exact lv_sub hl [2, 3, 4, 5, 1, 0] rfl)
              · skip
                refine lv_aload_n (pc := 29) hx hb dX8_sortsOf_29 rfl (lv_at hl 0 rfl) ?_
                refine fget (pc := 30) (v := .ref (a 11)) hx hb hts hown hE hP fl_X8_31 0 rfl rfl dX8_sortsOf_30 ?_
                refine lv_iload (pc := 33) hx hb dX8_sortsOf_33 (lv_at hl 5 rfl) ?_
                refine aldN (pc := 35) hx hb hE hP 8 rfl (k) (by omega) (by omega) dX8_sortsOf_35 ?_
                refine lv_iload_n (pc := 36) hx hb dX8_sortsOf_36 rfl (lv_at hl 1 rfl) ?_
                refine lv_icmp_ne (pc := 37) (tgt := 70) hx hb dX8_sortsOf_37 (by decide) (fun c_7 => ?_) (fun c_7 => ?_)
                · skip
                  refine lv_iconst (pc := 70) (v := 1) hx hb dX8_sortsOf_70 (by decide) ?_
                  refine lv_goto (pc := 71) (tgt := 75) hx hb dX8_sortsOf_71 (by decide) ?_
                  refine lv_istore (pc := 75) (lv' := [(4, .int 1), (0, .ref o), (1, .int t), (2, .int (sortsS (r 11) (r 12) (r 13) sn t kind)), (3, .int (nI kind)), (5, .int (nI k))]) hx hb dX8_sortsOf_75 hl (by decide) rfl (fun ls hl => ?_)
                  refine lv_iinc (pc := 77) (v := nI (k + 1)) (lv' := [(5, .int (nI (k + 1))), (4, .int 1), (0, .ref o), (1, .int t), (2, .int (sortsS (r 11) (r 12) (r 13) sn t kind)), (3, .int (nI kind))]) hx hb dX8_sortsOf_77 hl (k := 5) rfl (nI_add (k) 1) (by decide) rfl (fun ls hl => ?_)
                  refine lv_goto (pc := 80) (tgt := 15) hx hb dX8_sortsOf_80 (by decide) ?_
                  exact ih_lp_3 (k + 1) (by omega) (by omega) ls (by rw [show (bi (allB (seenOk (r 11) (r 12) (r 13) t (nI kind)) (k + 1) = true) : Int32) = 1 from (by simp_all [allB, seenOk, bi])]; exact lv_sub hl [2, 3, 4, 5, 1, 0] rfl)
                · skip
                  refine lv_iload_n (pc := 40) hx hb dX8_sortsOf_40 rfl (lv_at hl 3 rfl) ?_
                  refine lv_aload_n (pc := 41) hx hb dX8_sortsOf_41 rfl (lv_at hl 0 rfl) ?_
                  refine fget (pc := 42) (v := .ref (a 12)) hx hb hts hown hE hP fl_X8_34 0 rfl rfl dX8_sortsOf_42 ?_
                  refine lv_iload (pc := 45) hx hb dX8_sortsOf_45 (lv_at hl 5 rfl) ?_
                  refine aldN (pc := 47) hx hb hE hP 9 rfl (k) (by omega) (by omega) dX8_sortsOf_47 ?_
                  refine rS (pc := 48) (rest := []) ⟨hx, hb, hml, hown, hts⟩ (k_X8_could (k := nI kind) (w := (r 12) k)) cw_X8_233 ⟨(Nat.le_of_ble_eq_true rfl), (Nat.le_of_ble_eq_true rfl)⟩ hE hS wc0 rfl hl.1 rfl (Nat.le_of_ble_eq_true rfl) dX8_sortsOf_48 ⟨Nat.le_refl _, Nat.le_refl _⟩ ?_
                  refine W.eq (g2 := F0 m 51 ls [.int (bi (couldB (nI kind) ((r 12) k) = true))]) rfl ?_
                  refine lv_aload_n (pc := 51) hx hb dX8_sortsOf_51 rfl (lv_at hl 0 rfl) ?_
                  refine fget (pc := 52) (v := .ref (a 13)) hx hb hts hown hE hP fl_X8_37 0 rfl rfl dX8_sortsOf_52 ?_
                  refine lv_iload (pc := 55) hx hb dX8_sortsOf_55 (lv_at hl 5 rfl) ?_
                  refine aldN (pc := 57) hx hb hE hP 10 rfl (k) (by omega) (by omega) dX8_sortsOf_57 ?_
                  refine lv_iconst (pc := 58) (v := 1) hx hb dX8_sortsOf_58 (by decide) ?_
                  refine lv_icmp_ne (pc := 59) (tgt := 66) hx hb dX8_sortsOf_59 (by decide) (fun c_8 => ?_) (fun c_8 => ?_)
                  · skip
                    refine lv_iconst (pc := 66) (v := 0) hx hb dX8_sortsOf_66 (by decide) ?_
                    refine lv_icmp_ne (pc := 67) (tgt := 74) hx hb dX8_sortsOf_67 (by decide) (fun c_9 => ?_) (fun c_9 => ?_)
                    · skip
                      refine lv_iconst (pc := 74) (v := 0) hx hb dX8_sortsOf_74 (by decide) ?_
                      refine lv_istore (pc := 75) (lv' := [(4, .int 0), (0, .ref o), (1, .int t), (2, .int (sortsS (r 11) (r 12) (r 13) sn t kind)), (3, .int (nI kind)), (5, .int (nI k))]) hx hb dX8_sortsOf_75 hl (by decide) rfl (fun ls hl => ?_)
                      refine lv_iinc (pc := 77) (v := nI (k + 1)) (lv' := [(5, .int (nI (k + 1))), (4, .int 0), (0, .ref o), (1, .int t), (2, .int (sortsS (r 11) (r 12) (r 13) sn t kind)), (3, .int (nI kind))]) hx hb dX8_sortsOf_77 hl (k := 5) rfl (nI_add (k) 1) (by decide) rfl (fun ls hl => ?_)
                      refine lv_goto (pc := 80) (tgt := 15) hx hb dX8_sortsOf_80 (by decide) ?_
                      exact ih_lp_3 (k + 1) (by omega) (by omega) ls (by rw [show (bi (allB (seenOk (r 11) (r 12) (r 13) t (nI kind)) (k + 1) = true) : Int32) = 0 from (by simp_all [allB, seenOk, bi])]; exact lv_sub hl [2, 3, 4, 5, 1, 0] rfl)
                    · skip
                      refine lv_iconst (pc := 70) (v := 1) hx hb dX8_sortsOf_70 (by decide) ?_
                      refine lv_goto (pc := 71) (tgt := 75) hx hb dX8_sortsOf_71 (by decide) ?_
                      refine lv_istore (pc := 75) (lv' := [(4, .int 1), (0, .ref o), (1, .int t), (2, .int (sortsS (r 11) (r 12) (r 13) sn t kind)), (3, .int (nI kind)), (5, .int (nI k))]) hx hb dX8_sortsOf_75 hl (by decide) rfl (fun ls hl => ?_)
                      refine lv_iinc (pc := 77) (v := nI (k + 1)) (lv' := [(5, .int (nI (k + 1))), (4, .int 1), (0, .ref o), (1, .int t), (2, .int (sortsS (r 11) (r 12) (r 13) sn t kind)), (3, .int (nI kind))]) hx hb dX8_sortsOf_77 hl (k := 5) rfl (nI_add (k) 1) (by decide) rfl (fun ls hl => ?_)
                      refine lv_goto (pc := 80) (tgt := 15) hx hb dX8_sortsOf_80 (by decide) ?_
                      exact ih_lp_3 (k + 1) (by omega) (by omega) ls (by rw [show (bi (allB (seenOk (r 11) (r 12) (r 13) t (nI kind)) (k + 1) = true) : Int32) = 1 from (by simp_all [allB, seenOk, bi])]; exact lv_sub hl [2, 3, 4, 5, 1, 0] rfl)
                  · skip
                    refine lv_iconst (pc := 62) (v := 1) hx hb dX8_sortsOf_62 (by decide) ?_
                    refine lv_goto (pc := 63) (tgt := 67) hx hb dX8_sortsOf_63 (by decide) ?_
                    refine lv_icmp_ne (pc := 67) (tgt := 74) hx hb dX8_sortsOf_67 (by decide) (fun c_10 => ?_) (fun c_10 => ?_)
                    · skip
                      refine lv_iconst (pc := 74) (v := 0) hx hb dX8_sortsOf_74 (by decide) ?_
                      refine lv_istore (pc := 75) (lv' := [(4, .int 0), (0, .ref o), (1, .int t), (2, .int (sortsS (r 11) (r 12) (r 13) sn t kind)), (3, .int (nI kind)), (5, .int (nI k))]) hx hb dX8_sortsOf_75 hl (by decide) rfl (fun ls hl => ?_)
                      refine lv_iinc (pc := 77) (v := nI (k + 1)) (lv' := [(5, .int (nI (k + 1))), (4, .int 0), (0, .ref o), (1, .int t), (2, .int (sortsS (r 11) (r 12) (r 13) sn t kind)), (3, .int (nI kind))]) hx hb dX8_sortsOf_77 hl (k := 5) rfl (nI_add (k) 1) (by decide) rfl (fun ls hl => ?_)
                      refine lv_goto (pc := 80) (tgt := 15) hx hb dX8_sortsOf_80 (by decide) ?_
                      exact ih_lp_3 (k + 1) (by omega) (by omega) ls (by rw [show (bi (allB (seenOk (r 11) (r 12) (r 13) t (nI kind)) (k + 1) = true) : Int32) = 0 from (by simp_all [allB, seenOk, bi])]; exact lv_sub hl [2, 3, 4, 5, 1, 0] rfl)
                    · skip
                      refine lv_iconst (pc := 70) (v := 1) hx hb dX8_sortsOf_70 (by decide) ?_
                      refine lv_goto (pc := 71) (tgt := 75) hx hb dX8_sortsOf_71 (by decide) ?_
                      refine lv_istore (pc := 75) (lv' := [(4, .int 1), (0, .ref o), (1, .int t), (2, .int (sortsS (r 11) (r 12) (r 13) sn t kind)), (3, .int (nI kind)), (5, .int (nI k))]) hx hb dX8_sortsOf_75 hl (by decide) rfl (fun ls hl => ?_)
                      refine lv_iinc (pc := 77) (v := nI (k + 1)) (lv' := [(5, .int (nI (k + 1))), (4, .int 1), (0, .ref o), (1, .int t), (2, .int (sortsS (r 11) (r 12) (r 13) sn t kind)), (3, .int (nI kind))]) hx hb dX8_sortsOf_77 hl (k := 5) rfl (nI_add (k) 1) (by decide) rfl (fun ls hl => ?_)
                      refine lv_goto (pc := 80) (tgt := 15) hx hb dX8_sortsOf_80 (by decide) ?_
                      exact ih_lp_3 (k + 1) (by omega) (by omega) ls (by rw [show (bi (allB (seenOk (r 11) (r 12) (r 13) t (nI kind)) (k + 1) = true) : Int32) = 1 from (by simp_all [allB, seenOk, bi])]; exact lv_sub hl [2, 3, 4, 5, 1, 0] rfl)
        exact lp_3 _ 0 (Nat.lt_succ_self _) (by omega) ls (lv_sub hl [2, 3, 4, 5, 1, 0] rfl)
  exact lp_1 _ 0 (Nat.lt_succ_self _) (by omega) ls (lv_sub hl [2, 3, 1, 0] rfl)
set_option maxRecDepth 100000 in
set_option maxHeartbeats 4000000 in
theorem k_X8_askOf {o : Nat} {a : Nat → Nat} {z : Nat → Int32} {g : Nat → Int64} {r : Nat → Nat → Int32} (t : Int32) {sn : Nat} (hz10 : z 10 = nI sn) (hsn : sn ≤ 6) : MR l yX8_askOf cX8_askOf 9 (some .int) 2 46 D kB kI kT ks sk sv [.ref o, .int t] (wR kB kI o a z g r) (some (.int (askS (sortsS (r 11) (r 12) (r 13) sn t 5)))) := by
  refine MR.go (by decide +kernel) (Nat.le_of_ble_eq_true rfl) ?_
  intro p e s m below meth c0 args Q ls hQ hx hb hr hml hown hts hlocks hE hP hS hl
  have hl : lv_has ls 9 [(0, .ref o), (1, .int t)] := hl
  have hown : s.vm.findClass RX8 = some m.cls := hown
  refine lv_aload_n (pc := 0) hx hb dX8_askOf_0 rfl (lv_at hl 0 rfl) ?_
  refine lv_iload_n (pc := 1) hx hb dX8_askOf_1 rfl (lv_at hl 1 rfl) ?_
  refine rV (pc := 2) (rest := []) ⟨hx, hb, hml, hown, hts⟩ (k_X8_sortsOf (t := t) (z := z) (g := g) (r := r) (hz10 := (by first | assumption | omega)) (hsn := (by first | assumption | omega))) cw_X8_172 ⟨(Nat.le_of_ble_eq_true rfl), (Nat.le_of_ble_eq_true rfl)⟩ hE hS hP rfl rfl rfl rfl hl.1 rfl (Nat.le_of_ble_eq_true rfl) dX8_askOf_2 ⟨Nat.le_refl _, Nat.le_refl _⟩ ?_
  refine W.eq (g2 := F0 m 5 ls [.int (sortsS ((r 11)) ((r 12)) ((r 13)) sn t 5)]) rfl ?_
  refine lv_topi (fun bits hbits => ?_)
  refine lv_istore_n (pc := 5) (lv' := [(2, .int bits), (0, .ref o), (1, .int t)]) hx hb dX8_askOf_5 rfl hl (by decide) rfl (fun ls hl => ?_)
  refine lv_iconst (pc := 6) (v := (-1)) hx hb dX8_askOf_6 (by decide) ?_
  refine lv_istore_n (pc := 7) (lv' := [(3, .int (-1)), (2, .int bits), (0, .ref o), (1, .int t)]) hx hb dX8_askOf_7 rfl hl (by decide) rfl (fun ls hl => ?_)
  refine lv_ldc (pc := 8) (v := 268435456) hx hb hown (hts _ co_X8_187) dX8_askOf_8 ?_
  refine lv_istore (pc := 10) (lv' := [(4, .int 268435456), (3, .int (-1)), (2, .int bits), (0, .ref o), (1, .int t)]) hx hb dX8_askOf_10 hl (by decide) rfl (fun ls hl => ?_)
  refine lv_iconst (pc := 12) (v := 0) hx hb dX8_askOf_12 (by decide) ?_
  refine lv_istore (pc := 13) (lv' := [(5, .int 0), (4, .int 268435456), (3, .int (-1)), (2, .int bits), (0, .ref o), (1, .int t)]) hx hb dX8_askOf_13 hl (by decide) rfl (fun ls hl => ?_)
  have lp_1 : ∀ (fuel : Nat) (w : Nat), 4 - w < fuel → (w ≤ 4) → (bits = 0 → w = 0) → ∀ (ls : Array Slot), lv_has ls 9 [(0, .ref o), (1, .int t), (2, .int bits), (3, .int ((askL bits w).1)), (4, .int ((askL bits w).2)), (5, .int (nI w))] → W p l e (rmO 2 46) s m args below meth c0 s.heap [] 0 0 Q (F0 m 15 ls []) := by
    intro fuel
    induction fuel with
    | zero => intro w hfuel; exact absurd hfuel (Nat.not_lt_zero _)
    | succ fuel ih_lp_1 =>
      intro w hfuel hw hb0 ls hl
      refine lv_iload (pc := 15) hx hb dX8_askOf_15 (lv_at hl 5 rfl) ?_
      refine lv_iconst (pc := 17) (v := 4) hx hb dX8_askOf_17 (by decide) ?_
      refine lv_icmp_ge (pc := 18) (tgt := 133) hx hb dX8_askOf_18 (by decide) (fun c_2 => ?_) (fun c_2 => ?_)
      · skip
        have c_2n : 4 ≤ w := (nI_leI (a := 4) (b := w) (by omega) (by omega)).mp c_2
        refine lv_iload_n (pc := 133) hx hb dX8_askOf_133 rfl (lv_at hl 3 rfl) ?_
        rw [hQ]; exact W.iret (pc := 134) hx hb hr (fun t9 ht _ => ⟨retI (by rw [← hbits, askS, if_neg (fun q => by have := hb0 q; omega), show w = 4 by omega]), ht⟩) (fun _ h => nomatch h) dX8_askOf_134 hlocks
      · skip
        have c_2n : ¬ 4 ≤ w := fun hh => c_2 ((nI_leI (a := 4) (b := w) (by omega) (by omega)).mpr hh)
        refine lv_iload_n (pc := 21) hx hb dX8_askOf_21 rfl (lv_at hl 2 rfl) ?_
        refine lv_if_eq (pc := 22) (tgt := 133) hx hb dX8_askOf_22 (by decide) (fun c_3 => ?_) (fun c_3 => ?_)
        · skip
          refine lv_iload_n (pc := 133) hx hb dX8_askOf_133 rfl (lv_at hl 3 rfl) ?_
          rw [hQ]; exact W.iret (pc := 134) hx hb hr (fun t9 ht _ => ⟨retI (by rw [← hbits, askS, if_pos c_3, hb0 c_3]; rfl), ht⟩) (fun _ h => nomatch h) dX8_askOf_134 hlocks
        · skip
          refine lv_iconst (pc := 25) (v := 0) hx hb dX8_askOf_25 (by decide) ?_
          refine lv_istore (pc := 26) (lv' := [(6, .int 0), (0, .ref o), (1, .int t), (2, .int bits), (3, .int ((askL bits w).1)), (4, .int ((askL bits w).2)), (5, .int (nI w))]) hx hb dX8_askOf_26 hl (by decide) rfl (fun ls hl => ?_)
          refine lv_iconst (pc := 28) (v := 0) hx hb dX8_askOf_28 (by decide) ?_
          refine lv_istore (pc := 29) (lv' := [(7, .int 0), (6, .int 0), (0, .ref o), (1, .int t), (2, .int bits), (3, .int ((askL bits w).1)), (4, .int ((askL bits w).2)), (5, .int (nI w))]) hx hb dX8_askOf_29 hl (by decide) rfl (fun ls hl => ?_)
          have lp_4 : ∀ (fuel : Nat) (kd : Nat), 5 - kd < fuel → (kd ≤ 5) → ∀ (ls : Array Slot), lv_has ls 9 [(0, .ref o), (1, .int t), (2, .int bits), (3, .int ((askL bits w).1)), (4, .int ((askL bits w).2)), (5, .int (nI w)), (6, .int (nI (yesN bits w kd))), (7, .int (nI kd))] → W p l e (rmO 2 46) s m args below meth c0 s.heap [] 0 0 Q (F0 m 31 ls []) := by
            intro fuel
            induction fuel with
            | zero => intro kd hfuel; exact absurd hfuel (Nat.not_lt_zero _)
            | succ fuel ih_lp_4 =>
              intro kd hfuel hkd ls hl
              refine lv_iload (pc := 31) hx hb dX8_askOf_31 (lv_at hl 7 rfl) ?_
              refine lv_iconst (pc := 33) (v := 4) hx hb dX8_askOf_33 (by decide) ?_
              refine lv_icmp_gt (pc := 34) (tgt := 72) hx hb dX8_askOf_34 (by decide) (fun c_5 => ?_) (fun c_5 => ?_)
              · skip
                have c_5n : 4 < kd := (nI_ltI (a := 4) (b := kd) (by omega) (by omega)).mp c_5
                refine lv_iload_n (pc := 72) hx hb dX8_askOf_72 rfl (lv_at hl 2 rfl) ?_
                refine rS (pc := 73) (rest := []) ⟨hx, hb, hml, hown, hts⟩ (k_X8_size (bits := bits)) cw_X8_239 ⟨(Nat.le_of_ble_eq_true rfl), (Nat.le_of_ble_eq_true rfl)⟩ hE hS wc0 rfl hl.1 rfl (Nat.le_of_ble_eq_true rfl) dX8_askOf_73 ⟨Nat.le_refl _, Nat.le_refl _⟩ ?_
                refine W.eq (g2 := F0 m 76 ls [.int (sizeI bits 16)]) rfl ?_
                refine lv_iload (pc := 76) hx hb dX8_askOf_76 (lv_at hl 6 rfl) ?_
                refine lv_isub (pc := 78) hx hb dX8_askOf_78 ?_
                refine lv_istore (pc := 79) (lv' := [(7, .int ((sizeI bits 16) - (nI (yesN bits w kd)))), (0, .ref o), (1, .int t), (2, .int bits), (3, .int ((askL bits w).1)), (4, .int ((askL bits w).2)), (5, .int (nI w)), (6, .int (nI (yesN bits w kd)))]) hx hb dX8_askOf_79 hl (by decide) rfl (fun ls hl => ?_)
                refine lv_iload (pc := 81) hx hb dX8_askOf_81 (lv_at hl 7 rfl) ?_
                refine lv_iload (pc := 83) hx hb dX8_askOf_83 (lv_at hl 0 rfl) ?_
                refine lv_icmp_le (pc := 85) (tgt := 93) hx hb dX8_askOf_85 (by decide) (fun c_6 => ?_) (fun c_6 => ?_)
                · skip
                  refine lv_iload (pc := 93) hx hb dX8_askOf_93 (lv_at hl 0 rfl) ?_
                  refine lv_istore (pc := 95) (lv' := [(8, .int ((sizeI bits 16) - (nI (yesN bits w kd)))), (7, .int ((sizeI bits 16) - (nI (yesN bits w kd)))), (0, .ref o), (1, .int t), (2, .int bits), (3, .int ((askL bits w).1)), (4, .int ((askL bits w).2)), (5, .int (nI w)), (6, .int (nI (yesN bits w kd)))]) hx hb dX8_askOf_95 hl (by decide) rfl (fun ls hl => ?_)
                  refine lv_iload (pc := 97) hx hb dX8_askOf_97 (lv_at hl 0 rfl) ?_
                  refine lv_iload (pc := 99) hx hb dX8_askOf_99 (lv_at hl 6 rfl) ?_
                  refine lv_icmp_ge (pc := 101) (tgt := 109) hx hb dX8_askOf_101 (by decide) (fun c_7 => ?_) (fun c_7 => ?_)
                  · skip
                    refine lv_iload_n (pc := 109) hx hb dX8_askOf_109 rfl (lv_at hl 5 rfl) ?_
                    refine lv_istore_n (pc := 110) (lv' := [(3, .int ((askL bits w).1)), (8, .int ((sizeI bits 16) - (nI (yesN bits w kd)))), (7, .int ((sizeI bits 16) - (nI (yesN bits w kd)))), (0, .ref o), (1, .int t), (2, .int bits), (4, .int ((askL bits w).2)), (5, .int (nI w)), (6, .int (nI (yesN bits w kd)))]) hx hb dX8_askOf_110 rfl hl (by decide) rfl (fun ls hl => ?_)
                    refine lv_iload (pc := 111) hx hb dX8_askOf_111 (lv_at hl 1 rfl) ?_
                    refine lv_iload (pc := 113) hx hb dX8_askOf_113 (lv_at hl 6 rfl) ?_
                    refine lv_icmp_ge (pc := 115) (tgt := 123) hx hb dX8_askOf_115 (by decide) (fun c_8 => ?_) (fun c_8 => ?_)
                    · skip
                      refine lv_iload (pc := 123) hx hb dX8_askOf_123 (lv_at hl 6 rfl) ?_
                      refine lv_istore (pc := 125) (lv' := [(4, .int ((askL bits w).2)), (3, .int ((askL bits w).1)), (8, .int ((sizeI bits 16) - (nI (yesN bits w kd)))), (7, .int ((sizeI bits 16) - (nI (yesN bits w kd)))), (0, .ref o), (1, .int t), (2, .int bits), (5, .int (nI w)), (6, .int (nI (yesN bits w kd)))]) hx hb dX8_askOf_125 hl (by decide) rfl (fun ls hl => ?_)
                      refine lv_iinc (pc := 127) (v := nI (w + 1)) (lv' := [(5, .int (nI (w + 1))), (4, .int ((askL bits w).2)), (3, .int ((askL bits w).1)), (8, .int ((sizeI bits 16) - (nI (yesN bits w kd)))), (7, .int ((sizeI bits 16) - (nI (yesN bits w kd)))), (0, .ref o), (1, .int t), (2, .int bits), (6, .int (nI (yesN bits w kd)))]) hx hb dX8_askOf_127 hl (k := 7) rfl (nI_add (w) 1) (by decide) rfl (fun ls hl => ?_)
                      refine lv_goto (pc := 130) (tgt := 15) hx hb dX8_askOf_130 (by decide) ?_
                      exact ih_lp_1 (w + 1) (by omega) (by omega) (fun q => absurd q c_3) ls (by rw [show ((askL bits (w + 1)).1 : Int32) = (askL bits w).1 from (by obtain rfl : kd = 5 := (by omega); simp [askL, worstI, c_2, c_3, c_5, c_6, c_7, c_8]), show ((askL bits (w + 1)).2 : Int32) = (askL bits w).2 from (by obtain rfl : kd = 5 := (by omega); simp [askL, worstI, c_2, c_3, c_5, c_6, c_7, c_8])]; exact lv_sub hl [5, 6, 7, 2, 1, 0] rfl)
                    · exact absurd c_7 c_8
                  · skip
                    refine lv_iload (pc := 104) hx hb dX8_askOf_104 (lv_at hl 7 rfl) ?_
                    refine lv_goto (pc := 106) (tgt := 110) hx hb dX8_askOf_106 (by decide) ?_
                    refine lv_istore_n (pc := 110) (lv' := [(3, .int (nI w)), (8, .int ((sizeI bits 16) - (nI (yesN bits w kd)))), (7, .int ((sizeI bits 16) - (nI (yesN bits w kd)))), (0, .ref o), (1, .int t), (2, .int bits), (4, .int ((askL bits w).2)), (5, .int (nI w)), (6, .int (nI (yesN bits w kd)))]) hx hb dX8_askOf_110 rfl hl (by decide) rfl (fun ls hl => ?_)
                    refine lv_iload (pc := 111) hx hb dX8_askOf_111 (lv_at hl 1 rfl) ?_
                    refine lv_iload (pc := 113) hx hb dX8_askOf_113 (lv_at hl 6 rfl) ?_
                    refine lv_icmp_ge (pc := 115) (tgt := 123) hx hb dX8_askOf_115 (by decide) (fun c_9 => ?_) (fun c_9 => ?_)
                    · exact absurd c_9 c_7
                    · skip
                      refine lv_iload (pc := 118) hx hb dX8_askOf_118 (lv_at hl 1 rfl) ?_
                      refine lv_goto (pc := 120) (tgt := 125) hx hb dX8_askOf_120 (by decide) ?_
                      refine lv_istore (pc := 125) (lv' := [(4, .int ((sizeI bits 16) - (nI (yesN bits w kd)))), (3, .int (nI w)), (8, .int ((sizeI bits 16) - (nI (yesN bits w kd)))), (7, .int ((sizeI bits 16) - (nI (yesN bits w kd)))), (0, .ref o), (1, .int t), (2, .int bits), (5, .int (nI w)), (6, .int (nI (yesN bits w kd)))]) hx hb dX8_askOf_125 hl (by decide) rfl (fun ls hl => ?_)
                      refine lv_iinc (pc := 127) (v := nI (w + 1)) (lv' := [(5, .int (nI (w + 1))), (4, .int ((sizeI bits 16) - (nI (yesN bits w kd)))), (3, .int (nI w)), (8, .int ((sizeI bits 16) - (nI (yesN bits w kd)))), (7, .int ((sizeI bits 16) - (nI (yesN bits w kd)))), (0, .ref o), (1, .int t), (2, .int bits), (6, .int (nI (yesN bits w kd)))]) hx hb dX8_askOf_127 hl (k := 7) rfl (nI_add (w) 1) (by decide) rfl (fun ls hl => ?_)
                      refine lv_goto (pc := 130) (tgt := 15) hx hb dX8_askOf_130 (by decide) ?_
                      exact ih_lp_1 (w + 1) (by omega) (by omega) (fun q => absurd q c_3) ls (by rw [show ((askL bits (w + 1)).1 : Int32) = nI w from (by obtain rfl : kd = 5 := (by omega); simp [askL, worstI, c_2, c_3, c_5, c_6, c_7, c_9]), show ((askL bits (w + 1)).2 : Int32) = (sizeI bits 16) - (nI (yesN bits w kd)) from (by obtain rfl : kd = 5 := (by omega); simp [askL, worstI, c_2, c_3, c_5, c_6, c_7, c_9])]; exact lv_sub hl [5, 6, 7, 2, 1, 0] rfl)
                · skip
                  refine lv_iload (pc := 88) hx hb dX8_askOf_88 (lv_at hl 7 rfl) ?_
                  refine lv_goto (pc := 90) (tgt := 95) hx hb dX8_askOf_90 (by decide) ?_
                  refine lv_istore (pc := 95) (lv' := [(8, .int (nI (yesN bits w kd))), (7, .int ((sizeI bits 16) - (nI (yesN bits w kd)))), (0, .ref o), (1, .int t), (2, .int bits), (3, .int ((askL bits w).1)), (4, .int ((askL bits w).2)), (5, .int (nI w)), (6, .int (nI (yesN bits w kd)))]) hx hb dX8_askOf_95 hl (by decide) rfl (fun ls hl => ?_)
                  refine lv_iload (pc := 97) hx hb dX8_askOf_97 (lv_at hl 0 rfl) ?_
                  refine lv_iload (pc := 99) hx hb dX8_askOf_99 (lv_at hl 6 rfl) ?_
                  refine lv_icmp_ge (pc := 101) (tgt := 109) hx hb dX8_askOf_101 (by decide) (fun c_10 => ?_) (fun c_10 => ?_)
                  · skip
                    refine lv_iload_n (pc := 109) hx hb dX8_askOf_109 rfl (lv_at hl 5 rfl) ?_
                    refine lv_istore_n (pc := 110) (lv' := [(3, .int ((askL bits w).1)), (8, .int (nI (yesN bits w kd))), (7, .int ((sizeI bits 16) - (nI (yesN bits w kd)))), (0, .ref o), (1, .int t), (2, .int bits), (4, .int ((askL bits w).2)), (5, .int (nI w)), (6, .int (nI (yesN bits w kd)))]) hx hb dX8_askOf_110 rfl hl (by decide) rfl (fun ls hl => ?_)
                    refine lv_iload (pc := 111) hx hb dX8_askOf_111 (lv_at hl 1 rfl) ?_
                    refine lv_iload (pc := 113) hx hb dX8_askOf_113 (lv_at hl 6 rfl) ?_
                    refine lv_icmp_ge (pc := 115) (tgt := 123) hx hb dX8_askOf_115 (by decide) (fun c_11 => ?_) (fun c_11 => ?_)
                    · skip
                      refine lv_iload (pc := 123) hx hb dX8_askOf_123 (lv_at hl 6 rfl) ?_
                      refine lv_istore (pc := 125) (lv' := [(4, .int ((askL bits w).2)), (3, .int ((askL bits w).1)), (8, .int (nI (yesN bits w kd))), (7, .int ((sizeI bits 16) - (nI (yesN bits w kd)))), (0, .ref o), (1, .int t), (2, .int bits), (5, .int (nI w)), (6, .int (nI (yesN bits w kd)))]) hx hb dX8_askOf_125 hl (by decide) rfl (fun ls hl => ?_)
                      refine lv_iinc (pc := 127) (v := nI (w + 1)) (lv' := [(5, .int (nI (w + 1))), (4, .int ((askL bits w).2)), (3, .int ((askL bits w).1)), (8, .int (nI (yesN bits w kd))), (7, .int ((sizeI bits 16) - (nI (yesN bits w kd)))), (0, .ref o), (1, .int t), (2, .int bits), (6, .int (nI (yesN bits w kd)))]) hx hb dX8_askOf_127 hl (k := 7) rfl (nI_add (w) 1) (by decide) rfl (fun ls hl => ?_)
                      refine lv_goto (pc := 130) (tgt := 15) hx hb dX8_askOf_130 (by decide) ?_
                      exact ih_lp_1 (w + 1) (by omega) (by omega) (fun q => absurd q c_3) ls (by rw [show ((askL bits (w + 1)).1 : Int32) = (askL bits w).1 from (by obtain rfl : kd = 5 := (by omega); simp [askL, worstI, c_2, c_3, c_5, c_6, c_10, c_11]), show ((askL bits (w + 1)).2 : Int32) = (askL bits w).2 from (by obtain rfl : kd = 5 := (by omega); simp [askL, worstI, c_2, c_3, c_5, c_6, c_10, c_11])]; exact lv_sub hl [5, 6, 7, 2, 1, 0] rfl)
                    · exact absurd c_10 c_11
                  · skip
                    refine lv_iload (pc := 104) hx hb dX8_askOf_104 (lv_at hl 7 rfl) ?_
                    refine lv_goto (pc := 106) (tgt := 110) hx hb dX8_askOf_106 (by decide) ?_
                    refine lv_istore_n (pc := 110) (lv' := [(3, .int (nI w)), (8, .int (nI (yesN bits w kd))), (7, .int ((sizeI bits 16) - (nI (yesN bits w kd)))), (0, .ref o), (1, .int t), (2, .int bits), (4, .int ((askL bits w).2)), (5, .int (nI w)), (6, .int (nI (yesN bits w kd)))]) hx hb dX8_askOf_110 rfl hl (by decide) rfl (fun ls hl => ?_)
                    refine lv_iload (pc := 111) hx hb dX8_askOf_111 (lv_at hl 1 rfl) ?_
                    refine lv_iload (pc := 113) hx hb dX8_askOf_113 (lv_at hl 6 rfl) ?_
                    refine lv_icmp_ge (pc := 115) (tgt := 123) hx hb dX8_askOf_115 (by decide) (fun c_12 => ?_) (fun c_12 => ?_)
                    · exact absurd c_12 c_10
                    · skip
                      refine lv_iload (pc := 118) hx hb dX8_askOf_118 (lv_at hl 1 rfl) ?_
                      refine lv_goto (pc := 120) (tgt := 125) hx hb dX8_askOf_120 (by decide) ?_
                      refine lv_istore (pc := 125) (lv' := [(4, .int (nI (yesN bits w kd))), (3, .int (nI w)), (8, .int (nI (yesN bits w kd))), (7, .int ((sizeI bits 16) - (nI (yesN bits w kd)))), (0, .ref o), (1, .int t), (2, .int bits), (5, .int (nI w)), (6, .int (nI (yesN bits w kd)))]) hx hb dX8_askOf_125 hl (by decide) rfl (fun ls hl => ?_)
                      refine lv_iinc (pc := 127) (v := nI (w + 1)) (lv' := [(5, .int (nI (w + 1))), (4, .int (nI (yesN bits w kd))), (3, .int (nI w)), (8, .int (nI (yesN bits w kd))), (7, .int ((sizeI bits 16) - (nI (yesN bits w kd)))), (0, .ref o), (1, .int t), (2, .int bits), (6, .int (nI (yesN bits w kd)))]) hx hb dX8_askOf_127 hl (k := 7) rfl (nI_add (w) 1) (by decide) rfl (fun ls hl => ?_)
                      refine lv_goto (pc := 130) (tgt := 15) hx hb dX8_askOf_130 (by decide) ?_
                      exact ih_lp_1 (w + 1) (by omega) (by omega) (fun q => absurd q c_3) ls (by rw [show ((askL bits (w + 1)).1 : Int32) = nI w from (by obtain rfl : kd = 5 := (by omega); simp [askL, worstI, c_2, c_3, c_5, c_6, c_10, c_12]), show ((askL bits (w + 1)).2 : Int32) = nI (yesN bits w kd) from (by obtain rfl : kd = 5 := (by omega); simp [askL, worstI, c_2, c_3, c_5, c_6, c_10, c_12])]; exact lv_sub hl [5, 6, 7, 2, 1, 0] rfl)
              · skip
                have c_5n : ¬ 4 < kd := fun hh => c_5 ((nI_ltI (a := 4) (b := kd) (by omega) (by omega)).mpr hh)
                refine lv_iload (pc := 37) hx hb dX8_askOf_37 (lv_at hl 6 rfl) ?_
                refine lv_iload_n (pc := 39) hx hb dX8_askOf_39 rfl (lv_at hl 2 rfl) ?_
                refine lv_iload (pc := 40) hx hb dX8_askOf_40 (lv_at hl 7 rfl) ?_
                refine rS (pc := 42) (rest := [.int (nI (yesN bits w kd))]) ⟨hx, hb, hml, hown, hts⟩ (k_X8_isIn (set := bits) (k := nI kd)) cw_X8_236 ⟨(Nat.le_of_ble_eq_true rfl), (Nat.le_of_ble_eq_true rfl)⟩ hE hS wc0 rfl hl.1 rfl (Nat.le_of_ble_eq_true rfl) dX8_askOf_42 ⟨Nat.le_refl _, Nat.le_refl _⟩ ?_
                refine W.eq (g2 := F0 m 45 ls [.int (bi (isInP bits (nI kd))), .int (nI (yesN bits w kd))]) rfl ?_
                refine bif_eq (pc := 45) (tgt := 62) hx hb dX8_askOf_45 (by decide) (fun c_13 => ?_) (fun c_13 => ?_)
                · skip
                  refine lv_iconst (pc := 62) (v := 0) hx hb dX8_askOf_62 (by decide) ?_
                  refine iaddV (pc := 63) (v := nI (yesN bits w kd + 0)) hx hb dX8_askOf_63 (nI_add (yesN bits w kd) (0)) ?_
                  refine lv_istore (pc := 64) (lv' := [(6, .int (nI (yesN bits w kd + 0))), (0, .ref o), (1, .int t), (2, .int bits), (3, .int ((askL bits w).1)), (4, .int ((askL bits w).2)), (5, .int (nI w)), (7, .int (nI kd))]) hx hb dX8_askOf_64 hl (by decide) rfl (fun ls hl => ?_)
                  refine lv_iinc (pc := 66) (v := nI (kd + 1)) (lv' := [(7, .int (nI (kd + 1))), (6, .int (nI (yesN bits w kd + 0))), (0, .ref o), (1, .int t), (2, .int bits), (3, .int ((askL bits w).1)), (4, .int ((askL bits w).2)), (5, .int (nI w))]) hx hb dX8_askOf_66 hl (k := 7) rfl (nI_add (kd) 1) (by decide) rfl (fun ls hl => ?_)
                  refine lv_goto (pc := 69) (tgt := 31) hx hb dX8_askOf_69 (by decide) ?_
                  exact ih_lp_4 (kd + 1) (by omega) (by omega) ls (by rw [show (nI (yesN bits w (kd + 1)) : Int32) = nI (yesN bits w kd + 0) from (by rw [yesN, cntP_f (fun q => c_13 q.1)]; rfl)]; exact lv_sub hl [2, 3, 4, 5, 6, 7, 1, 0] rfl)
                · skip
                  refine lv_iload (pc := 48) hx hb dX8_askOf_48 (lv_at hl 7 rfl) ?_
                  refine lv_iload (pc := 50) hx hb dX8_askOf_50 (lv_at hl 5 rfl) ?_
                  refine rS (pc := 52) (rest := [.int (nI (yesN bits w kd))]) ⟨hx, hb, hml, hown, hts⟩ (k_X8_could (k := nI kd) (w := nI w)) cw_X8_233 ⟨(Nat.le_of_ble_eq_true rfl), (Nat.le_of_ble_eq_true rfl)⟩ hE hS wc0 rfl hl.1 rfl (Nat.le_of_ble_eq_true rfl) dX8_askOf_52 ⟨Nat.le_refl _, Nat.le_refl _⟩ ?_
                  refine W.eq (g2 := F0 m 55 ls [.int (bi (couldB (nI kd) (nI w) = true)), .int (nI (yesN bits w kd))]) rfl ?_
                  refine bif_eq (pc := 55) (tgt := 62) hx hb dX8_askOf_55 (by decide) (fun c_14 => ?_) (fun c_14 => ?_)
                  · skip
                    refine lv_iconst (pc := 62) (v := 0) hx hb dX8_askOf_62 (by decide) ?_
                    refine iaddV (pc := 63) (v := nI (yesN bits w kd + 0)) hx hb dX8_askOf_63 (nI_add (yesN bits w kd) (0)) ?_
                    refine lv_istore (pc := 64) (lv' := [(6, .int (nI (yesN bits w kd + 0))), (0, .ref o), (1, .int t), (2, .int bits), (3, .int ((askL bits w).1)), (4, .int ((askL bits w).2)), (5, .int (nI w)), (7, .int (nI kd))]) hx hb dX8_askOf_64 hl (by decide) rfl (fun ls hl => ?_)
                    refine lv_iinc (pc := 66) (v := nI (kd + 1)) (lv' := [(7, .int (nI (kd + 1))), (6, .int (nI (yesN bits w kd + 0))), (0, .ref o), (1, .int t), (2, .int bits), (3, .int ((askL bits w).1)), (4, .int ((askL bits w).2)), (5, .int (nI w))]) hx hb dX8_askOf_66 hl (k := 7) rfl (nI_add (kd) 1) (by decide) rfl (fun ls hl => ?_)
                    refine lv_goto (pc := 69) (tgt := 31) hx hb dX8_askOf_69 (by decide) ?_
                    exact ih_lp_4 (kd + 1) (by omega) (by omega) ls (by rw [show (nI (yesN bits w (kd + 1)) : Int32) = nI (yesN bits w kd + 0) from (by rw [yesN, cntP_f (fun q => c_14 q.2)]; rfl)]; exact lv_sub hl [2, 3, 4, 5, 6, 7, 1, 0] rfl)
                  · skip
                    refine lv_iconst (pc := 58) (v := 1) hx hb dX8_askOf_58 (by decide) ?_
                    refine lv_goto (pc := 59) (tgt := 63) hx hb dX8_askOf_59 (by decide) ?_
                    refine iaddV (pc := 63) (v := nI (yesN bits w kd + 1)) hx hb dX8_askOf_63 (nI_add (yesN bits w kd) (1)) ?_
                    refine lv_istore (pc := 64) (lv' := [(6, .int (nI (yesN bits w kd + 1))), (0, .ref o), (1, .int t), (2, .int bits), (3, .int ((askL bits w).1)), (4, .int ((askL bits w).2)), (5, .int (nI w)), (7, .int (nI kd))]) hx hb dX8_askOf_64 hl (by decide) rfl (fun ls hl => ?_)
                    refine lv_iinc (pc := 66) (v := nI (kd + 1)) (lv' := [(7, .int (nI (kd + 1))), (6, .int (nI (yesN bits w kd + 1))), (0, .ref o), (1, .int t), (2, .int bits), (3, .int ((askL bits w).1)), (4, .int ((askL bits w).2)), (5, .int (nI w))]) hx hb dX8_askOf_66 hl (k := 7) rfl (nI_add (kd) 1) (by decide) rfl (fun ls hl => ?_)
                    refine lv_goto (pc := 69) (tgt := 31) hx hb dX8_askOf_69 (by decide) ?_
                    exact ih_lp_4 (kd + 1) (by omega) (by omega) ls (by rw [show (nI (yesN bits w (kd + 1)) : Int32) = nI (yesN bits w kd + 1) from (by rw [yesN, cntP_t ⟨c_13, c_14⟩]; rfl)]; exact lv_sub hl [2, 3, 4, 5, 6, 7, 1, 0] rfl)
          exact lp_4 _ 0 (Nat.lt_succ_self _) (by omega) ls (lv_sub hl [2, 3, 4, 5, 6, 7, 1, 0] rfl)
  exact lp_1 _ 0 (Nat.lt_succ_self _) (by omega) (fun _ => rfl) ls (lv_sub hl [4, 5, 3, 2, 1, 0] rfl)
set_option maxRecDepth 100000 in
set_option maxHeartbeats 4000000 in
theorem k_X8_titleNow {o : Nat} {a : Nat → Nat} {z : Nat → Int32} {g : Nat → Int64} {r : Nat → Nat → Int32} (k : Nat) (what : Int32) {sn : Nat} (hz10 : z 10 = nI sn) (hsn : sn ≤ 6) (hk : k < 5) : MR l yX8_titleNow cX8_titleNow 3 (some .int) 3 74 D kB kI kT ks sk sv [.ref o, .int (nI k), .int what] (wR kB kI o a z g r) (some (.int (titleS r sn k what))) := by
  refine MR.go (by decide +kernel) (Nat.le_of_ble_eq_true rfl) ?_
  intro p e s m below meth c0 args Q ls hQ hx hb hr hml hown hts hlocks hE hP hS hl
  have hl : lv_has ls 3 [(0, .ref o), (1, .int (nI k)), (2, .int what)] := hl
  have hown : s.vm.findClass RX8 = some m.cls := hown
  refine lv_iload_n (pc := 0) hx hb dX8_titleNow_0 rfl (lv_at hl 2 rfl) ?_
  by_cases c_1 : what = 0
  · skip
    refine lv_tableIn (pc := 1) (off := 47) (tgt := 48) hx hb dX8_titleNow_1 (by rw [c_1]; decide) (by rw [c_1]; decide) (by rw [c_1]; try rfl) (by decide) ?_
    refine lv_aload_n (pc := 48) hx hb dX8_titleNow_48 rfl (lv_at hl 0 rfl) ?_
    refine fget (pc := 49) (v := .ref (a 2)) hx hb hts hown hE hP fl_X8_7 0 rfl rfl dX8_titleNow_49 ?_
    refine lv_iload_n (pc := 52) hx hb dX8_titleNow_52 rfl (lv_at hl 1 rfl) ?_
    refine aldN (pc := 53) hx hb hE hP 1 rfl (k) (by omega) (by omega) dX8_titleNow_53 ?_
    rw [hQ]; exact W.iret (pc := 54) hx hb hr (fun t9 ht _ => ⟨retI (by simp [titleS, c_1]), ht⟩) (fun _ h => nomatch h) dX8_titleNow_54 hlocks
  by_cases c_2 : what = 1
  · skip
    refine lv_tableIn (pc := 1) (off := 54) (tgt := 55) hx hb dX8_titleNow_1 (by rw [c_2]; decide) (by rw [c_2]; decide) (by rw [c_2]; try rfl) (by decide) ?_
    refine lv_aload_n (pc := 55) hx hb dX8_titleNow_55 rfl (lv_at hl 0 rfl) ?_
    refine fget (pc := 56) (v := .ref (a 3)) hx hb hts hown hE hP fl_X8_13 0 rfl rfl dX8_titleNow_56 ?_
    refine lv_iload_n (pc := 59) hx hb dX8_titleNow_59 rfl (lv_at hl 1 rfl) ?_
    refine aldN (pc := 60) hx hb hE hP 2 rfl (k) (by omega) (by omega) dX8_titleNow_60 ?_
    rw [hQ]; exact W.iret (pc := 61) hx hb hr (fun t9 ht _ => ⟨retI (by simp [titleS, c_1, c_2]), ht⟩) (fun _ h => nomatch h) dX8_titleNow_61 hlocks
  by_cases c_3 : what = 2
  · skip
    refine lv_tableIn (pc := 1) (off := 61) (tgt := 62) hx hb dX8_titleNow_1 (by rw [c_3]; decide) (by rw [c_3]; decide) (by rw [c_3]; try rfl) (by decide) ?_
    refine lv_aload_n (pc := 62) hx hb dX8_titleNow_62 rfl (lv_at hl 0 rfl) ?_
    refine fget (pc := 63) (v := .ref (a 4)) hx hb hts hown hE hP fl_X8_16 0 rfl rfl dX8_titleNow_63 ?_
    refine lv_iload_n (pc := 66) hx hb dX8_titleNow_66 rfl (lv_at hl 1 rfl) ?_
    refine aldN (pc := 67) hx hb hE hP 3 rfl (k) (by omega) (by omega) dX8_titleNow_67 ?_
    rw [hQ]; exact W.iret (pc := 68) hx hb hr (fun t9 ht _ => ⟨retI (by simp [titleS, c_1, c_2, c_3]), ht⟩) (fun _ h => nomatch h) dX8_titleNow_68 hlocks
  by_cases c_4 : what = 3
  · skip
    refine lv_tableIn (pc := 1) (off := 68) (tgt := 69) hx hb dX8_titleNow_1 (by rw [c_4]; decide) (by rw [c_4]; decide) (by rw [c_4]; try rfl) (by decide) ?_
    refine lv_aload_n (pc := 69) hx hb dX8_titleNow_69 rfl (lv_at hl 0 rfl) ?_
    refine fget (pc := 70) (v := .ref (a 5)) hx hb hts hown hE hP fl_X8_19 0 rfl rfl dX8_titleNow_70 ?_
    refine lv_iload_n (pc := 73) hx hb dX8_titleNow_73 rfl (lv_at hl 1 rfl) ?_
    refine aldN (pc := 74) hx hb hE hP 4 rfl (k) (by omega) (by omega) dX8_titleNow_74 ?_
    rw [hQ]; exact W.iret (pc := 75) hx hb hr (fun t9 ht _ => ⟨retI (by simp [titleS, c_1, c_2, c_3, c_4]), ht⟩) (fun _ h => nomatch h) dX8_titleNow_75 hlocks
  by_cases c_5 : what = 4
  · skip
    refine lv_tableIn (pc := 1) (off := 75) (tgt := 76) hx hb dX8_titleNow_1 (by rw [c_5]; decide) (by rw [c_5]; decide) (by rw [c_5]; try rfl) (by decide) ?_
    refine lv_aload_n (pc := 76) hx hb dX8_titleNow_76 rfl (lv_at hl 0 rfl) ?_
    refine fget (pc := 77) (v := .ref (a 6)) hx hb hts hown hE hP fl_X8_22 0 rfl rfl dX8_titleNow_77 ?_
    refine lv_iload_n (pc := 80) hx hb dX8_titleNow_80 rfl (lv_at hl 1 rfl) ?_
    refine aldN (pc := 81) hx hb hE hP 5 rfl (k) (by omega) (by omega) dX8_titleNow_81 ?_
    rw [hQ]; exact W.iret (pc := 82) hx hb hr (fun t9 ht _ => ⟨retI (by simp [titleS, c_1, c_2, c_3, c_4, c_5]), ht⟩) (fun _ h => nomatch h) dX8_titleNow_82 hlocks
  by_cases c_6 : what = 5
  · skip
    refine lv_tableIn (pc := 1) (off := 82) (tgt := 83) hx hb dX8_titleNow_1 (by rw [c_6]; decide) (by rw [c_6]; decide) (by rw [c_6]; try rfl) (by decide) ?_
    refine lv_aload_n (pc := 83) hx hb dX8_titleNow_83 rfl (lv_at hl 0 rfl) ?_
    refine fget (pc := 84) (v := .ref (a 7)) hx hb hts hown hE hP fl_X8_25 0 rfl rfl dX8_titleNow_84 ?_
    refine lv_iload_n (pc := 87) hx hb dX8_titleNow_87 rfl (lv_at hl 1 rfl) ?_
    refine aldN (pc := 88) hx hb hE hP 6 rfl (k) (by omega) (by omega) dX8_titleNow_88 ?_
    rw [hQ]; exact W.iret (pc := 89) hx hb hr (fun t9 ht _ => ⟨retI (by simp [titleS, c_1, c_2, c_3, c_4, c_5, c_6]), ht⟩) (fun _ h => nomatch h) dX8_titleNow_89 hlocks
  by_cases c_7 : what = 6
  · skip
    refine lv_tableIn (pc := 1) (off := 89) (tgt := 90) hx hb dX8_titleNow_1 (by rw [c_7]; decide) (by rw [c_7]; decide) (by rw [c_7]; try rfl) (by decide) ?_
    refine lv_aload_n (pc := 90) hx hb dX8_titleNow_90 rfl (lv_at hl 0 rfl) ?_
    refine lv_iload_n (pc := 91) hx hb dX8_titleNow_91 rfl (lv_at hl 1 rfl) ?_
    refine lv_bipush (pc := 92) (v := 12) hx hb dX8_titleNow_92 (by decide) ?_
    refine rV (pc := 94) (rest := []) ⟨hx, hb, hml, hown, hts⟩ (k_X8_nightsOf (t := nI k) (b := 12) (z := z) (g := g) (r := r) (hb12 := (by first | assumption | omega))) cw_X8_153 ⟨(Nat.le_of_ble_eq_true rfl), (Nat.le_of_ble_eq_true rfl)⟩ hE hS hP rfl rfl rfl rfl hl.1 rfl (Nat.le_of_ble_eq_true rfl) dX8_titleNow_94 ⟨Nat.le_refl _, Nat.le_refl _⟩ ?_
    refine W.eq (g2 := F0 m 97 ls [.int (nI (nOf ((r 8)) (nI k) 12))]) rfl ?_
    rw [hQ]; exact W.iret (pc := 97) hx hb hr (fun t9 ht _ => ⟨retI (by simp [titleS, c_1, c_2, c_3, c_4, c_5, c_6, c_7]), ht⟩) (fun _ h => nomatch h) dX8_titleNow_97 hlocks
  by_cases c_8 : what = 7
  · skip
    refine lv_tableIn (pc := 1) (off := 97) (tgt := 98) hx hb dX8_titleNow_1 (by rw [c_8]; decide) (by rw [c_8]; decide) (by rw [c_8]; try rfl) (by decide) ?_
    refine lv_aload_n (pc := 98) hx hb dX8_titleNow_98 rfl (lv_at hl 0 rfl) ?_
    refine lv_iload_n (pc := 99) hx hb dX8_titleNow_99 rfl (lv_at hl 1 rfl) ?_
    refine rV (pc := 100) (rest := []) ⟨hx, hb, hml, hown, hts⟩ (k_X8_sortsOf (t := nI k) (z := z) (g := g) (r := r) (hz10 := (by first | assumption | omega)) (hsn := (by first | assumption | omega))) cw_X8_172 ⟨(Nat.le_of_ble_eq_true rfl), (Nat.le_of_ble_eq_true rfl)⟩ hE hS hP rfl rfl rfl rfl hl.1 rfl (Nat.le_of_ble_eq_true rfl) dX8_titleNow_100 ⟨Nat.le_refl _, Nat.le_refl _⟩ ?_
    refine W.eq (g2 := F0 m 103 ls [.int (sortsS ((r 11)) ((r 12)) ((r 13)) sn (nI k) 5)]) rfl ?_
    rw [hQ]; exact W.iret (pc := 103) hx hb hr (fun t9 ht _ => ⟨retI (by simp [titleS, c_1, c_2, c_3, c_4, c_5, c_6, c_7, c_8]), ht⟩) (fun _ h => nomatch h) dX8_titleNow_103 hlocks
  refine lv_tableOut (pc := 1) (tgt := 104) hx hb dX8_titleNow_1 (by (have q0 : ¬ what.toInt = 0 := fun q => c_1 (Int32.toInt_inj.mp (q.trans rfl)); have q1 : ¬ what.toInt = 1 := fun q => c_2 (Int32.toInt_inj.mp (q.trans rfl)); have q2 : ¬ what.toInt = 2 := fun q => c_3 (Int32.toInt_inj.mp (q.trans rfl)); have q3 : ¬ what.toInt = 3 := fun q => c_4 (Int32.toInt_inj.mp (q.trans rfl)); have q4 : ¬ what.toInt = 4 := fun q => c_5 (Int32.toInt_inj.mp (q.trans rfl)); have q5 : ¬ what.toInt = 5 := fun q => c_6 (Int32.toInt_inj.mp (q.trans rfl)); have q6 : ¬ what.toInt = 6 := fun q => c_7 (Int32.toInt_inj.mp (q.trans rfl)); have q7 : ¬ what.toInt = 7 := fun q => c_8 (Int32.toInt_inj.mp (q.trans rfl)); omega)) (by decide) ?_
  refine lv_aload_n (pc := 104) hx hb dX8_titleNow_104 rfl (lv_at hl 0 rfl) ?_
  refine lv_iload_n (pc := 105) hx hb dX8_titleNow_105 rfl (lv_at hl 1 rfl) ?_
  refine rV (pc := 106) (rest := []) ⟨hx, hb, hml, hown, hts⟩ (k_X8_askOf (t := nI k) (z := z) (g := g) (r := r) (hz10 := (by first | assumption | omega)) (hsn := (by first | assumption | omega))) cw_X8_175 ⟨(Nat.le_of_ble_eq_true rfl), (Nat.le_of_ble_eq_true rfl)⟩ hE hS hP rfl rfl rfl rfl hl.1 rfl (Nat.le_of_ble_eq_true rfl) dX8_titleNow_106 ⟨Nat.le_refl _, Nat.le_refl _⟩ ?_
  refine W.eq (g2 := F0 m 109 ls [.int (askS (sortsS ((r 11)) ((r 12)) ((r 13)) sn (nI k) 5))]) rfl ?_
  rw [hQ]; exact W.iret (pc := 109) hx hb hr (fun t9 ht _ => ⟨retI (by simp [titleS, c_1, c_2, c_3, c_4, c_5, c_6, c_7, c_8]), ht⟩) (fun _ h => nomatch h) dX8_titleNow_109 hlocks
set_option maxRecDepth 100000 in
set_option maxHeartbeats 4000000 in
theorem k_X8_title {o : Nat} {a : Nat → Nat} {z : Nat → Int32} {g : Nat → Int64} {r : Nat → Nat → Int32} (t : Int32) (what : Int32) {n : Nat} {sn : Nat} (hz1 : z 1 = nI n) (hn5 : n ≤ 5) (hz10 : z 10 = nI sn) (hsn : sn ≤ 6) : MR l yX8_title cX8_title 3 (some .int) 4 96 D kB kI kT ks sk sv [.ref o, .int t, .int what] (wR kB kI o a z g r) (some (.int (titS z r sn t what))) := by
  refine MR.go (by decide +kernel) (Nat.le_of_ble_eq_true rfl) ?_
  intro p e s m below meth c0 args Q ls hQ hx hb hr hml hown hts hlocks hE hP hS hl
  have hl : lv_has ls 3 [(0, .ref o), (1, .int t), (2, .int what)] := hl
  have hown : s.vm.findClass RX8 = some m.cls := hown
  refine lv_aload_n (pc := 0) hx hb dX8_title_0 rfl (lv_at hl 0 rfl) ?_
  refine lv_iload_n (pc := 1) hx hb dX8_title_1 rfl (lv_at hl 1 rfl) ?_
  refine rV (pc := 2) (rest := []) ⟨hx, hb, hml, hown, hts⟩ (k_X8_isTitle (t := t) (z := z) (g := g) (r := r)) cw_X8_133 ⟨(Nat.le_of_ble_eq_true rfl), (Nat.le_of_ble_eq_true rfl)⟩ hE hS hP rfl rfl rfl rfl hl.1 rfl (Nat.le_of_ble_eq_true rfl) dX8_title_2 ⟨Nat.le_refl _, Nat.le_refl _⟩ ?_
  refine W.eq (g2 := F0 m 5 ls [.int (bi (inR t 0 ((z 1) - 1)))]) rfl ?_
  refine bif_ne (pc := 5) (tgt := 13) hx hb dX8_title_5 (by decide) (fun c_1 => ?_) (fun c_1 => ?_)
  · skip
    obtain ⟨k, hk, hkt⟩ := isT_nat hz1 hn5 c_1
    refine lv_iload_n (pc := 13) hx hb dX8_title_13 rfl (lv_at hl 2 rfl) ?_
    refine lv_iconst (pc := 14) (v := 0) hx hb dX8_title_14 (by decide) ?_
    refine lv_bipush (pc := 15) (v := 8) hx hb dX8_title_15 (by decide) ?_
    refine rS (pc := 17) (rest := []) ⟨hx, hb, hml, hown, hts⟩ (k_X8_within (v := what) (lo := 0) (hi := 8)) cw_X8_86 ⟨(Nat.le_of_ble_eq_true rfl), (Nat.le_of_ble_eq_true rfl)⟩ hE hS wc0 rfl hl.1 rfl (Nat.le_of_ble_eq_true rfl) dX8_title_17 ⟨Nat.le_refl _, Nat.le_refl _⟩ ?_
    refine W.eq (g2 := F0 m 20 ls [.int (bi (inR what 0 8))]) rfl ?_
    refine bif_eq (pc := 20) (tgt := 32) hx hb dX8_title_20 (by decide) (fun c_2 => ?_) (fun c_2 => ?_)
    · skip
      refine lv_bipush (pc := 32) (v := (-102)) hx hb dX8_title_32 (by decide) ?_
      rw [hQ]; exact W.iret (pc := 34) hx hb hr (fun t9 ht _ => ⟨retI (by rw [titS, if_pos c_1, if_neg c_2]), ht⟩) (fun _ h => nomatch h) dX8_title_34 hlocks
    · skip
      refine lv_aload_n (pc := 23) hx hb dX8_title_23 rfl (lv_at hl 0 rfl) ?_
      refine lv_iload_n (pc := 24) hx hb dX8_title_24 rfl (lv_at hl 1 rfl) ?_
      refine vEq (v := nI k) hkt ?_
      refine lv_iload_n (pc := 25) hx hb dX8_title_25 rfl (lv_at hl 2 rfl) ?_
      refine rV (pc := 26) (rest := []) ⟨hx, hb, hml, hown, hts⟩ (k_X8_titleNow (k := k) (what := what) (z := z) (g := g) (r := r) (hz10 := (by first | assumption | omega)) (hsn := (by first | assumption | omega)) (hk := (by first | assumption | omega))) cw_X8_178 ⟨(Nat.le_of_ble_eq_true rfl), (Nat.le_of_ble_eq_true rfl)⟩ hE hS hP rfl rfl rfl rfl hl.1 rfl (Nat.le_of_ble_eq_true rfl) dX8_title_26 ⟨Nat.le_refl _, Nat.le_refl _⟩ ?_
      refine W.eq (g2 := F0 m 29 ls [.int (titleS r sn k what)]) rfl ?_
      refine lv_goto (pc := 29) (tgt := 34) hx hb dX8_title_29 (by decide) ?_
      rw [hQ]; exact W.iret (pc := 34) hx hb hr (fun t9 ht _ => ⟨retI (by rw [titS, if_pos c_1, if_pos c_2, hkt, ix_nI (by omega)]), ht⟩) (fun _ h => nomatch h) dX8_title_34 hlocks
  · skip
    refine lv_bipush (pc := 8) (v := (-101)) hx hb dX8_title_8 (by decide) ?_
    refine lv_goto (pc := 10) (tgt := 34) hx hb dX8_title_10 (by decide) ?_
    rw [hQ]; exact W.iret (pc := 34) hx hb hr (fun t9 ht _ => ⟨retI (by rw [titS, if_neg c_1]), ht⟩) (fun _ h => nomatch h) dX8_title_34 hlocks
set_option maxRecDepth 100000 in
set_option maxHeartbeats 4000000 in
theorem k_X8_as {o : Nat} {a : Nat → Nat} {z : Nat → Int32} {g : Nat → Int64} {r : Nat → Nat → Int32} (t : Int32) (kind : Int32) {n : Nat} (hz1 : z 1 = nI n) (hn5 : n ≤ 5) : MR l yX8_as cX8_as 4 (some .int) 2 43 D kB kI kT ks sk sv [.ref o, .int t, .int kind] (wR kB kI o a z g r) (some (.int (asS z r t kind))) := by
  refine MR.go (by decide +kernel) (Nat.le_of_ble_eq_true rfl) ?_
  intro p e s m below meth c0 args Q ls hQ hx hb hr hml hown hts hlocks hE hP hS hl
  have hl : lv_has ls 4 [(0, .ref o), (1, .int t), (2, .int kind)] := hl
  have hown : s.vm.findClass RX8 = some m.cls := hown
  refine lv_aload_n (pc := 0) hx hb dX8_as_0 rfl (lv_at hl 0 rfl) ?_
  refine lv_iload_n (pc := 1) hx hb dX8_as_1 rfl (lv_at hl 1 rfl) ?_
  refine rV (pc := 2) (rest := []) ⟨hx, hb, hml, hown, hts⟩ (k_X8_isTitle (t := t) (z := z) (g := g) (r := r)) cw_X8_133 ⟨(Nat.le_of_ble_eq_true rfl), (Nat.le_of_ble_eq_true rfl)⟩ hE hS hP rfl rfl rfl rfl hl.1 rfl (Nat.le_of_ble_eq_true rfl) dX8_as_2 ⟨Nat.le_refl _, Nat.le_refl _⟩ ?_
  refine W.eq (g2 := F0 m 5 ls [.int (bi (inR t 0 ((z 1) - 1)))]) rfl ?_
  refine bif_ne (pc := 5) (tgt := 11) hx hb dX8_as_5 (by decide) (fun c_1 => ?_) (fun c_1 => ?_)
  · skip
    obtain ⟨k, hk, hkt⟩ := isT_nat hz1 hn5 c_1
    refine lv_iload_n (pc := 11) hx hb dX8_as_11 rfl (lv_at hl 2 rfl) ?_
    refine lv_iconst (pc := 12) (v := 0) hx hb dX8_as_12 (by decide) ?_
    refine lv_iconst (pc := 13) (v := 4) hx hb dX8_as_13 (by decide) ?_
    refine rS (pc := 14) (rest := []) ⟨hx, hb, hml, hown, hts⟩ (k_X8_within (v := kind) (lo := 0) (hi := 4)) cw_X8_86 ⟨(Nat.le_of_ble_eq_true rfl), (Nat.le_of_ble_eq_true rfl)⟩ hE hS wc0 rfl hl.1 rfl (Nat.le_of_ble_eq_true rfl) dX8_as_14 ⟨Nat.le_refl _, Nat.le_refl _⟩ ?_
    refine W.eq (g2 := F0 m 17 ls [.int (bi (inR kind 0 4))]) rfl ?_
    refine bif_ne (pc := 17) (tgt := 23) hx hb dX8_as_17 (by decide) (fun c_2 => ?_) (fun c_2 => ?_)
    · skip
      refine lv_aload_n (pc := 23) hx hb dX8_as_23 rfl (lv_at hl 0 rfl) ?_
      refine fget (pc := 24) (v := .ref (a 2)) hx hb hts hown hE hP fl_X8_7 0 rfl rfl dX8_as_24 ?_
      refine lv_iload_n (pc := 27) hx hb dX8_as_27 rfl (lv_at hl 1 rfl) ?_
      refine vEq (v := nI k) hkt ?_
      refine aldN (pc := 28) hx hb hE hP 1 rfl (k) (by omega) (by omega) dX8_as_28 ?_
      refine lv_istore_n (pc := 29) (lv' := [(3, .int ((r 2) k)), (0, .ref o), (1, .int t), (2, .int kind)]) hx hb dX8_as_29 rfl hl (by decide) rfl (fun ls hl => ?_)
      refine lv_iload_n (pc := 30) hx hb dX8_as_30 rfl (lv_at hl 3 rfl) ?_
      refine lv_if_eq (pc := 31) (tgt := 49) hx hb dX8_as_31 (by decide) (fun c_3 => ?_) (fun c_3 => ?_)
      · skip
        refine lv_iload_n (pc := 49) hx hb dX8_as_49 rfl (lv_at hl 2 rfl) ?_
        refine vEq (v := nI k) hkt ?_
        refine lv_goto (pc := 50) (tgt := 54) hx hb dX8_as_50 (by decide) ?_
        rw [hQ]; exact W.iret (pc := 54) hx hb hr (fun t9 ht _ => ⟨retI (by rw [asS, if_pos c_1, if_pos c_2, hkt, ix_nI (by omega)]; simp_all), ht⟩) (fun _ h => nomatch h) dX8_as_54 hlocks
      · skip
        refine lv_iload_n (pc := 34) hx hb dX8_as_34 rfl (lv_at hl 0 rfl) ?_
        refine lv_iload_n (pc := 35) hx hb dX8_as_35 rfl (lv_at hl 3 rfl) ?_
        refine lv_icmp_eq (pc := 36) (tgt := 49) hx hb dX8_as_36 (by decide) (fun c_4 => ?_) (fun c_4 => ?_)
        · skip
          refine lv_iload_n (pc := 49) hx hb dX8_as_49 rfl (lv_at hl 2 rfl) ?_
          refine vEq (v := nI k) hkt ?_
          refine lv_goto (pc := 50) (tgt := 54) hx hb dX8_as_50 (by decide) ?_
          rw [hQ]; exact W.iret (pc := 54) hx hb hr (fun t9 ht _ => ⟨retI (by rw [asS, if_pos c_1, if_pos c_2, hkt, ix_nI (by omega)]; simp_all), ht⟩) (fun _ h => nomatch h) dX8_as_54 hlocks
        · skip
          refine lv_iload_n (pc := 39) hx hb dX8_as_39 rfl (lv_at hl 3 rfl) ?_
          refine lv_iconst (pc := 40) (v := 1) hx hb dX8_as_40 (by decide) ?_
          refine lv_icmp_ne (pc := 41) (tgt := 53) hx hb dX8_as_41 (by decide) (fun c_5 => ?_) (fun c_5 => ?_)
          · skip
            refine lv_iconst (pc := 53) (v := (-1)) hx hb dX8_as_53 (by decide) ?_
            rw [hQ]; exact W.iret (pc := 54) hx hb hr (fun t9 ht _ => ⟨retI (by rw [asS, if_pos c_1, if_pos c_2, hkt, ix_nI (by omega)]; simp_all), ht⟩) (fun _ h => nomatch h) dX8_as_54 hlocks
          · skip
            refine lv_iload_n (pc := 44) hx hb dX8_as_44 rfl (lv_at hl 0 rfl) ?_
            refine lv_iconst (pc := 45) (v := 2) hx hb dX8_as_45 (by decide) ?_
            refine lv_icmp_ne (pc := 46) (tgt := 53) hx hb dX8_as_46 (by decide) (fun c_6 => ?_) (fun c_6 => ?_)
            · skip
              refine lv_iconst (pc := 53) (v := (-1)) hx hb dX8_as_53 (by decide) ?_
              rw [hQ]; exact W.iret (pc := 54) hx hb hr (fun t9 ht _ => ⟨retI (by rw [asS, if_pos c_1, if_pos c_2, hkt, ix_nI (by omega)]; simp_all), ht⟩) (fun _ h => nomatch h) dX8_as_54 hlocks
            · skip
              refine lv_iload_n (pc := 49) hx hb dX8_as_49 rfl (lv_at hl 2 rfl) ?_
              refine vEq (v := nI k) hkt ?_
              refine lv_goto (pc := 50) (tgt := 54) hx hb dX8_as_50 (by decide) ?_
              rw [hQ]; exact W.iret (pc := 54) hx hb hr (fun t9 ht _ => ⟨retI (by rw [asS, if_pos c_1, if_pos c_2, hkt, ix_nI (by omega)]; simp_all), ht⟩) (fun _ h => nomatch h) dX8_as_54 hlocks
    · skip
      refine lv_bipush (pc := 20) (v := (-102)) hx hb dX8_as_20 (by decide) ?_
      rw [hQ]; exact W.iret (pc := 22) hx hb hr (fun t9 ht _ => ⟨retI (by rw [asS, if_pos c_1, if_neg c_2]), ht⟩) (fun _ h => nomatch h) dX8_as_22 hlocks
  · skip
    refine lv_bipush (pc := 8) (v := (-101)) hx hb dX8_as_8 (by decide) ?_
    rw [hQ]; exact W.iret (pc := 10) hx hb hr (fun t9 ht _ => ⟨retI (by rw [asS, if_neg c_1]), ht⟩) (fun _ h => nomatch h) dX8_as_10 hlocks
set_option maxRecDepth 100000 in
set_option maxHeartbeats 4000000 in
theorem k_X8_nightNow {o : Nat} {a : Nat → Nat} {z : Nat → Int32} {g : Nat → Int64} {r : Nat → Nat → Int32} (i : Nat) (what : Int32) {n : Nat} (hok : okP n (r 8)) (hn5 : n ≤ 5) (hi : i < 12) : MR l yX8_nightNow cX8_nightNow 3 (some .int) 6 131 D kB kI kT ks sk sv [.ref o, .int (nI i), .int what] (wR kB kI o a z g r) (some (.int (nightS r i what))) := by
  refine MR.go (by decide +kernel) (Nat.le_of_ble_eq_true rfl) ?_
  intro p e s m below meth c0 args Q ls hQ hx hb hr hml hown hts hlocks hE hP hS hl
  have hl : lv_has ls 3 [(0, .ref o), (1, .int (nI i)), (2, .int what)] := hl
  have hown : s.vm.findClass RX8 = some m.cls := hown
  refine lv_iload_n (pc := 0) hx hb dX8_nightNow_0 rfl (lv_at hl 2 rfl) ?_
  refine lv_if_ne (pc := 1) (tgt := 13) hx hb dX8_nightNow_1 (by decide) (fun c_1 => ?_) (fun c_1 => ?_)
  · skip
    refine lv_iload_n (pc := 13) hx hb dX8_nightNow_13 rfl (lv_at hl 2 rfl) ?_
    refine lv_iconst (pc := 14) (v := 1) hx hb dX8_nightNow_14 (by decide) ?_
    refine lv_icmp_ne (pc := 15) (tgt := 26) hx hb dX8_nightNow_15 (by decide) (fun c_2 => ?_) (fun c_2 => ?_)
    · skip
      refine lv_aload_n (pc := 26) hx hb dX8_nightNow_26 rfl (lv_at hl 0 rfl) ?_
      refine lv_iload_n (pc := 27) hx hb dX8_nightNow_27 rfl (lv_at hl 1 rfl) ?_
      refine rV (pc := 28) (rest := []) ⟨hx, hb, hml, hown, hts⟩ (k_X8_seatsAt (i := i) (z := z) (g := g) (r := r) (hok := (by first | assumption | omega)) (hn5 := (by first | assumption | omega)) (hi := (by first | assumption | omega))) cw_X8_169 ⟨(Nat.le_of_ble_eq_true rfl), (Nat.le_of_ble_eq_true rfl)⟩ hE hS hP rfl rfl rfl rfl hl.1 rfl (Nat.le_of_ble_eq_true rfl) dX8_nightNow_28 ⟨Nat.le_refl _, Nat.le_refl _⟩ ?_
      refine W.eq (g2 := F0 m 31 ls [.int (sts ((r 2)) ((r 7)) ((r 8)) i)]) rfl ?_
      rw [hQ]; exact W.iret (pc := 31) hx hb hr (fun t9 ht _ => ⟨retI (by simp [nightS, c_1, c_2]), ht⟩) (fun _ h => nomatch h) dX8_nightNow_31 hlocks
    · skip
      refine lv_aload_n (pc := 18) hx hb dX8_nightNow_18 rfl (lv_at hl 0 rfl) ?_
      refine lv_iload_n (pc := 19) hx hb dX8_nightNow_19 rfl (lv_at hl 1 rfl) ?_
      refine rV (pc := 20) (rest := []) ⟨hx, hb, hml, hown, hts⟩ (k_X8_breaksAt (i := i) (z := z) (g := g) (r := r) (hok := (by first | assumption | omega)) (hn5 := (by first | assumption | omega)) (hi := (by first | assumption | omega))) cw_X8_163 ⟨(Nat.le_of_ble_eq_true rfl), (Nat.le_of_ble_eq_true rfl)⟩ hE hS hP rfl rfl rfl rfl hl.1 rfl (Nat.le_of_ble_eq_true rfl) dX8_nightNow_20 ⟨Nat.le_refl _, Nat.le_refl _⟩ ?_
      refine W.eq (g2 := F0 m 23 ls [.int (brk ((r 2)) ((r 3)) ((r 4)) ((r 5)) ((r 6)) ((r 8)) i)]) rfl ?_
      refine lv_goto (pc := 23) (tgt := 31) hx hb dX8_nightNow_23 (by decide) ?_
      rw [hQ]; exact W.iret (pc := 31) hx hb hr (fun t9 ht _ => ⟨retI (by simp [nightS, c_1, c_2]), ht⟩) (fun _ h => nomatch h) dX8_nightNow_31 hlocks
  · skip
    refine lv_aload_n (pc := 4) hx hb dX8_nightNow_4 rfl (lv_at hl 0 rfl) ?_
    refine fget (pc := 5) (v := .ref (a 8)) hx hb hts hown hE hP fl_X8_28 0 rfl rfl dX8_nightNow_5 ?_
    refine lv_iload_n (pc := 8) hx hb dX8_nightNow_8 rfl (lv_at hl 1 rfl) ?_
    refine aldN (pc := 9) hx hb hE hP 7 rfl (i) (by omega) (by omega) dX8_nightNow_9 ?_
    refine lv_goto (pc := 10) (tgt := 31) hx hb dX8_nightNow_10 (by decide) ?_
    rw [hQ]; exact W.iret (pc := 31) hx hb hr (fun t9 ht _ => ⟨retI (by simp [nightS, c_1]), ht⟩) (fun _ h => nomatch h) dX8_nightNow_31 hlocks
set_option maxRecDepth 100000 in
set_option maxHeartbeats 4000000 in
theorem k_X8_night {o : Nat} {a : Nat → Nat} {z : Nat → Int32} {g : Nat → Int64} {r : Nat → Nat → Int32} (x : Int32) (what : Int32) {n : Nat} (hok : okP n (r 8)) (hn5 : n ≤ 5) (hz1 : z 1 = nI n) : MR l yX8_night cX8_night 3 (some .int) 7 153 D kB kI kT ks sk sv [.ref o, .int x, .int what] (wR kB kI o a z g r) (some (.int (nigS z r x what))) := by
  refine MR.go (by decide +kernel) (Nat.le_of_ble_eq_true rfl) ?_
  intro p e s m below meth c0 args Q ls hQ hx hb hr hml hown hts hlocks hE hP hS hl
  have hl : lv_has ls 3 [(0, .ref o), (1, .int x), (2, .int what)] := hl
  have hown : s.vm.findClass RX8 = some m.cls := hown
  refine lv_iload_n (pc := 0) hx hb dX8_night_0 rfl (lv_at hl 1 rfl) ?_
  refine rS (pc := 1) (rest := []) ⟨hx, hb, hml, hown, hts⟩ (k_X8_isNight (n := x)) cw_X8_140 ⟨(Nat.le_of_ble_eq_true rfl), (Nat.le_of_ble_eq_true rfl)⟩ hE hS wc0 rfl hl.1 rfl (Nat.le_of_ble_eq_true rfl) dX8_night_1 ⟨Nat.le_refl _, Nat.le_refl _⟩ ?_
  refine W.eq (g2 := F0 m 4 ls [.int (bi (inR x 0 11))]) rfl ?_
  refine bif_eq (pc := 4) (tgt := 14) hx hb dX8_night_4 (by decide) (fun c_1 => ?_) (fun c_1 => ?_)
  · skip
    refine lv_bipush (pc := 14) (v := (-101)) hx hb dX8_night_14 (by decide) ?_
    rw [hQ]; exact W.iret (pc := 16) hx hb hr (fun t9 ht _ => ⟨retI (by rw [nigS, if_neg (fun q => c_1 q.1)]), ht⟩) (fun _ h => nomatch h) dX8_night_16 hlocks
  · skip
    obtain ⟨i, hi, hxi⟩ := inR_nat c_1
    refine lv_aload_n (pc := 7) hx hb dX8_night_7 rfl (lv_at hl 0 rfl) ?_
    refine fget (pc := 8) (v := .int (z 1)) hx hb hts hown hE hP fl_X8_124 0 rfl rfl dX8_night_8 ?_
    refine vEq (v := nI n) hz1 ?_
    refine lv_if_ne (pc := 11) (tgt := 17) hx hb dX8_night_11 (by decide) (fun c_2 => ?_) (fun c_2 => ?_)
    · skip
      have c_2n : ¬ n = 0 := fun hh => c_2 ((nI_eq (a := n) (b := 0) (by omega) (by omega)).mpr hh)
      refine lv_iload_n (pc := 17) hx hb dX8_night_17 rfl (lv_at hl 2 rfl) ?_
      refine lv_iconst (pc := 18) (v := 0) hx hb dX8_night_18 (by decide) ?_
      refine lv_iconst (pc := 19) (v := 2) hx hb dX8_night_19 (by decide) ?_
      refine rS (pc := 20) (rest := []) ⟨hx, hb, hml, hown, hts⟩ (k_X8_within (v := what) (lo := 0) (hi := 2)) cw_X8_86 ⟨(Nat.le_of_ble_eq_true rfl), (Nat.le_of_ble_eq_true rfl)⟩ hE hS wc0 rfl hl.1 rfl (Nat.le_of_ble_eq_true rfl) dX8_night_20 ⟨Nat.le_refl _, Nat.le_refl _⟩ ?_
      refine W.eq (g2 := F0 m 23 ls [.int (bi (inR what 0 2))]) rfl ?_
      refine bif_eq (pc := 23) (tgt := 35) hx hb dX8_night_23 (by decide) (fun c_3 => ?_) (fun c_3 => ?_)
      · skip
        refine lv_bipush (pc := 35) (v := (-102)) hx hb dX8_night_35 (by decide) ?_
        rw [hQ]; exact W.iret (pc := 37) hx hb hr (fun t9 ht _ => ⟨retI (by rw [nigS, if_pos ⟨c_1, fun q => c_2n ((nI_eq (a := n) (b := 0) (by omega) (by omega)).mp (hz1.symm.trans q))⟩, if_neg c_3]), ht⟩) (fun _ h => nomatch h) dX8_night_37 hlocks
      · skip
        refine lv_aload_n (pc := 26) hx hb dX8_night_26 rfl (lv_at hl 0 rfl) ?_
        refine lv_iload_n (pc := 27) hx hb dX8_night_27 rfl (lv_at hl 1 rfl) ?_
        refine vEq (v := nI i) hxi ?_
        refine lv_iload_n (pc := 28) hx hb dX8_night_28 rfl (lv_at hl 2 rfl) ?_
        refine rV (pc := 29) (rest := []) ⟨hx, hb, hml, hown, hts⟩ (k_X8_nightNow (i := i) (what := what) (z := z) (g := g) (r := r) (hok := (by first | assumption | omega)) (hn5 := (by first | assumption | omega)) (hi := (by first | assumption | omega))) cw_X8_181 ⟨(Nat.le_of_ble_eq_true rfl), (Nat.le_of_ble_eq_true rfl)⟩ hE hS hP rfl rfl rfl rfl hl.1 rfl (Nat.le_of_ble_eq_true rfl) dX8_night_29 ⟨Nat.le_refl _, Nat.le_refl _⟩ ?_
        refine W.eq (g2 := F0 m 32 ls [.int (nightS r i what)]) rfl ?_
        refine lv_goto (pc := 32) (tgt := 37) hx hb dX8_night_32 (by decide) ?_
        rw [hQ]; exact W.iret (pc := 37) hx hb hr (fun t9 ht _ => ⟨retI (by rw [nigS, if_pos ⟨c_1, fun q => c_2n ((nI_eq (a := n) (b := 0) (by omega) (by omega)).mp (hz1.symm.trans q))⟩, if_pos c_3, hxi, ix_nI (by omega)]), ht⟩) (fun _ h => nomatch h) dX8_night_37 hlocks
    · skip
      have c_2n : n = 0 := (nI_eq (a := n) (b := 0) (by omega) (by omega)).mp c_2
      refine lv_bipush (pc := 14) (v := (-101)) hx hb dX8_night_14 (by decide) ?_
      rw [hQ]; exact W.iret (pc := 16) hx hb hr (fun t9 ht _ => ⟨retI (by rw [nigS, if_neg (fun q => q.2 (by rw [hz1, c_2n]; rfl))]), ht⟩) (fun _ h => nomatch h) dX8_night_16 hlocks
set_option maxRecDepth 100000 in
set_option maxHeartbeats 4000000 in
theorem k_X8_darkOnes {o : Nat} {a : Nat → Nat} {z : Nat → Int32} {g : Nat → Int64} {r : Nat → Nat → Int32} (f : Nat) (t : Nat) (hft : f ≤ t) (ht : t < 12) : MR l yX8_darkOnes cX8_darkOnes 5 (some .int) 0 0 D kB kI kT ks sk sv [.ref o, .int (nI f), .int (nI t)] (wR kB kI o a z g r) (some (.int (nI (dkN (r 8) f (t + 1 - f))))) := by
  refine MR.go (by decide +kernel) (Nat.le_of_ble_eq_true rfl) ?_
  intro p e s m below meth c0 args Q ls hQ hx hb hr hml hown hts hlocks hE hP hS hl
  have hl : lv_has ls 5 [(0, .ref o), (1, .int (nI f)), (2, .int (nI t))] := hl
  have hown : s.vm.findClass RX8 = some m.cls := hown
  refine lv_iconst (pc := 0) (v := 0) hx hb dX8_darkOnes_0 (by decide) ?_
  refine lv_istore_n (pc := 1) (lv' := [(3, .int 0), (0, .ref o), (1, .int (nI f)), (2, .int (nI t))]) hx hb dX8_darkOnes_1 rfl hl (by decide) rfl (fun ls hl => ?_)
  refine lv_iload_n (pc := 2) hx hb dX8_darkOnes_2 rfl (lv_at hl 2 rfl) ?_
  refine lv_istore (pc := 3) (lv' := [(4, .int (nI f)), (3, .int 0), (0, .ref o), (1, .int (nI f)), (2, .int (nI t))]) hx hb dX8_darkOnes_3 hl (by decide) rfl (fun ls hl => ?_)
  have lp_1 : ∀ (fuel : Nat) (j : Nat), t + 1 - f - j < fuel → (f + j ≤ t + 1) → ∀ (ls : Array Slot), lv_has ls 5 [(0, .ref o), (1, .int (nI f)), (2, .int (nI t)), (3, .int (nI (dkN (r 8) f j))), (4, .int (nI (f + j)))] → W p l e (rmO 0 0) s m args below meth c0 s.heap [] 0 0 Q (F0 m 5 ls []) := by
    intro fuel
    induction fuel with
    | zero => intro j hfuel; exact absurd hfuel (Nat.not_lt_zero _)
    | succ fuel ih_lp_1 =>
      intro j hfuel hj ls hl
      refine lv_iload (pc := 5) hx hb dX8_darkOnes_5 (lv_at hl 4 rfl) ?_
      refine lv_iload_n (pc := 7) hx hb dX8_darkOnes_7 rfl (lv_at hl 2 rfl) ?_
      refine lv_icmp_gt (pc := 8) (tgt := 36) hx hb dX8_darkOnes_8 (by decide) (fun c_2 => ?_) (fun c_2 => ?_)
      · skip
        have c_2n : t < (f + j) := (nI_ltI (a := t) (b := f + j) (by omega) (by omega)).mp c_2
        refine lv_iload_n (pc := 36) hx hb dX8_darkOnes_36 rfl (lv_at hl 3 rfl) ?_
        rw [hQ]; exact W.iret (pc := 37) hx hb hr (fun t9 ht _ => ⟨retI (by rw [show j = t + 1 - f by omega]), ht⟩) (fun _ h => nomatch h) dX8_darkOnes_37 hlocks
      · skip
        have c_2n : ¬ t < (f + j) := fun hh => c_2 ((nI_ltI (a := t) (b := f + j) (by omega) (by omega)).mpr hh)
        refine lv_iload_n (pc := 11) hx hb dX8_darkOnes_11 rfl (lv_at hl 3 rfl) ?_
        refine lv_aload_n (pc := 12) hx hb dX8_darkOnes_12 rfl (lv_at hl 0 rfl) ?_
        refine fget (pc := 13) (v := .ref (a 8)) hx hb hts hown hE hP fl_X8_28 0 rfl rfl dX8_darkOnes_13 ?_
        refine lv_iload (pc := 16) hx hb dX8_darkOnes_16 (lv_at hl 4 rfl) ?_
        refine aldN (pc := 18) hx hb hE hP 7 rfl (f + j) (by omega) (by omega) dX8_darkOnes_18 ?_
        refine lv_iconst (pc := 19) (v := (-1)) hx hb dX8_darkOnes_19 (by decide) ?_
        refine lv_icmp_ne (pc := 20) (tgt := 27) hx hb dX8_darkOnes_20 (by decide) (fun c_3 => ?_) (fun c_3 => ?_)
        · skip
          refine lv_iconst (pc := 27) (v := 0) hx hb dX8_darkOnes_27 (by decide) ?_
          refine iaddV (pc := 28) (v := nI (dkN (r 8) f j + 0)) hx hb dX8_darkOnes_28 (nI_add (dkN (r 8) f j) (0)) ?_
          refine lv_istore_n (pc := 29) (lv' := [(3, .int (nI (dkN (r 8) f j + 0))), (0, .ref o), (1, .int (nI f)), (2, .int (nI t)), (4, .int (nI (f + j)))]) hx hb dX8_darkOnes_29 rfl hl (by decide) rfl (fun ls hl => ?_)
          refine lv_iinc (pc := 30) (v := nI (f + j + 1)) (lv' := [(4, .int (nI (f + j + 1))), (3, .int (nI (dkN (r 8) f j + 0))), (0, .ref o), (1, .int (nI f)), (2, .int (nI t))]) hx hb dX8_darkOnes_30 hl (k := 4) rfl (nI_add (f + j) 1) (by decide) rfl (fun ls hl => ?_)
          refine lv_goto (pc := 33) (tgt := 5) hx hb dX8_darkOnes_33 (by decide) ?_
          exact ih_lp_1 (j + 1) (by omega) (by omega) ls (by rw [show (nI (dkN (r 8) f (j + 1)) : Int32) = nI (dkN (r 8) f j + 0) from (by simp [dkN, cntP, c_2, c_3])]; exact lv_sub hl [2, 3, 4, 1, 0] rfl)
        · skip
          refine lv_iconst (pc := 23) (v := 1) hx hb dX8_darkOnes_23 (by decide) ?_
          refine lv_goto (pc := 24) (tgt := 28) hx hb dX8_darkOnes_24 (by decide) ?_
          refine iaddV (pc := 28) (v := nI (dkN (r 8) f j + 1)) hx hb dX8_darkOnes_28 (nI_add (dkN (r 8) f j) (1)) ?_
          refine lv_istore_n (pc := 29) (lv' := [(3, .int (nI (dkN (r 8) f j + 1))), (0, .ref o), (1, .int (nI f)), (2, .int (nI t)), (4, .int (nI (f + j)))]) hx hb dX8_darkOnes_29 rfl hl (by decide) rfl (fun ls hl => ?_)
          refine lv_iinc (pc := 30) (v := nI (f + j + 1)) (lv' := [(4, .int (nI (f + j + 1))), (3, .int (nI (dkN (r 8) f j + 1))), (0, .ref o), (1, .int (nI f)), (2, .int (nI t))]) hx hb dX8_darkOnes_30 hl (k := 4) rfl (nI_add (f + j) 1) (by decide) rfl (fun ls hl => ?_)
          refine lv_goto (pc := 33) (tgt := 5) hx hb dX8_darkOnes_33 (by decide) ?_
          exact ih_lp_1 (j + 1) (by omega) (by omega) ls (by rw [show (nI (dkN (r 8) f (j + 1)) : Int32) = nI (dkN (r 8) f j + 1) from (by simp [dkN, cntP, c_2, c_3])]; exact lv_sub hl [2, 3, 4, 1, 0] rfl)
  exact lp_1 _ 0 (Nat.lt_succ_self _) (by omega) ls (lv_sub hl [2, 3, 4, 1, 0] rfl)
set_option maxRecDepth 100000 in
set_option maxHeartbeats 4000000 in
theorem k_X8_seatsOf {o : Nat} {a : Nat → Nat} {z : Nat → Int32} {g : Nat → Int64} {r : Nat → Nat → Int32} (t : Int32) {n : Nat} (hok : okP n (r 8)) (hn5 : n ≤ 5) : MR l yX8_seatsOf cX8_seatsOf 4 (some .int) 6 131 D kB kI kT ks sk sv [.ref o, .int t] (wR kB kI o a z g r) (some (.int (seatS r t 12))) := by
  refine MR.go (by decide +kernel) (Nat.le_of_ble_eq_true rfl) ?_
  intro p e s m below meth c0 args Q ls hQ hx hb hr hml hown hts hlocks hE hP hS hl
  have hl : lv_has ls 4 [(0, .ref o), (1, .int t)] := hl
  have hown : s.vm.findClass RX8 = some m.cls := hown
  refine lv_iconst (pc := 0) (v := 0) hx hb dX8_seatsOf_0 (by decide) ?_
  refine lv_istore_n (pc := 1) (lv' := [(2, .int 0), (0, .ref o), (1, .int t)]) hx hb dX8_seatsOf_1 rfl hl (by decide) rfl (fun ls hl => ?_)
  refine lv_iconst (pc := 2) (v := 0) hx hb dX8_seatsOf_2 (by decide) ?_
  refine lv_istore_n (pc := 3) (lv' := [(3, .int 0), (2, .int 0), (0, .ref o), (1, .int t)]) hx hb dX8_seatsOf_3 rfl hl (by decide) rfl (fun ls hl => ?_)
  have lp_1 : ∀ (fuel : Nat) (i : Nat), 12 - i < fuel → (i ≤ 12) → ∀ (ls : Array Slot), lv_has ls 4 [(0, .ref o), (1, .int t), (2, .int (seatS r t i)), (3, .int (nI i))] → W p l e (rmO 6 131) s m args below meth c0 s.heap [] 0 0 Q (F0 m 4 ls []) := by
    intro fuel
    induction fuel with
    | zero => intro i hfuel; exact absurd hfuel (Nat.not_lt_zero _)
    | succ fuel ih_lp_1 =>
      intro i hfuel hi ls hl
      refine lv_iload_n (pc := 4) hx hb dX8_seatsOf_4 rfl (lv_at hl 3 rfl) ?_
      refine lv_bipush (pc := 5) (v := 12) hx hb dX8_seatsOf_5 (by decide) ?_
      refine lv_icmp_ge (pc := 7) (tgt := 46) hx hb dX8_seatsOf_7 (by decide) (fun c_2 => ?_) (fun c_2 => ?_)
      · skip
        have c_2n : 12 ≤ i := (nI_leI (a := 12) (b := i) (by omega) (by omega)).mp c_2
        refine lv_iload_n (pc := 46) hx hb dX8_seatsOf_46 rfl (lv_at hl 2 rfl) ?_
        rw [hQ]; exact W.iret (pc := 47) hx hb hr (fun t9 ht _ => ⟨retI (by rw [show i = 12 by omega]), ht⟩) (fun _ h => nomatch h) dX8_seatsOf_47 hlocks
      · skip
        have c_2n : ¬ 12 ≤ i := fun hh => c_2 ((nI_leI (a := 12) (b := i) (by omega) (by omega)).mpr hh)
        refine lv_iload_n (pc := 10) hx hb dX8_seatsOf_10 rfl (lv_at hl 2 rfl) ?_
        refine lv_aload_n (pc := 11) hx hb dX8_seatsOf_11 rfl (lv_at hl 0 rfl) ?_
        refine fget (pc := 12) (v := .ref (a 8)) hx hb hts hown hE hP fl_X8_28 0 rfl rfl dX8_seatsOf_12 ?_
        refine lv_iload_n (pc := 15) hx hb dX8_seatsOf_15 rfl (lv_at hl 3 rfl) ?_
        refine aldN (pc := 16) hx hb hE hP 7 rfl (i) (by omega) (by omega) dX8_seatsOf_16 ?_
        refine lv_iload_n (pc := 17) hx hb dX8_seatsOf_17 rfl (lv_at hl 1 rfl) ?_
        refine lv_icmp_ne (pc := 18) (tgt := 37) hx hb dX8_seatsOf_18 (by decide) (fun c_3 => ?_) (fun c_3 => ?_)
        · skip
          refine lv_iconst (pc := 37) (v := 0) hx hb dX8_seatsOf_37 (by decide) ?_
          refine lv_iadd (pc := 38) hx hb dX8_seatsOf_38 ?_
          refine lv_istore_n (pc := 39) (lv' := [(2, .int ((seatS r t i) + 0)), (0, .ref o), (1, .int t), (3, .int (nI i))]) hx hb dX8_seatsOf_39 rfl hl (by decide) rfl (fun ls hl => ?_)
          refine lv_iinc (pc := 40) (v := nI (i + 1)) (lv' := [(3, .int (nI (i + 1))), (2, .int ((seatS r t i) + 0)), (0, .ref o), (1, .int t)]) hx hb dX8_seatsOf_40 hl (k := 3) rfl (nI_add (i) 1) (by decide) rfl (fun ls hl => ?_)
          refine lv_goto (pc := 43) (tgt := 4) hx hb dX8_seatsOf_43 (by decide) ?_
          exact ih_lp_1 (i + 1) (by omega) (by omega) ls (by rw [show (seatS r t (i + 1) : Int32) = (seatS r t i) + 0 from (by simp [seatS, sumI, c_2, c_3])]; exact lv_sub hl [2, 3, 1, 0] rfl)
        · skip
          refine lv_aload_n (pc := 21) hx hb dX8_seatsOf_21 rfl (lv_at hl 0 rfl) ?_
          refine lv_iload_n (pc := 22) hx hb dX8_seatsOf_22 rfl (lv_at hl 3 rfl) ?_
          refine rV (pc := 23) (rest := [.int (seatS r t i)]) ⟨hx, hb, hml, hown, hts⟩ (k_X8_breaksAt (i := i) (z := z) (g := g) (r := r) (hok := (by first | assumption | omega)) (hn5 := (by first | assumption | omega)) (hi := (by omega))) cw_X8_163 ⟨(Nat.le_of_ble_eq_true rfl), (Nat.le_of_ble_eq_true rfl)⟩ hE hS hP rfl rfl rfl rfl hl.1 rfl (Nat.le_of_ble_eq_true rfl) dX8_seatsOf_23 ⟨Nat.le_refl _, Nat.le_refl _⟩ ?_
          refine W.eq (g2 := F0 m 26 ls [.int (brk ((r 2)) ((r 3)) ((r 4)) ((r 5)) ((r 6)) ((r 8)) i), .int (seatS r t i)]) rfl ?_
          refine lv_if_ne (pc := 26) (tgt := 37) hx hb dX8_seatsOf_26 (by decide) (fun c_4 => ?_) (fun c_4 => ?_)
          · skip
            refine lv_iconst (pc := 37) (v := 0) hx hb dX8_seatsOf_37 (by decide) ?_
            refine lv_iadd (pc := 38) hx hb dX8_seatsOf_38 ?_
            refine lv_istore_n (pc := 39) (lv' := [(2, .int ((seatS r t i) + 0)), (0, .ref o), (1, .int t), (3, .int (nI i))]) hx hb dX8_seatsOf_39 rfl hl (by decide) rfl (fun ls hl => ?_)
            refine lv_iinc (pc := 40) (v := nI (i + 1)) (lv' := [(3, .int (nI (i + 1))), (2, .int ((seatS r t i) + 0)), (0, .ref o), (1, .int t)]) hx hb dX8_seatsOf_40 hl (k := 3) rfl (nI_add (i) 1) (by decide) rfl (fun ls hl => ?_)
            refine lv_goto (pc := 43) (tgt := 4) hx hb dX8_seatsOf_43 (by decide) ?_
            exact ih_lp_1 (i + 1) (by omega) (by omega) ls (by rw [show (seatS r t (i + 1) : Int32) = (seatS r t i) + 0 from (by simp [seatS, sumI, c_2, c_3, c_4])]; exact lv_sub hl [2, 3, 1, 0] rfl)
          · skip
            refine lv_aload_n (pc := 29) hx hb dX8_seatsOf_29 rfl (lv_at hl 0 rfl) ?_
            refine lv_iload_n (pc := 30) hx hb dX8_seatsOf_30 rfl (lv_at hl 3 rfl) ?_
            refine rV (pc := 31) (rest := [.int (seatS r t i)]) ⟨hx, hb, hml, hown, hts⟩ (k_X8_seatsAt (i := i) (z := z) (g := g) (r := r) (hok := (by first | assumption | omega)) (hn5 := (by first | assumption | omega)) (hi := (by omega))) cw_X8_169 ⟨(Nat.le_of_ble_eq_true rfl), (Nat.le_of_ble_eq_true rfl)⟩ hE hS hP rfl rfl rfl rfl hl.1 rfl (Nat.le_of_ble_eq_true rfl) dX8_seatsOf_31 ⟨Nat.le_refl _, Nat.le_refl _⟩ ?_
            refine W.eq (g2 := F0 m 34 ls [.int (sts ((r 2)) ((r 7)) ((r 8)) i), .int (seatS r t i)]) rfl ?_
            refine lv_goto (pc := 34) (tgt := 38) hx hb dX8_seatsOf_34 (by decide) ?_
            refine lv_iadd (pc := 38) hx hb dX8_seatsOf_38 ?_
            refine lv_istore_n (pc := 39) (lv' := [(2, .int ((seatS r t i) + (sts ((r 2)) ((r 7)) ((r 8)) i))), (0, .ref o), (1, .int t), (3, .int (nI i))]) hx hb dX8_seatsOf_39 rfl hl (by decide) rfl (fun ls hl => ?_)
            refine lv_iinc (pc := 40) (v := nI (i + 1)) (lv' := [(3, .int (nI (i + 1))), (2, .int ((seatS r t i) + (sts ((r 2)) ((r 7)) ((r 8)) i))), (0, .ref o), (1, .int t)]) hx hb dX8_seatsOf_40 hl (k := 3) rfl (nI_add (i) 1) (by decide) rfl (fun ls hl => ?_)
            refine lv_goto (pc := 43) (tgt := 4) hx hb dX8_seatsOf_43 (by decide) ?_
            exact ih_lp_1 (i + 1) (by omega) (by omega) ls (by rw [show (seatS r t (i + 1) : Int32) = (seatS r t i) + (sts ((r 2)) ((r 7)) ((r 8)) i) from (by simp [seatS, sumI, c_2, c_3, c_4])]; exact lv_sub hl [2, 3, 1, 0] rfl)
  exact lp_1 _ 0 (Nat.lt_succ_self _) (by omega) ls (lv_sub hl [2, 3, 1, 0] rfl)
set_option maxRecDepth 100000 in
set_option maxHeartbeats 4000000 in
theorem k_X8_isAhead {o : Nat} {a : Nat → Nat} {z : Nat → Int32} {g : Nat → Int64} {r : Nat → Nat → Int32} (one : Int32) (other : Int32) {n : Nat} (hok : okP n (r 8)) (hn5 : n ≤ 5) : MR l yX8_isAhead cX8_isAhead 5 (some .boolean) 7 154 D kB kI kT ks sk sv [.ref o, .int one, .int other] (wR kB kI o a z g r) (some (.int (bi (aheadB r one other = true)))) := by
  refine MR.go (by decide +kernel) (Nat.le_of_ble_eq_true rfl) ?_
  intro p e s m below meth c0 args Q ls hQ hx hb hr hml hown hts hlocks hE hP hS hl
  have hl : lv_has ls 5 [(0, .ref o), (1, .int one), (2, .int other)] := hl
  have hown : s.vm.findClass RX8 = some m.cls := hown
  refine lv_aload_n (pc := 0) hx hb dX8_isAhead_0 rfl (lv_at hl 0 rfl) ?_
  refine lv_iload_n (pc := 1) hx hb dX8_isAhead_1 rfl (lv_at hl 1 rfl) ?_
  refine lv_bipush (pc := 2) (v := 12) hx hb dX8_isAhead_2 (by decide) ?_
  refine rV (pc := 4) (rest := []) ⟨hx, hb, hml, hown, hts⟩ (k_X8_nightsOf (t := one) (b := 12) (z := z) (g := g) (r := r) (hb12 := (by first | assumption | omega))) cw_X8_153 ⟨(Nat.le_of_ble_eq_true rfl), (Nat.le_of_ble_eq_true rfl)⟩ hE hS hP rfl rfl rfl rfl hl.1 rfl (Nat.le_of_ble_eq_true rfl) dX8_isAhead_4 ⟨Nat.le_refl _, Nat.le_refl _⟩ ?_
  refine W.eq (g2 := F0 m 7 ls [.int (nI (nOf ((r 8)) one 12))]) rfl ?_
  refine lv_aload_n (pc := 7) hx hb dX8_isAhead_7 rfl (lv_at hl 0 rfl) ?_
  refine lv_iload_n (pc := 8) hx hb dX8_isAhead_8 rfl (lv_at hl 2 rfl) ?_
  refine lv_bipush (pc := 9) (v := 12) hx hb dX8_isAhead_9 (by decide) ?_
  refine rV (pc := 11) (rest := [.int (nI (nOf ((r 8)) one 12))]) ⟨hx, hb, hml, hown, hts⟩ (k_X8_nightsOf (t := other) (b := 12) (z := z) (g := g) (r := r) (hb12 := (by first | assumption | omega))) cw_X8_153 ⟨(Nat.le_of_ble_eq_true rfl), (Nat.le_of_ble_eq_true rfl)⟩ hE hS hP rfl rfl rfl rfl hl.1 rfl (Nat.le_of_ble_eq_true rfl) dX8_isAhead_11 ⟨Nat.le_refl _, Nat.le_refl _⟩ ?_
  refine W.eq (g2 := F0 m 14 ls [.int (nI (nOf ((r 8)) other 12)), .int (nI (nOf ((r 8)) one 12))]) rfl ?_
  refine isubV (pc := 14) (v := (nI (nOf ((r 8)) one 12)) - (nI (nOf ((r 8)) other 12))) hx hb dX8_isAhead_14 rfl ?_
  refine lv_istore_n (pc := 15) (lv' := [(3, .int ((nI (nOf ((r 8)) one 12)) - (nI (nOf ((r 8)) other 12)))), (0, .ref o), (1, .int one), (2, .int other)]) hx hb dX8_isAhead_15 rfl hl (by decide) rfl (fun ls hl => ?_)
  refine lv_aload_n (pc := 16) hx hb dX8_isAhead_16 rfl (lv_at hl 1 rfl) ?_
  refine lv_iload_n (pc := 17) hx hb dX8_isAhead_17 rfl (lv_at hl 2 rfl) ?_
  refine rV (pc := 18) (rest := []) ⟨hx, hb, hml, hown, hts⟩ (k_X8_seatsOf (t := one) (z := z) (g := g) (r := r) (hok := (by first | assumption | omega)) (hn5 := (by first | assumption | omega))) cw_X8_224 ⟨(Nat.le_of_ble_eq_true rfl), (Nat.le_of_ble_eq_true rfl)⟩ hE hS hP rfl rfl rfl rfl hl.1 rfl (Nat.le_of_ble_eq_true rfl) dX8_isAhead_18 ⟨Nat.le_refl _, Nat.le_refl _⟩ ?_
  refine W.eq (g2 := F0 m 21 ls [.int (seatS r one 12)]) rfl ?_
  refine lv_aload_n (pc := 21) hx hb dX8_isAhead_21 rfl (lv_at hl 1 rfl) ?_
  refine lv_iload_n (pc := 22) hx hb dX8_isAhead_22 rfl (lv_at hl 3 rfl) ?_
  refine rV (pc := 23) (rest := [.int (seatS r one 12)]) ⟨hx, hb, hml, hown, hts⟩ (k_X8_seatsOf (t := other) (z := z) (g := g) (r := r) (hok := (by first | assumption | omega)) (hn5 := (by first | assumption | omega))) cw_X8_224 ⟨(Nat.le_of_ble_eq_true rfl), (Nat.le_of_ble_eq_true rfl)⟩ hE hS hP rfl rfl rfl rfl hl.1 rfl (Nat.le_of_ble_eq_true rfl) dX8_isAhead_23 ⟨Nat.le_refl _, Nat.le_refl _⟩ ?_
  refine W.eq (g2 := F0 m 26 ls [.int (seatS r other 12), .int (seatS r one 12)]) rfl ?_
  refine lv_isub (pc := 26) hx hb dX8_isAhead_26 ?_
  refine lv_istore (pc := 27) (lv' := [(4, .int ((seatS r one 12) - (seatS r other 12))), (3, .int ((nI (nOf ((r 8)) one 12)) - (nI (nOf ((r 8)) other 12)))), (0, .ref o), (1, .int one), (2, .int other)]) hx hb dX8_isAhead_27 hl (by decide) rfl (fun ls hl => ?_)
  refine lv_iload_n (pc := 29) hx hb dX8_isAhead_29 rfl (lv_at hl 1 rfl) ?_
  refine lv_if_eq (pc := 30) (tgt := 45) hx hb dX8_isAhead_30 (by decide) (fun c_1 => ?_) (fun c_1 => ?_)
  · skip
    refine lv_iload (pc := 45) hx hb dX8_isAhead_45 (lv_at hl 0 rfl) ?_
    refine lv_if_eq (pc := 47) (tgt := 63) hx hb dX8_isAhead_47 (by decide) (fun c_2 => ?_) (fun c_2 => ?_)
    · skip
      refine lv_iload_n (pc := 63) hx hb dX8_isAhead_63 rfl (lv_at hl 3 rfl) ?_
      refine lv_iload_n (pc := 64) hx hb dX8_isAhead_64 rfl (lv_at hl 4 rfl) ?_
      refine lv_icmp_ge (pc := 65) (tgt := 72) hx hb dX8_isAhead_65 (by decide) (fun c_3 => ?_) (fun c_3 => ?_)
      · skip
        refine lv_iconst (pc := 72) (v := 0) hx hb dX8_isAhead_72 (by decide) ?_
        rw [hQ]; exact W.zret (pc := 73) hx hb hr rfl (fun t9 ht _ => ⟨retI (bi_f (by simp [aheadB, ahdB, c_1, c_2, c_3])), ht⟩) (fun _ h => nomatch h) dX8_isAhead_73 hlocks
      · skip
        refine lv_iconst (pc := 68) (v := 1) hx hb dX8_isAhead_68 (by decide) ?_
        refine lv_goto (pc := 69) (tgt := 73) hx hb dX8_isAhead_69 (by decide) ?_
        rw [hQ]; exact W.zret (pc := 73) hx hb hr rfl (fun t9 ht _ => ⟨retI (bi_t (by simp [aheadB, ahdB, c_1, c_2, Int32.not_le.mp c_3])), ht⟩) (fun _ h => nomatch h) dX8_isAhead_73 hlocks
    · skip
      refine lv_iload (pc := 50) hx hb dX8_isAhead_50 (lv_at hl 0 rfl) ?_
      refine lv_if_le (pc := 52) (tgt := 59) hx hb dX8_isAhead_52 (by decide) (fun c_4 => ?_) (fun c_4 => ?_)
      · skip
        refine lv_iconst (pc := 59) (v := 0) hx hb dX8_isAhead_59 (by decide) ?_
        refine lv_goto (pc := 60) (tgt := 73) hx hb dX8_isAhead_60 (by decide) ?_
        rw [hQ]; exact W.zret (pc := 73) hx hb hr rfl (fun t9 ht _ => ⟨retI (bi_f (by simp [aheadB, ahdB, c_1, c_2, c_4])), ht⟩) (fun _ h => nomatch h) dX8_isAhead_73 hlocks
      · skip
        refine lv_iconst (pc := 55) (v := 1) hx hb dX8_isAhead_55 (by decide) ?_
        refine lv_goto (pc := 56) (tgt := 73) hx hb dX8_isAhead_56 (by decide) ?_
        rw [hQ]; exact W.zret (pc := 73) hx hb hr rfl (fun t9 ht _ => ⟨retI (bi_t (by simp [aheadB, ahdB, c_1, c_2, Int32.not_le.mp c_4])), ht⟩) (fun _ h => nomatch h) dX8_isAhead_73 hlocks
  · skip
    refine lv_iload_n (pc := 33) hx hb dX8_isAhead_33 rfl (lv_at hl 1 rfl) ?_
    refine lv_if_le (pc := 34) (tgt := 41) hx hb dX8_isAhead_34 (by decide) (fun c_5 => ?_) (fun c_5 => ?_)
    · skip
      refine lv_iconst (pc := 41) (v := 0) hx hb dX8_isAhead_41 (by decide) ?_
      refine lv_goto (pc := 42) (tgt := 73) hx hb dX8_isAhead_42 (by decide) ?_
      rw [hQ]; exact W.zret (pc := 73) hx hb hr rfl (fun t9 ht _ => ⟨retI (bi_f (by simp [aheadB, ahdB, c_1, c_5])), ht⟩) (fun _ h => nomatch h) dX8_isAhead_73 hlocks
    · skip
      refine lv_iconst (pc := 37) (v := 1) hx hb dX8_isAhead_37 (by decide) ?_
      refine lv_goto (pc := 38) (tgt := 73) hx hb dX8_isAhead_38 (by decide) ?_
      rw [hQ]; exact W.zret (pc := 73) hx hb hr rfl (fun t9 ht _ => ⟨retI (bi_t (by simp [aheadB, ahdB, c_1, Int32.not_le.mp c_5])), ht⟩) (fun _ h => nomatch h) dX8_isAhead_73 hlocks
set_option maxRecDepth 100000 in
set_option maxHeartbeats 4000000 in
theorem k_X8_rankNow {o : Nat} {a : Nat → Nat} {z : Nat → Int32} {g : Nat → Int64} {r : Nat → Nat → Int32} (place : Int32) {n : Nat} (hok : okP n (r 8)) (hn5 : n ≤ 5) (hz1 : z 1 = nI n) : MR l yX8_rankNow cX8_rankNow 5 (some .int) 8 178 D kB kI kT ks sk sv [.ref o, .int place] (wR kB kI o a z g r) (some (.int (rankS r n place))) := by
  refine MR.go (by decide +kernel) (Nat.le_of_ble_eq_true rfl) ?_
  intro p e s m below meth c0 args Q ls hQ hx hb hr hml hown hts hlocks hE hP hS hl
  have hl : lv_has ls 5 [(0, .ref o), (1, .int place)] := hl
  have hown : s.vm.findClass RX8 = some m.cls := hown
  refine lv_iconst (pc := 0) (v := 0) hx hb dX8_rankNow_0 (by decide) ?_
  refine lv_istore_n (pc := 1) (lv' := [(2, .int 0), (0, .ref o), (1, .int place)]) hx hb dX8_rankNow_1 rfl hl (by decide) rfl (fun ls hl => ?_)
  have lp_1 : ∀ (fuel : Nat) (k : Nat), n - k < fuel → (k ≤ n) → (rankS r n place = rankF (fun q => aheadN r q n) place n (n - k)) → ∀ (ls : Array Slot), lv_has ls 5 [(0, .ref o), (1, .int place), (2, .int (nI k))] → W p l e (rmO 8 178) s m args below meth c0 s.heap [] 0 0 Q (F0 m 2 ls []) := by
    intro fuel
    induction fuel with
    | zero => intro k hfuel; exact absurd hfuel (Nat.not_lt_zero _)
    | succ fuel ih_lp_1 =>
      intro k hfuel hk hR ls hl
      refine lv_iload_n (pc := 2) hx hb dX8_rankNow_2 rfl (lv_at hl 2 rfl) ?_
      refine lv_aload_n (pc := 3) hx hb dX8_rankNow_3 rfl (lv_at hl 0 rfl) ?_
      refine fget (pc := 4) (v := .int (z 1)) hx hb hts hown hE hP fl_X8_124 0 rfl rfl dX8_rankNow_4 ?_
      refine vEq (v := nI n) hz1 ?_
      refine lv_icmp_ge (pc := 7) (tgt := 67) hx hb dX8_rankNow_7 (by decide) (fun c_2 => ?_) (fun c_2 => ?_)
      · skip
        have c_2n : n ≤ k := (nI_leI (a := n) (b := k) (by omega) (by omega)).mp c_2
        refine lv_bipush (pc := 67) (v := (-101)) hx hb dX8_rankNow_67 (by decide) ?_
        rw [hQ]; exact W.iret (pc := 69) hx hb hr (fun t9 ht _ => ⟨retI (by rw [hR, show n - k = 0 by omega]; rfl), ht⟩) (fun _ h => nomatch h) dX8_rankNow_69 hlocks
      · skip
        have c_2n : ¬ n ≤ k := fun hh => c_2 ((nI_leI (a := n) (b := k) (by omega) (by omega)).mpr hh)
        refine lv_iconst (pc := 10) (v := 0) hx hb dX8_rankNow_10 (by decide) ?_
        refine lv_istore_n (pc := 11) (lv' := [(3, .int 0), (0, .ref o), (1, .int place), (2, .int (nI k))]) hx hb dX8_rankNow_11 rfl hl (by decide) rfl (fun ls hl => ?_)
        refine lv_iconst (pc := 12) (v := 0) hx hb dX8_rankNow_12 (by decide) ?_
        refine lv_istore (pc := 13) (lv' := [(4, .int 0), (3, .int 0), (0, .ref o), (1, .int place), (2, .int (nI k))]) hx hb dX8_rankNow_13 hl (by decide) rfl (fun ls hl => ?_)
        have lp_3 : ∀ (fuel : Nat) (e9 : Nat), n - e9 < fuel → (e9 ≤ n) → ∀ (ls : Array Slot), lv_has ls 5 [(0, .ref o), (1, .int place), (2, .int (nI k)), (3, .int (nI (aheadN r k e9))), (4, .int (nI e9))] → W p l e (rmO 8 178) s m args below meth c0 s.heap [] 0 0 Q (F0 m 15 ls []) := by
          intro fuel
          induction fuel with
          | zero => intro e9 hfuel; exact absurd hfuel (Nat.not_lt_zero _)
          | succ fuel ih_lp_3 =>
            intro e9 hfuel he ls hl
            refine lv_iload (pc := 15) hx hb dX8_rankNow_15 (lv_at hl 4 rfl) ?_
            refine lv_aload_n (pc := 17) hx hb dX8_rankNow_17 rfl (lv_at hl 0 rfl) ?_
            refine fget (pc := 18) (v := .int (z 1)) hx hb hts hown hE hP fl_X8_124 0 rfl rfl dX8_rankNow_18 ?_
            refine vEq (v := nI n) hz1 ?_
            refine lv_icmp_ge (pc := 21) (tgt := 54) hx hb dX8_rankNow_21 (by decide) (fun c_4 => ?_) (fun c_4 => ?_)
            · skip
              have c_4n : n ≤ e9 := (nI_leI (a := n) (b := e9) (by omega) (by omega)).mp c_4
              refine lv_iload_n (pc := 54) hx hb dX8_rankNow_54 rfl (lv_at hl 3 rfl) ?_
              refine lv_iload_n (pc := 55) hx hb dX8_rankNow_55 rfl (lv_at hl 1 rfl) ?_
              refine lv_icmp_ne (pc := 56) (tgt := 61) hx hb dX8_rankNow_56 (by decide) (fun c_5 => ?_) (fun c_5 => ?_)
              · skip
                refine lv_iinc (pc := 61) (v := nI (k + 1)) (lv' := [(2, .int (nI (k + 1))), (0, .ref o), (1, .int place), (3, .int (nI (aheadN r k e9))), (4, .int (nI e9))]) hx hb dX8_rankNow_61 hl (k := 2) rfl (nI_add (k) 1) (by decide) rfl (fun ls hl => ?_)
                refine lv_goto (pc := 64) (tgt := 2) hx hb dX8_rankNow_64 (by decide) ?_
                exact ih_lp_1 (k + 1) (by omega) (by omega) (by rw [hR, show n - k = (n - (k + 1)) + 1 by omega, rankF, show n - (n - (k + 1) + 1) = k by omega, if_neg (by obtain rfl : e9 = n := (by omega); exact c_5)]) ls (lv_sub hl [1, 2, 0] rfl)
              · skip
                refine lv_iload_n (pc := 59) hx hb dX8_rankNow_59 rfl (lv_at hl 2 rfl) ?_
                rw [hQ]; exact W.iret (pc := 60) hx hb hr (fun t9 ht _ => ⟨retI (by rw [hR, show n - k = (n - (k + 1)) + 1 by omega, rankF, show n - (n - (k + 1) + 1) = k by omega, if_pos (by obtain rfl : e9 = n := (by omega); exact c_5)]), ht⟩) (fun _ h => nomatch h) dX8_rankNow_60 hlocks
            · skip
              have c_4n : ¬ n ≤ e9 := fun hh => c_4 ((nI_leI (a := n) (b := e9) (by omega) (by omega)).mpr hh)
              refine lv_iload_n (pc := 24) hx hb dX8_rankNow_24 rfl (lv_at hl 3 rfl) ?_
              refine lv_iload (pc := 25) hx hb dX8_rankNow_25 (lv_at hl 4 rfl) ?_
              refine lv_iload_n (pc := 27) hx hb dX8_rankNow_27 rfl (lv_at hl 2 rfl) ?_
              refine lv_icmp_eq (pc := 28) (tgt := 45) hx hb dX8_rankNow_28 (by decide) (fun c_6 => ?_) (fun c_6 => ?_)
              · skip
                have c_6n : e9 = k := (nI_eq (a := e9) (b := k) (by omega) (by omega)).mp c_6
                refine lv_iconst (pc := 45) (v := 0) hx hb dX8_rankNow_45 (by decide) ?_
                refine iaddV (pc := 46) (v := nI (aheadN r k e9 + 0)) hx hb dX8_rankNow_46 (nI_add (aheadN r k e9) (0)) ?_
                refine lv_istore_n (pc := 47) (lv' := [(3, .int (nI (aheadN r k e9 + 0))), (0, .ref o), (1, .int place), (2, .int (nI k)), (4, .int (nI e9))]) hx hb dX8_rankNow_47 rfl hl (by decide) rfl (fun ls hl => ?_)
                refine lv_iinc (pc := 48) (v := nI (e9 + 1)) (lv' := [(4, .int (nI (e9 + 1))), (3, .int (nI (aheadN r k e9 + 0))), (0, .ref o), (1, .int place), (2, .int (nI k))]) hx hb dX8_rankNow_48 hl (k := 4) rfl (nI_add (e9) 1) (by decide) rfl (fun ls hl => ?_)
                refine lv_goto (pc := 51) (tgt := 15) hx hb dX8_rankNow_51 (by decide) ?_
                exact ih_lp_3 (e9 + 1) (by omega) (by omega) ls (by rw [show (nI (aheadN r k (e9 + 1)) : Int32) = nI (aheadN r k e9 + 0) from (by simp [aheadN, cntP, c_2, c_6n])]; exact lv_sub hl [2, 3, 4, 1, 0] rfl)
              · skip
                have c_6n : ¬ e9 = k := fun hh => c_6 ((nI_eq (a := e9) (b := k) (by omega) (by omega)).mpr hh)
                refine lv_aload_n (pc := 31) hx hb dX8_rankNow_31 rfl (lv_at hl 0 rfl) ?_
                refine lv_iload (pc := 32) hx hb dX8_rankNow_32 (lv_at hl 4 rfl) ?_
                refine lv_iload_n (pc := 34) hx hb dX8_rankNow_34 rfl (lv_at hl 2 rfl) ?_
                refine rV (pc := 35) (rest := [.int (nI (aheadN r k e9))]) ⟨hx, hb, hml, hown, hts⟩ (k_X8_isAhead (one := nI e9) (other := nI k) (z := z) (g := g) (r := r) (hok := (by first | assumption | omega)) (hn5 := (by first | assumption | omega))) cw_X8_227 ⟨(Nat.le_of_ble_eq_true rfl), (Nat.le_of_ble_eq_true rfl)⟩ hE hS hP rfl rfl rfl rfl hl.1 rfl (Nat.le_of_ble_eq_true rfl) dX8_rankNow_35 ⟨Nat.le_refl _, Nat.le_refl _⟩ ?_
                refine W.eq (g2 := F0 m 38 ls [.int (bi (aheadB r (nI e9) (nI k) = true)), .int (nI (aheadN r k e9))]) rfl ?_
                refine bif_eq (pc := 38) (tgt := 45) hx hb dX8_rankNow_38 (by decide) (fun c_7 => ?_) (fun c_7 => ?_)
                · skip
                  refine lv_iconst (pc := 45) (v := 0) hx hb dX8_rankNow_45 (by decide) ?_
                  refine iaddV (pc := 46) (v := nI (aheadN r k e9 + 0)) hx hb dX8_rankNow_46 (nI_add (aheadN r k e9) (0)) ?_
                  refine lv_istore_n (pc := 47) (lv' := [(3, .int (nI (aheadN r k e9 + 0))), (0, .ref o), (1, .int place), (2, .int (nI k)), (4, .int (nI e9))]) hx hb dX8_rankNow_47 rfl hl (by decide) rfl (fun ls hl => ?_)
                  refine lv_iinc (pc := 48) (v := nI (e9 + 1)) (lv' := [(4, .int (nI (e9 + 1))), (3, .int (nI (aheadN r k e9 + 0))), (0, .ref o), (1, .int place), (2, .int (nI k))]) hx hb dX8_rankNow_48 hl (k := 4) rfl (nI_add (e9) 1) (by decide) rfl (fun ls hl => ?_)
                  refine lv_goto (pc := 51) (tgt := 15) hx hb dX8_rankNow_51 (by decide) ?_
                  exact ih_lp_3 (e9 + 1) (by omega) (by omega) ls (by rw [show (nI (aheadN r k (e9 + 1)) : Int32) = nI (aheadN r k e9 + 0) from (by simp [aheadN, cntP, c_2, c_6n, c_7])]; exact lv_sub hl [2, 3, 4, 1, 0] rfl)
                · skip
                  refine lv_iconst (pc := 41) (v := 1) hx hb dX8_rankNow_41 (by decide) ?_
                  refine lv_goto (pc := 42) (tgt := 46) hx hb dX8_rankNow_42 (by decide) ?_
                  refine iaddV (pc := 46) (v := nI (aheadN r k e9 + 1)) hx hb dX8_rankNow_46 (nI_add (aheadN r k e9) (1)) ?_
                  refine lv_istore_n (pc := 47) (lv' := [(3, .int (nI (aheadN r k e9 + 1))), (0, .ref o), (1, .int place), (2, .int (nI k)), (4, .int (nI e9))]) hx hb dX8_rankNow_47 rfl hl (by decide) rfl (fun ls hl => ?_)
                  refine lv_iinc (pc := 48) (v := nI (e9 + 1)) (lv' := [(4, .int (nI (e9 + 1))), (3, .int (nI (aheadN r k e9 + 1))), (0, .ref o), (1, .int place), (2, .int (nI k))]) hx hb dX8_rankNow_48 hl (k := 4) rfl (nI_add (e9) 1) (by decide) rfl (fun ls hl => ?_)
                  refine lv_goto (pc := 51) (tgt := 15) hx hb dX8_rankNow_51 (by decide) ?_
                  exact ih_lp_3 (e9 + 1) (by omega) (by omega) ls (by rw [show (nI (aheadN r k (e9 + 1)) : Int32) = nI (aheadN r k e9 + 1) from (by simp [aheadN, cntP, c_2, c_6n, c_7])]; exact lv_sub hl [2, 3, 4, 1, 0] rfl)
        exact lp_3 _ 0 (Nat.lt_succ_self _) (by omega) ls (lv_sub hl [2, 3, 4, 1, 0] rfl)
  exact lp_1 _ 0 (Nat.lt_succ_self _) (by omega) rfl ls (lv_sub hl [1, 2, 0] rfl)
set_option maxRecDepth 100000 in
set_option maxHeartbeats 4000000 in
theorem k_X8_rank {o : Nat} {a : Nat → Nat} {z : Nat → Int32} {g : Nat → Int64} {r : Nat → Nat → Int32} (place : Int32) {n : Nat} (hok : okP n (r 8)) (hn5 : n ≤ 5) (hz1 : z 1 = nI n) : MR l yX8_rank cX8_rank 2 (some .int) 9 202 D kB kI kT ks sk sv [.ref o, .int place] (wR kB kI o a z g r) (some (.int (rankS r n place))) := by
  refine MR.go (by decide +kernel) (Nat.le_of_ble_eq_true rfl) ?_
  intro p e s m below meth c0 args Q ls hQ hx hb hr hml hown hts hlocks hE hP hS hl
  have hl : lv_has ls 2 [(0, .ref o), (1, .int place)] := hl
  have hown : s.vm.findClass RX8 = some m.cls := hown
  refine lv_aload_n (pc := 0) hx hb dX8_rank_0 rfl (lv_at hl 0 rfl) ?_
  refine lv_iload_n (pc := 1) hx hb dX8_rank_1 rfl (lv_at hl 1 rfl) ?_
  refine rV (pc := 2) (rest := []) ⟨hx, hb, hml, hown, hts⟩ (k_X8_rankNow (place := place) (z := z) (g := g) (r := r) (hok := (by first | assumption | omega)) (hn5 := (by first | assumption | omega)) (hz1 := (by first | assumption | omega))) cw_X8_230 ⟨(Nat.le_of_ble_eq_true rfl), (Nat.le_of_ble_eq_true rfl)⟩ hE hS hP rfl rfl rfl rfl hl.1 rfl (Nat.le_of_ble_eq_true rfl) dX8_rank_2 ⟨Nat.le_refl _, Nat.le_refl _⟩ ?_
  refine W.eq (g2 := F0 m 5 ls [.int (rankS r n place)]) rfl ?_
  rw [hQ]; exact W.iret (pc := 5) hx hb hr (fun t9 ht _ => ⟨retI (rfl), ht⟩) (fun _ h => nomatch h) dX8_rank_5 hlocks
set_option maxRecDepth 100000 in
set_option maxHeartbeats 4000000 in
theorem k_X8_unlike {o : Nat} {a : Nat → Nat} {z : Nat → Int32} {g : Nat → Int64} {r : Nat → Nat → Int32} {n : Nat} (hz1 : z 1 = nI n) (hn5 : n ≤ 5) : MR l yX8_unlike cX8_unlike 3 (some .int) 1 24 D kB kI kT ks sk sv [.ref o] (wR kB kI o a z g r) (some (.int (nI (unlN (r 8) n)))) := by
  refine MR.go (by decide +kernel) (Nat.le_of_ble_eq_true rfl) ?_
  intro p e s m below meth c0 args Q ls hQ hx hb hr hml hown hts hlocks hE hP hS hl
  have hl : lv_has ls 3 [(0, .ref o)] := hl
  have hown : s.vm.findClass RX8 = some m.cls := hown
  refine lv_iconst (pc := 0) (v := 0) hx hb dX8_unlike_0 (by decide) ?_
  refine lv_istore_n (pc := 1) (lv' := [(1, .int 0), (0, .ref o)]) hx hb dX8_unlike_1 rfl hl (by decide) rfl (fun ls hl => ?_)
  refine lv_iconst (pc := 2) (v := 0) hx hb dX8_unlike_2 (by decide) ?_
  refine lv_istore_n (pc := 3) (lv' := [(2, .int 0), (1, .int 0), (0, .ref o)]) hx hb dX8_unlike_3 rfl hl (by decide) rfl (fun ls hl => ?_)
  have lp_1 : ∀ (fuel : Nat) (k : Nat), n - k < fuel → (k ≤ n) → ∀ (ls : Array Slot), lv_has ls 3 [(0, .ref o), (1, .int (nI (unlN (r 8) k))), (2, .int (nI k))] → W p l e (rmO 1 24) s m args below meth c0 s.heap [] 0 0 Q (F0 m 4 ls []) := by
    intro fuel
    induction fuel with
    | zero => intro k hfuel; exact absurd hfuel (Nat.not_lt_zero _)
    | succ fuel ih_lp_1 =>
      intro k hfuel hk ls hl
      refine lv_iload_n (pc := 4) hx hb dX8_unlike_4 rfl (lv_at hl 2 rfl) ?_
      refine lv_aload_n (pc := 5) hx hb dX8_unlike_5 rfl (lv_at hl 0 rfl) ?_
      refine fget (pc := 6) (v := .int (z 1)) hx hb hts hown hE hP fl_X8_124 0 rfl rfl dX8_unlike_6 ?_
      refine vEq (v := nI n) hz1 ?_
      refine lv_icmp_ge (pc := 9) (tgt := 36) hx hb dX8_unlike_9 (by decide) (fun c_2 => ?_) (fun c_2 => ?_)
      · skip
        have c_2n : n ≤ k := (nI_leI (a := n) (b := k) (by omega) (by omega)).mp c_2
        refine lv_iload_n (pc := 36) hx hb dX8_unlike_36 rfl (lv_at hl 1 rfl) ?_
        rw [hQ]; exact W.iret (pc := 37) hx hb hr (fun t9 ht _ => ⟨retI (by rw [show k = n by omega]), ht⟩) (fun _ h => nomatch h) dX8_unlike_37 hlocks
      · skip
        have c_2n : ¬ n ≤ k := fun hh => c_2 ((nI_leI (a := n) (b := k) (by omega) (by omega)).mpr hh)
        refine lv_iload_n (pc := 12) hx hb dX8_unlike_12 rfl (lv_at hl 1 rfl) ?_
        refine lv_aload_n (pc := 13) hx hb dX8_unlike_13 rfl (lv_at hl 0 rfl) ?_
        refine lv_iload_n (pc := 14) hx hb dX8_unlike_14 rfl (lv_at hl 2 rfl) ?_
        refine lv_bipush (pc := 15) (v := 12) hx hb dX8_unlike_15 (by decide) ?_
        refine rV (pc := 17) (rest := [.int (nI (unlN (r 8) k))]) ⟨hx, hb, hml, hown, hts⟩ (k_X8_nightsOf (t := nI k) (b := 12) (z := z) (g := g) (r := r) (hb12 := (by omega))) cw_X8_153 ⟨(Nat.le_of_ble_eq_true rfl), (Nat.le_of_ble_eq_true rfl)⟩ hE hS hP rfl rfl rfl rfl hl.1 rfl (Nat.le_of_ble_eq_true rfl) dX8_unlike_17 ⟨Nat.le_refl _, Nat.le_refl _⟩ ?_
        refine W.eq (g2 := F0 m 20 ls [.int (nI (nOf ((r 8)) (nI k) 12)), .int (nI (unlN (r 8) k))]) rfl ?_
        have hnb : nOf (r 8) (nI k) 12 ≤ 12 := cntP_le _ _
        refine lv_if_le (pc := 20) (tgt := 27) hx hb dX8_unlike_20 (by decide) (fun c_3 => ?_) (fun c_3 => ?_)
        · skip
          have c_3n : (nOf ((r 8)) (nI k) 12) ≤ 0 := (nI_leI (a := nOf ((r 8)) (nI k) 12) (b := 0) (by omega) (by omega)).mp c_3
          refine lv_iconst (pc := 27) (v := 0) hx hb dX8_unlike_27 (by decide) ?_
          refine iaddV (pc := 28) (v := nI (unlN (r 8) k + 0)) hx hb dX8_unlike_28 (nI_add (unlN (r 8) k) (0)) ?_
          refine lv_istore_n (pc := 29) (lv' := [(1, .int (nI (unlN (r 8) k + 0))), (0, .ref o), (2, .int (nI k))]) hx hb dX8_unlike_29 rfl hl (by decide) rfl (fun ls hl => ?_)
          refine lv_iinc (pc := 30) (v := nI (k + 1)) (lv' := [(2, .int (nI (k + 1))), (1, .int (nI (unlN (r 8) k + 0))), (0, .ref o)]) hx hb dX8_unlike_30 hl (k := 2) rfl (nI_add (k) 1) (by decide) rfl (fun ls hl => ?_)
          refine lv_goto (pc := 33) (tgt := 4) hx hb dX8_unlike_33 (by decide) ?_
          exact ih_lp_1 (k + 1) (by omega) (by omega) ls (by rw [show (nI (unlN (r 8) (k + 1)) : Int32) = nI (unlN (r 8) k + 0) from (by rw [unlN, cntP_f (by omega)]; rfl)]; exact lv_sub hl [2, 1, 0] rfl)
        · skip
          have c_3n : ¬ (nOf ((r 8)) (nI k) 12) ≤ 0 := fun hh => c_3 ((nI_leI (a := nOf ((r 8)) (nI k) 12) (b := 0) (by omega) (by omega)).mpr hh)
          refine lv_iconst (pc := 23) (v := 1) hx hb dX8_unlike_23 (by decide) ?_
          refine lv_goto (pc := 24) (tgt := 28) hx hb dX8_unlike_24 (by decide) ?_
          refine iaddV (pc := 28) (v := nI (unlN (r 8) k + 1)) hx hb dX8_unlike_28 (nI_add (unlN (r 8) k) (1)) ?_
          refine lv_istore_n (pc := 29) (lv' := [(1, .int (nI (unlN (r 8) k + 1))), (0, .ref o), (2, .int (nI k))]) hx hb dX8_unlike_29 rfl hl (by decide) rfl (fun ls hl => ?_)
          refine lv_iinc (pc := 30) (v := nI (k + 1)) (lv' := [(2, .int (nI (k + 1))), (1, .int (nI (unlN (r 8) k + 1))), (0, .ref o)]) hx hb dX8_unlike_30 hl (k := 2) rfl (nI_add (k) 1) (by decide) rfl (fun ls hl => ?_)
          refine lv_goto (pc := 33) (tgt := 4) hx hb dX8_unlike_33 (by decide) ?_
          exact ih_lp_1 (k + 1) (by omega) (by omega) ls (by rw [show (nI (unlN (r 8) (k + 1)) : Int32) = nI (unlN (r 8) k + 1) from (by rw [unlN, cntP_t (by omega)]; rfl)]; exact lv_sub hl [2, 1, 0] rfl)
  exact lp_1 _ 0 (Nat.lt_succ_self _) (by omega) ls (lv_sub hl [2, 1, 0] rfl)
set_option maxRecDepth 100000 in
set_option maxHeartbeats 4000000 in
theorem k_X8_howMany {o : Nat} {a : Nat → Nat} {z : Nat → Int32} {g : Nat → Int64} {r : Nat → Nat → Int32} (what : Int32) {n : Nat} (hok : okP n (r 8)) (hn5 : n ≤ 5) (hz1 : z 1 = nI n) : MR l yX8_howMany cX8_howMany 2 (some .int) 8 173 D kB kI kT ks sk sv [.ref o, .int what] (wR kB kI o a z g r) (some (.int (howS z r n what))) := by
  refine MR.go (by decide +kernel) (Nat.le_of_ble_eq_true rfl) ?_
  intro p e s m below meth c0 args Q ls hQ hx hb hr hml hown hts hlocks hE hP hS hl
  have hl : lv_has ls 2 [(0, .ref o), (1, .int what)] := hl
  have hown : s.vm.findClass RX8 = some m.cls := hown
  refine lv_iload_n (pc := 0) hx hb dX8_howMany_0 rfl (lv_at hl 1 rfl) ?_
  by_cases c_1 : what = 0
  · skip
    refine lv_tableIn (pc := 1) (off := 55) (tgt := 56) hx hb dX8_howMany_1 (by rw [c_1]; decide) (by rw [c_1]; decide) (by rw [c_1]; try rfl) (by decide) ?_
    refine lv_aload_n (pc := 56) hx hb dX8_howMany_56 rfl (lv_at hl 0 rfl) ?_
    refine fget (pc := 57) (v := .int (z 1)) hx hb hts hown hE hP fl_X8_124 0 rfl rfl dX8_howMany_57 ?_
    rw [hQ]; exact W.iret (pc := 60) hx hb hr (fun t9 ht _ => ⟨retI (by simp [howS, brkN, lostS, ernS, c_1]), ht⟩) (fun _ h => nomatch h) dX8_howMany_60 hlocks
  by_cases c_2 : what = 1
  · skip
    refine lv_tableIn (pc := 1) (off := 60) (tgt := 61) hx hb dX8_howMany_1 (by rw [c_2]; decide) (by rw [c_2]; decide) (by rw [c_2]; try rfl) (by decide) ?_
    refine lv_aload_n (pc := 61) hx hb dX8_howMany_61 rfl (lv_at hl 0 rfl) ?_
    refine rV (pc := 62) (rest := []) ⟨hx, hb, hml, hown, hts⟩ (k_X8_nightsOn (z := z) (g := g) (r := r)) cw_X8_137 ⟨(Nat.le_of_ble_eq_true rfl), (Nat.le_of_ble_eq_true rfl)⟩ hE hS hP rfl rfl rfl rfl hl.1 rfl (Nat.le_of_ble_eq_true rfl) dX8_howMany_62 ⟨Nat.le_refl _, Nat.le_refl _⟩ ?_
    refine W.eq (g2 := F0 m 65 ls [.int (nI (nOn ((r 8)) 12))]) rfl ?_
    rw [hQ]; exact W.iret (pc := 65) hx hb hr (fun t9 ht _ => ⟨retI (by simp [howS, brkN, lostS, ernS, c_1, c_2]), ht⟩) (fun _ h => nomatch h) dX8_howMany_65 hlocks
  by_cases c_3 : what = 2
  · skip
    refine lv_tableIn (pc := 1) (off := 65) (tgt := 66) hx hb dX8_howMany_1 (by rw [c_3]; decide) (by rw [c_3]; decide) (by rw [c_3]; try rfl) (by decide) ?_
    refine lv_aload_n (pc := 66) hx hb dX8_howMany_66 rfl (lv_at hl 0 rfl) ?_
    refine rV (pc := 67) (rest := []) ⟨hx, hb, hml, hown, hts⟩ (k_X8_breaks (z := z) (g := g) (r := r) (hok := (by first | assumption | omega)) (hn5 := (by first | assumption | omega))) cw_X8_166 ⟨(Nat.le_of_ble_eq_true rfl), (Nat.le_of_ble_eq_true rfl)⟩ hE hS hP rfl rfl rfl rfl hl.1 rfl (Nat.le_of_ble_eq_true rfl) dX8_howMany_67 ⟨Nat.le_refl _, Nat.le_refl _⟩ ?_
    refine W.eq (g2 := F0 m 70 ls [.int (nI (cntP (fun j => 0 < brk ((r 2)) ((r 3)) ((r 4)) ((r 5)) ((r 6)) ((r 8)) j) 12))]) rfl ?_
    rw [hQ]; exact W.iret (pc := 70) hx hb hr (fun t9 ht _ => ⟨retI (by simp [howS, brkN, lostS, ernS, c_1, c_2, c_3]), ht⟩) (fun _ h => nomatch h) dX8_howMany_70 hlocks
  by_cases c_4 : what = 3
  · skip
    refine lv_tableIn (pc := 1) (off := 70) (tgt := 71) hx hb dX8_howMany_1 (by rw [c_4]; decide) (by rw [c_4]; decide) (by rw [c_4]; try rfl) (by decide) ?_
    refine lv_aload_n (pc := 71) hx hb dX8_howMany_71 rfl (lv_at hl 0 rfl) ?_
    refine rV (pc := 72) (rest := []) ⟨hx, hb, hml, hown, hts⟩ (k_X8_lost (z := z) (g := g) (r := r) (hok := (by first | assumption | omega)) (hn5 := (by first | assumption | omega))) cw_X8_195 ⟨(Nat.le_of_ble_eq_true rfl), (Nat.le_of_ble_eq_true rfl)⟩ hE hS hP rfl rfl rfl rfl hl.1 rfl (Nat.le_of_ble_eq_true rfl) dX8_howMany_72 ⟨Nat.le_refl _, Nat.le_refl _⟩ ?_
    refine W.eq (g2 := F0 m 75 ls [.int (12 - nI (nOn ((r 8)) 12) + nI (cntP (fun j => 0 < brk ((r 2)) ((r 3)) ((r 4)) ((r 5)) ((r 6)) ((r 8)) j) 12))]) rfl ?_
    rw [hQ]; exact W.iret (pc := 75) hx hb hr (fun t9 ht _ => ⟨retI (by simp [howS, brkN, lostS, ernS, c_1, c_2, c_3, c_4]), ht⟩) (fun _ h => nomatch h) dX8_howMany_75 hlocks
  by_cases c_5 : what = 4
  · skip
    refine lv_tableIn (pc := 1) (off := 75) (tgt := 76) hx hb dX8_howMany_1 (by rw [c_5]; decide) (by rw [c_5]; decide) (by rw [c_5]; try rfl) (by decide) ?_
    refine lv_aload_n (pc := 76) hx hb dX8_howMany_76 rfl (lv_at hl 0 rfl) ?_
    refine rV (pc := 77) (rest := []) ⟨hx, hb, hml, hown, hts⟩ (k_X8_earned (z := z) (g := g) (r := r) (hok := (by first | assumption | omega)) (hn5 := (by first | assumption | omega))) cw_X8_198 ⟨(Nat.le_of_ble_eq_true rfl), (Nat.le_of_ble_eq_true rfl)⟩ hE hS hP rfl rfl rfl rfl hl.1 rfl (Nat.le_of_ble_eq_true rfl) dX8_howMany_77 ⟨Nat.le_refl _, Nat.le_refl _⟩ ?_
    refine W.eq (g2 := F0 m 80 ls [.int (sumI (fun j => if brk ((r 2)) ((r 3)) ((r 4)) ((r 5)) ((r 6)) ((r 8)) j = 0 then sts ((r 2)) ((r 7)) ((r 8)) j else 0) 12)]) rfl ?_
    rw [hQ]; exact W.iret (pc := 80) hx hb hr (fun t9 ht _ => ⟨retI (by simp [howS, brkN, lostS, ernS, c_1, c_2, c_3, c_4, c_5]), ht⟩) (fun _ h => nomatch h) dX8_howMany_80 hlocks
  by_cases c_6 : what = 5
  · skip
    refine lv_tableIn (pc := 1) (off := 80) (tgt := 81) hx hb dX8_howMany_1 (by rw [c_6]; decide) (by rw [c_6]; decide) (by rw [c_6]; try rfl) (by decide) ?_
    refine lv_aload_n (pc := 81) hx hb dX8_howMany_81 rfl (lv_at hl 0 rfl) ?_
    refine rV (pc := 82) (rest := []) ⟨hx, hb, hml, hown, hts⟩ (k_X8_unlike (z := z) (g := g) (r := r) (hz1 := (by first | assumption | omega)) (hn5 := (by first | assumption | omega))) cw_X8_272 ⟨(Nat.le_of_ble_eq_true rfl), (Nat.le_of_ble_eq_true rfl)⟩ hE hS hP rfl rfl rfl rfl hl.1 rfl (Nat.le_of_ble_eq_true rfl) dX8_howMany_82 ⟨Nat.le_refl _, Nat.le_refl _⟩ ?_
    refine W.eq (g2 := F0 m 85 ls [.int (nI (unlN ((r 8)) n))]) rfl ?_
    rw [hQ]; exact W.iret (pc := 85) hx hb hr (fun t9 ht _ => ⟨retI (by simp [howS, brkN, lostS, ernS, c_1, c_2, c_3, c_4, c_5, c_6]), ht⟩) (fun _ h => nomatch h) dX8_howMany_85 hlocks
  by_cases c_7 : what = 6
  · skip
    refine lv_tableIn (pc := 1) (off := 85) (tgt := 86) hx hb dX8_howMany_1 (by rw [c_7]; decide) (by rw [c_7]; decide) (by rw [c_7]; try rfl) (by decide) ?_
    refine lv_aload_n (pc := 86) hx hb dX8_howMany_86 rfl (lv_at hl 0 rfl) ?_
    refine fget (pc := 87) (v := .int (z 10)) hx hb hts hown hE hP fl_X8_130 0 rfl rfl dX8_howMany_87 ?_
    rw [hQ]; exact W.iret (pc := 90) hx hb hr (fun t9 ht _ => ⟨retI (by simp [howS, brkN, lostS, ernS, c_1, c_2, c_3, c_4, c_5, c_6, c_7]), ht⟩) (fun _ h => nomatch h) dX8_howMany_90 hlocks
  by_cases c_8 : what = 7
  · skip
    refine lv_tableIn (pc := 1) (off := 90) (tgt := 91) hx hb dX8_howMany_1 (by rw [c_8]; decide) (by rw [c_8]; decide) (by rw [c_8]; try rfl) (by decide) ?_
    refine lv_aload_n (pc := 91) hx hb dX8_howMany_91 rfl (lv_at hl 0 rfl) ?_
    refine fget (pc := 92) (v := .int (z 14)) hx hb hts hown hE hP fl_X8_90 0 rfl rfl dX8_howMany_92 ?_
    rw [hQ]; exact W.iret (pc := 95) hx hb hr (fun t9 ht _ => ⟨retI (by simp [howS, brkN, lostS, ernS, c_1, c_2, c_3, c_4, c_5, c_6, c_7, c_8]), ht⟩) (fun _ h => nomatch h) dX8_howMany_95 hlocks
  by_cases c_9 : what = 8
  · skip
    refine lv_tableIn (pc := 1) (off := 95) (tgt := 96) hx hb dX8_howMany_1 (by rw [c_9]; decide) (by rw [c_9]; decide) (by rw [c_9]; try rfl) (by decide) ?_
    refine lv_aload_n (pc := 96) hx hb dX8_howMany_96 rfl (lv_at hl 0 rfl) ?_
    refine fget (pc := 97) (v := .int (z 0)) hx hb hts hown hE hP fl_X8_127 0 rfl rfl dX8_howMany_97 ?_
    rw [hQ]; exact W.iret (pc := 100) hx hb hr (fun t9 ht _ => ⟨retI (by simp [howS, brkN, lostS, ernS, c_1, c_2, c_3, c_4, c_5, c_6, c_7, c_8, c_9]), ht⟩) (fun _ h => nomatch h) dX8_howMany_100 hlocks
  by_cases c_10 : what = 9
  · skip
    refine lv_tableIn (pc := 1) (off := 100) (tgt := 101) hx hb dX8_howMany_1 (by rw [c_10]; decide) (by rw [c_10]; decide) (by rw [c_10]; try rfl) (by decide) ?_
    refine lv_aload_n (pc := 101) hx hb dX8_howMany_101 rfl (lv_at hl 0 rfl) ?_
    refine fget (pc := 102) (v := .int (z 9)) hx hb hts hown hE hP fl_X8_207 0 rfl rfl dX8_howMany_102 ?_
    rw [hQ]; exact W.iret (pc := 105) hx hb hr (fun t9 ht _ => ⟨retI (by simp [howS, brkN, lostS, ernS, c_1, c_2, c_3, c_4, c_5, c_6, c_7, c_8, c_9, c_10]), ht⟩) (fun _ h => nomatch h) dX8_howMany_105 hlocks
  refine lv_tableOut (pc := 1) (tgt := 106) hx hb dX8_howMany_1 (by (have q0 : ¬ what.toInt = 0 := fun q => c_1 (Int32.toInt_inj.mp (q.trans rfl)); have q1 : ¬ what.toInt = 1 := fun q => c_2 (Int32.toInt_inj.mp (q.trans rfl)); have q2 : ¬ what.toInt = 2 := fun q => c_3 (Int32.toInt_inj.mp (q.trans rfl)); have q3 : ¬ what.toInt = 3 := fun q => c_4 (Int32.toInt_inj.mp (q.trans rfl)); have q4 : ¬ what.toInt = 4 := fun q => c_5 (Int32.toInt_inj.mp (q.trans rfl)); have q5 : ¬ what.toInt = 5 := fun q => c_6 (Int32.toInt_inj.mp (q.trans rfl)); have q6 : ¬ what.toInt = 6 := fun q => c_7 (Int32.toInt_inj.mp (q.trans rfl)); have q7 : ¬ what.toInt = 7 := fun q => c_8 (Int32.toInt_inj.mp (q.trans rfl)); have q8 : ¬ what.toInt = 8 := fun q => c_9 (Int32.toInt_inj.mp (q.trans rfl)); have q9 : ¬ what.toInt = 9 := fun q => c_10 (Int32.toInt_inj.mp (q.trans rfl)); omega)) (by decide) ?_
  refine lv_bipush (pc := 106) (v := (-102)) hx hb dX8_howMany_106 (by decide) ?_
  rw [hQ]; exact W.iret (pc := 108) hx hb hr (fun t9 ht _ => ⟨retI (by simp [howS, brkN, lostS, ernS, c_1, c_2, c_3, c_4, c_5, c_6, c_7, c_8, c_9, c_10]), ht⟩) (fun _ h => nomatch h) dX8_howMany_108 hlocks
set_option maxRecDepth 100000 in
set_option maxHeartbeats 4000000 in
theorem k_X8_count {o : Nat} {a : Nat → Nat} {z : Nat → Int32} {g : Nat → Int64} {r : Nat → Nat → Int32} (what : Int32) {n : Nat} (hok : okP n (r 8)) (hn5 : n ≤ 5) (hz1 : z 1 = nI n) : MR l yX8_count cX8_count 2 (some .int) 9 194 D kB kI kT ks sk sv [.ref o, .int what] (wR kB kI o a z g r) (some (.int (howS z r n what))) := by
  refine MR.go (by decide +kernel) (Nat.le_of_ble_eq_true rfl) ?_
  intro p e s m below meth c0 args Q ls hQ hx hb hr hml hown hts hlocks hE hP hS hl
  have hl : lv_has ls 2 [(0, .ref o), (1, .int what)] := hl
  have hown : s.vm.findClass RX8 = some m.cls := hown
  refine lv_aload_n (pc := 0) hx hb dX8_count_0 rfl (lv_at hl 0 rfl) ?_
  refine lv_iload_n (pc := 1) hx hb dX8_count_1 rfl (lv_at hl 1 rfl) ?_
  refine rV (pc := 2) (rest := []) ⟨hx, hb, hml, hown, hts⟩ (k_X8_howMany (what := what) (z := z) (g := g) (r := r) (hok := (by first | assumption | omega)) (hn5 := (by first | assumption | omega)) (hz1 := (by first | assumption | omega))) cw_X8_275 ⟨(Nat.le_of_ble_eq_true rfl), (Nat.le_of_ble_eq_true rfl)⟩ hE hS hP rfl rfl rfl rfl hl.1 rfl (Nat.le_of_ble_eq_true rfl) dX8_count_2 ⟨Nat.le_refl _, Nat.le_refl _⟩ ?_
  refine W.eq (g2 := F0 m 5 ls [.int (howS z r n what)]) rfl ?_
  rw [hQ]; exact W.iret (pc := 5) hx hb hr (fun t9 ht _ => ⟨retI (rfl), ht⟩) (fun _ h => nomatch h) dX8_count_5 hlocks
end
end
section
abbrev RS : Type := (Nat → Int32) × (Nat → Int64) × (Nat → Nat → Int32)
def ovN (f h : Nat → Int32) (n : Nat) : Nat → Int32 := fun j => if j < n then h j else f j
theorem ovN_0 (f h : Nat → Int32) : ovN f h 0 = f := by funext j; simp [ovN]
theorem ovN_s (f h : Nat → Int32) (n : Nat) : upd (ovN f h n) n (h n) = ovN f h (n + 1) := by
  funext j
  by_cases hj : j = n
  · subst hj; simp [upd, ovN]
  · have : (j < n + 1) = (j < n) := by apply propext; omega
    simp [upd, ovN, hj, this]
theorem ovN_sv (f h : Nat → Int32) (n : Nat) {v : Int32} (hv : v = h n) : upd (ovN f h n) n v = ovN f h (n + 1) := by rw [hv, ovN_s]
theorem ovN_in {f h : Nat → Int32} {n j : Nat} (hj : j < n) : ovN f h n j = h j := by simp [ovN, hj]
theorem ovN_out {f h : Nat → Int32} {n j : Nat} (hj : ¬ j < n) : ovN f h n j = f j := by simp [ovN, hj]
theorem va_up_same {α : Type} (f : Nat → α) (k : Nat) : va_up f k (f k) = f := by
  funext j; by_cases h : j = k <;> simp [va_up, h]
def darkF (pl : Nat → Int32) (n : Nat) : Nat → Int32 := ovN pl (fun _ => -1) n
def R_letter (z : Nat → Int32) (g : Nat → Int64) (r : Nat → Nat → Int32) (pn : Nat) (code : Int32) : Int32 × RS :=
  if inR code 32 126 then (if pn = 40 then (-104, z, g, r) else (nI (pn + 1), va_up z 14 (nI (pn + 1)), g, va_up r 15 (upd (r 15) pn code.toInt8.toInt32))) else (-102, z, g, r)
def R_play (z : Nat → Int32) (g : Nat → Int64) (r : Nat → Nat → Int32) (n : Nat) (x t : Int32) : Int32 × RS :=
  if inR x 0 11 ∧ ¬ n = 0 ∧ (t = -1 ∨ inR t 0 (z 1 - 1)) then (nI (brkN (va_up r 8 (upd (r 8) (ix x) t))), z, g, va_up r 8 (upd (r 8) (ix x) t)) else (-101, z, g, r)
def R_add (z : Nat → Int32) (g : Nat → Int64) (r : Nat → Nat → Int32) (n : Nat) (kind set cast : Int32) : Int32 × RS :=
  if inR kind 0 4 ∧ inR set 0 4 ∧ inR cast 0 4 then (if n = 0 then (-103, z, g, r) else if n = 5 then (-104, z, g, r) else
    (nI n, va_up z 1 (nI (n + 1)), g, va_up (va_up (va_up (va_up (va_up (va_up r 2 (upd (r 2) n kind)) 3 (upd (r 3) n set)) 4 (upd (r 4) n cast)) 5 (upd (r 5) n 0)) 6 (upd (r 6) n 11)) 7 (upd (r 7) n 5)))
  else (-102, z, g, r)
def R_rights (z : Nat → Int32) (g : Nat → Int64) (r : Nat → Nat → Int32) (t first last : Int32) : Int32 × RS :=
  if inR t 0 (z 1 - 1) then (if inR first 0 11 ∧ inR last first 11 then (nI (brkN (va_up (va_up r 5 (upd (r 5) (ix t) first)) 6 (upd (r 6) (ix t) last))), z, g, va_up (va_up r 5 (upd (r 5) (ix t) first)) 6 (upd (r 6) (ix t) last)) else (-102, z, g, r)) else (-101, z, g, r)
def R_be (z : Nat → Int32) (g : Nat → Int64) (r : Nat → Nat → Int32) (t kind : Int32) : Int32 × RS :=
  if inR t 0 (z 1 - 1) then (if inR kind 0 4 then (r 2 (ix t), z, g, va_up r 2 (upd (r 2) (ix t) kind)) else (-102, z, g, r)) else (-101, z, g, r)
def R_see (z : Nat → Int32) (g : Nat → Int64) (r : Nat → Nat → Int32) (sn : Nat) (t what could : Int32) : Int32 × RS :=
  if inR t 0 (z 1 - 1) then (if inR what 0 3 then (if sn = 6 then (-104, z, g, r) else (nI (sn + 1), va_up z 10 (nI (sn + 1)), g, va_up (va_up (va_up r 11 (upd (r 11) sn t)) 12 (upd (r 12) sn what)) 13 (upd (r 13) sn (if could = 0 then 0 else 1)))) else (-102, z, g, r)) else (-101, z, g, r)
def planOk (pg : Nat → Int32) (v : Int32) (i : Nat) : Bool := decide (pg i = 46 ∨ inR (pg i - 48) 0 (v - 1))
def planF (pg : Nat → Int32) (i : Nat) : Int32 := if pg i = 46 then -1 else pg i - 48
def R_plan (z : Nat → Int32) (g : Nat → Int64) (r : Nat → Nat → Int32) (n pn : Nat) : Int32 × RS :=
  if 0 < n ∧ pn = 12 ∧ allB (planOk (r 15) (z 1)) 12 = true then (nI (nOn (ovN (r 8) (planF (r 15)) 12) 12), va_up z 14 0, g, va_up r 8 (ovN (r 8) (planF (r 15)) 12)) else (-103, z, g, r)
def shN (pl : Nat → Int32) (by' : Int32) (m : Nat) : Nat → Int32 := fun j => if m ≤ j ∧ j < 12 then rOn pl (nI j - by') else pl j
def R_delay (z : Nat → Int32) (g : Nat → Int64) (r : Nat → Nat → Int32) (n : Nat) (by' : Int32) : Int32 × RS :=
  if inR by' 1 11 then (if n = 0 then (-103, z, g, r) else (nI (nOn (shN (r 8) by' 0) 12), z, g, va_up r 8 (shN (r 8) by' 0))) else (-102, z, g, r)
def R_image (z : Nat → Int32) (g : Nat → Int64) (r : Nat → Nat → Int32) (n : Nat) : Int32 × RS :=
  if n = 0 then (-103, z, g, r) else (z 1, va_up (va_up (va_up (va_up z 27 1) 28 (z 0)) 29 (z 1)) 30 (z 10), g,
    va_up (va_up (va_up (va_up (va_up (va_up (va_up (va_up (va_up (va_up r 31 (ovN (r 31) (r 2) 5)) 32 (ovN (r 32) (r 3) 5)) 33 (ovN (r 33) (r 4) 5)) 34 (ovN (r 34) (r 5) 5)) 35 (ovN (r 35) (r 6) 5)) 36 (ovN (r 36) (r 7) 5)) 37 (ovN (r 37) (r 8) 12)) 38 (ovN (r 38) (r 11) 6)) 39 (ovN (r 39) (r 12) 6)) 40 (ovN (r 40) (r 13) 6))
def R_restore (z : Nat → Int32) (g : Nat → Int64) (r : Nat → Nat → Int32) : Int32 × RS :=
  if ¬ z 27 = 0 ∧ z 28 = z 0 then (z 29, va_up (va_up z 1 (z 29)) 10 (z 30), g,
    va_up (va_up (va_up (va_up (va_up (va_up (va_up (va_up (va_up (va_up r 2 (ovN (r 2) (r 31) 5)) 3 (ovN (r 3) (r 32) 5)) 4 (ovN (r 4) (r 33) 5)) 5 (ovN (r 5) (r 34) 5)) 6 (ovN (r 6) (r 35) 5)) 7 (ovN (r 7) (r 36) 5)) 8 (ovN (r 8) (r 37) 12)) 11 (ovN (r 11) (r 38) 6)) 12 (ovN (r 12) (r 39) 6)) 13 (ovN (r 13) (r 40) 6))
  else (-103, z, g, r)
theorem inR_nat1 {x : Int32} (h : inR x 1 11) : ∃ i, 1 ≤ i ∧ i < 12 ∧ x = nI i := by
  obtain ⟨j, hj, h2⟩ := nI_of2 (M := 11) (n := 11) rfl (Int32.not_lt.mpr (Int32.le_trans (by decide) h.1)) h.2
  refine ⟨j, ?_, by omega, h2⟩
  have h3 := h.1
  rw [h2] at h3
  exact (nI_leI (a := 1) (b := j) (by omega) (by omega)).mp h3
theorem dec1 (x : Int32) : x + Int32.ofInt (-1) = x - 1 := by
  rw [Int32.sub_eq_add_neg]
  rfl
theorem pm_lt {m : Nat} (h : m < 1000) : nI m - 1 < 0 ↔ m = 0 := by
  constructor
  · intro q
    apply Decidable.byContradiction
    intro h0
    have e : (nI m - 1 : Int32) = nI (m - 1) := pk_sub (a := m) (b := 1) (by omega)
    rw [e] at q
    exact nI_pos (n := m - 1) (by omega) q
  · rintro rfl; decide
theorem pm_eq {m : Nat} (h : 0 < m) : nI m - 1 = nI (m - 1) := pk_sub (a := m) (b := 1) (by omega)
theorem okP_upd {n i : Nat} {pl : Nat → Int32} {v : Int32} (h : okP n pl) (hv : v = -1 ∨ ∃ k, k < n ∧ v = nI k) : okP n (upd pl i v) := by
  intro j hj
  by_cases hji : j = i
  · subst hji; simpa [upd] using hv
  · simpa [upd, hji] using h j hj
theorem allB_mono {p : Nat → Bool} : ∀ {i k : Nat}, i ≤ k → allB p k = true → allB p i = true
  | i, 0, h, h2 => by rw [show i = 0 by omega]; rfl
  | i, k + 1, h, h2 => by
    rcases Nat.eq_or_lt_of_le h with q | q
    · rw [q]; exact h2
    · have h3 : (allB p k && p k) = true := h2
      simp only [Bool.and_eq_true] at h3
      exact allB_mono (by omega) h3.1
theorem allB_at {p : Nat → Bool} : ∀ {k : Nat}, allB p k = true → ∀ j, j < k → p j = true
  | 0, _, j, hj => absurd hj (Nat.not_lt_zero j)
  | k + 1, h, j, hj => by
    have h3 : (allB p k && p k) = true := h
    simp only [Bool.and_eq_true] at h3
    rcases Nat.eq_or_lt_of_le (Nat.lt_succ_iff.mp hj) with q | q
    · rw [q]; exact h3.2
    · exact allB_at h3.1 j q
theorem okP_plan {n : Nat} {v : Int32} (hv : v = nI n) (hn : n ≤ 5) {pg pl : Nat → Int32} (h : allB (planOk pg v) 12 = true) : okP n (ovN pl (planF pg) 12) := by
  intro j hj
  have h1 := allB_at h j hj
  rw [ovN_in hj]
  unfold planF
  by_cases q : pg j = 46
  · exact Or.inl (by simp [q])
  · rw [if_neg q]
    have h2 : pg j = 46 ∨ inR (pg j - 48) 0 (v - 1) := by simpa [planOk] using h1
    obtain ⟨k, hk, e⟩ := isT_nat hv hn (h2.resolve_left q)
    exact Or.inr ⟨k, hk, e⟩
theorem rOn_congr {f g : Nat → Int32} {x : Int32} (h : inR x 0 11 → f (ix x) = g (ix x)) : rOn f x = rOn g x := by
  unfold rOn
  by_cases q : inR x 0 11
  · rw [if_pos q, if_pos q, h q]
  · rw [if_neg q, if_neg q]
theorem sh_idx {m : Nat} {b : Int32} (hb : inR b 1 11) (hm : 0 < m) (hm2 : m ≤ 12) (q : inR (nI (m - 1) - b) 0 11) : ix (nI (m - 1) - b) < m - 1 := by
  obtain ⟨i, h1, h2, rfl⟩ := inR_nat1 hb
  by_cases hle : i ≤ m - 1
  · rw [pk_sub hle, ix_nI (by omega)]; omega
  · exfalso
    have h3 := pk_sneg (a := m - 1) (b := i) (by omega) (by omega)
    exact Int32.not_le.mpr h3 q.1
theorem sh_step {pl : Nat → Int32} {b : Int32} {m : Nat} (hb : inR b 1 11) (hm : 0 < m) (hm2 : m ≤ 12) : upd (shN pl b m) (m - 1) (rOn (shN pl b m) (nI (m - 1) - b)) = shN pl b (m - 1) := by
  have e : rOn (shN pl b m) (nI (m - 1) - b) = rOn pl (nI (m - 1) - b) := rOn_congr (fun q => by
    have := sh_idx hb hm hm2 q
    unfold shN
    rw [if_neg (by omega)])
  rw [e]
  funext j
  unfold upd shN
  by_cases hj : j = m - 1
  · rw [if_pos hj, hj, if_pos (by omega)]
  · rw [if_neg hj]
    by_cases h2 : m ≤ j ∧ j < 12
    · rw [if_pos h2, if_pos (by omega)]
    · rw [if_neg h2, if_neg (by omega)]
theorem sh_0 (pl : Nat → Int32) (b : Int32) : shN pl b 12 = pl := by
  funext j; unfold shN; rw [if_neg (by omega)]
end
section
section
variable {l : Launch} {D : va_G} {kB kI kT : ClassId} {ks sk sv : Nat}
set_option maxRecDepth 100000 in
set_option maxHeartbeats 4000000 in
theorem k_X8_darken {o : Nat} {a : Nat → Nat} {z : Nat → Int32} {g : Nat → Int64} {r : Nat → Nat → Int32} : MW l yX8_darken cX8_darken 2 none 0 0 D kB kI kT ks sk sv [.ref o] (wR kB kI o a z g r) none (wR kB kI o a z g (va_up r 8 (darkF (r 8) 12))) := by
  refine MW.go (by decide +kernel) (Nat.le_of_ble_eq_true rfl) ?_
  intro p e s m below meth c0 args Q ls A hQ hx hb hr hml hown hts hlocks hE hP hD hS hl
  have hl : lv_has ls 2 [(0, .ref o)] := hl
  have hown : s.vm.findClass RX8 = some m.cls := hown
  refine lv_iconst (pc := 0) (v := 0) hx hb dX8_darken_0 (by decide) ?_
  refine lv_istore_n (pc := 1) (lv' := [(1, .int 0), (0, .ref o)]) hx hb dX8_darken_1 rfl hl (by decide) rfl (fun ls hl => ?_)
  have lp_1 : ∀ (fuel : Nat) (i : Nat), 12 - i < fuel → (i ≤ 12) → ∀ (H : Heap) (locs : List Loc), va_P D vwCl (wR kB kI o a z g (va_up r 8 (darkF (r 8) i))) H → va_D A (wR kB kI o a z g (va_up r 8 (darkF (r 8) i))) → va_S A s.heap H locs → ∀ (ls : Array Slot), lv_has ls 2 [(0, .ref o), (1, .int (nI i))] → W p l e (rmO 0 0) s m args below meth c0 H locs 0 0 Q (F0 m 2 ls []) := by
    intro fuel
    induction fuel with
    | zero => intro i hfuel; exact absurd hfuel (Nat.not_lt_zero _)
    | succ fuel ih_lp_1 =>
      intro i hfuel hi H locs hP hD hS ls hl
      refine lv_iload_n (pc := 2) hx hb dX8_darken_2 rfl (lv_at hl 1 rfl) ?_
      refine lv_bipush (pc := 3) (v := 12) hx hb dX8_darken_3 (by decide) ?_
      refine lv_icmp_ge (pc := 5) (tgt := 21) hx hb dX8_darken_5 (by decide) (fun c_2 => ?_) (fun c_2 => ?_)
      · skip
        have c_2n : 12 ≤ i := (nI_leI (a := 12) (b := i) (by omega) (by omega)).mp c_2
        rw [hQ]; exact W.vret (pc := 21) hx hb hr (fun t9 ht _ => ⟨⟨rfl, by rw [ht]; exact by rw [show (12 : Nat) = i by omega]; exact hP⟩, hS.F ht⟩) hS.2.2 dX8_darken_21 hlocks
      · skip
        have c_2n : ¬ 12 ≤ i := fun hh => c_2 ((nI_leI (a := 12) (b := i) (by omega) (by omega)).mpr hh)
        refine lv_aload_n (pc := 8) hx hb dX8_darken_8 rfl (lv_at hl 0 rfl) ?_
        refine fget (pc := 9) (v := .ref (a 8)) hx hb hts hown hE hP fl_X8_28 0 rfl rfl dX8_darken_9 ?_
        refine lv_iload_n (pc := 12) hx hb dX8_darken_12 rfl (lv_at hl 1 rfl) ?_
        refine lv_iconst (pc := 13) (v := (-1)) hx hb dX8_darken_13 (by decide) ?_
        refine astN (pc := 14) hx hb hE hP hD hS 7 rfl (i) (by omega) (by omega) dX8_darken_14 (fun H locs hP hD hS => ?_)
        have hP : va_P D vwCl (wR kB kI o a z g (va_up r 8 (upd (darkF (r 8) i) i (-1)))) H := hP
        have hD : va_D A (wR kB kI o a z g (va_up r 8 (upd (darkF (r 8) i) i (-1)))) := hD
        refine lv_iinc (pc := 15) (v := nI (i + 1)) (lv' := [(1, .int (nI (i + 1))), (0, .ref o)]) hx hb dX8_darken_15 hl (k := 1) rfl (nI_add (i) 1) (by decide) rfl (fun ls hl => ?_)
        refine lv_goto (pc := 18) (tgt := 2) hx hb dX8_darken_18 (by decide) ?_
        exact ih_lp_1 (i + 1) (by omega) (by omega) _ _ (by rw [darkF, ← ovN_s]; exact hP) (by rw [darkF, ← ovN_s]; exact hD) hS ls (lv_sub hl [1, 0] rfl)
  exact lp_1 _ 0 (Nat.lt_succ_self _) (by omega) _ _ (by rw [darkF, ovN_0, va_up_same]; exact hP) (by rw [darkF, ovN_0, va_up_same]; exact hD) hS ls (lv_sub hl [1, 0] rfl)
set_option maxRecDepth 100000 in
set_option maxHeartbeats 4000000 in
theorem k_X8_letter {o : Nat} {a : Nat → Nat} {z : Nat → Int32} {g : Nat → Int64} {r : Nat → Nat → Int32} (code : Int32) {pn : Nat} (hz14 : z 14 = nI pn) (hpn : pn ≤ 40) : MW l yX8_letter cX8_letter 2 (some .int) 1 22 D kB kI kT ks sk sv [.ref o, .int code] (wR kB kI o a z g r) (some (.int ((R_letter z g r pn code).1))) (wR kB kI o a (R_letter z g r pn code).2.1 (R_letter z g r pn code).2.2.1 (R_letter z g r pn code).2.2.2) := by
  refine MW.go (by decide +kernel) (Nat.le_of_ble_eq_true rfl) ?_
  intro p e s m below meth c0 args Q ls A hQ hx hb hr hml hown hts hlocks hE hP hD hS hl
  have hl : lv_has ls 2 [(0, .ref o), (1, .int code)] := hl
  have hown : s.vm.findClass RX8 = some m.cls := hown
  refine lv_iload_n (pc := 0) hx hb dX8_letter_0 rfl (lv_at hl 1 rfl) ?_
  refine lv_bipush (pc := 1) (v := 32) hx hb dX8_letter_1 (by decide) ?_
  refine lv_bipush (pc := 3) (v := 126) hx hb dX8_letter_3 (by decide) ?_
  refine rS (pc := 5) (rest := []) ⟨hx, hb, hml, hown, hts⟩ (k_X8_within (v := code) (lo := 32) (hi := 126)) cw_X8_86 ⟨(Nat.le_of_ble_eq_true rfl), (Nat.le_of_ble_eq_true rfl)⟩ hE hS wc0 rfl hl.1 rfl (Nat.le_of_ble_eq_true rfl) dX8_letter_5 ⟨Nat.le_refl _, Nat.le_refl _⟩ ?_
  refine W.eq (g2 := F0 m 8 ls [.int (bi (inR code 32 126))]) rfl ?_
  refine bif_ne (pc := 8) (tgt := 14) hx hb dX8_letter_8 (by decide) (fun c_1 => ?_) (fun c_1 => ?_)
  · skip
    refine lv_aload_n (pc := 14) hx hb dX8_letter_14 rfl (lv_at hl 0 rfl) ?_
    refine fget (pc := 15) (v := .int (z 14)) hx hb hts hown hE hP fl_X8_90 0 rfl rfl dX8_letter_15 ?_
    refine vEq (v := nI pn) hz14 ?_
    refine lv_bipush (pc := 18) (v := 40) hx hb dX8_letter_18 (by decide) ?_
    refine lv_icmp_ne (pc := 20) (tgt := 26) hx hb dX8_letter_20 (by decide) (fun c_2 => ?_) (fun c_2 => ?_)
    · skip
      have c_2n : ¬ pn = 40 := fun hh => c_2 ((nI_eq (a := pn) (b := 40) (by omega) (by omega)).mpr hh)
      refine lv_aload_n (pc := 26) hx hb dX8_letter_26 rfl (lv_at hl 0 rfl) ?_
      refine fget (pc := 27) (v := .ref (a 15)) hx hb hts hown hE hP fl_X8_40 0 rfl rfl dX8_letter_27 ?_
      refine lv_aload_n (pc := 30) hx hb dX8_letter_30 rfl (lv_at hl 0 rfl) ?_
      refine fget (pc := 31) (v := .int (z 14)) hx hb hts hown hE hP fl_X8_90 0 rfl rfl dX8_letter_31 ?_
      refine vEq (v := nI pn) hz14 ?_
      refine lv_iload_n (pc := 34) hx hb dX8_letter_34 rfl (lv_at hl 1 rfl) ?_
      refine lv_i2b (pc := 35) (v := code.toInt8.toInt32) hx hb dX8_letter_35 rfl ?_
      refine astB (pc := 36) hx hb hE hP hD hS 11 rfl (pn) (by omega) (by omega) (pk_vb _) dX8_letter_36 (fun H locs hP hD hS => ?_)
      have hP : va_P D vwCl (wR kB kI o a z g (va_up r 15 (upd (r 15) pn code.toInt8.toInt32))) H := hP
      have hD : va_D A (wR kB kI o a z g (va_up r 15 (upd (r 15) pn code.toInt8.toInt32))) := hD
      refine lv_aload_n (pc := 37) hx hb dX8_letter_37 rfl (lv_at hl 0 rfl) ?_
      refine lv_dup (pc := 38) hx hb dX8_letter_38 rfl ?_
      refine fget (pc := 39) (v := .int (z 14)) hx hb hts hown hE hP fl_X8_90 0 rfl rfl dX8_letter_39 ?_
      refine vEq (v := nI pn) hz14 ?_
      refine lv_iconst (pc := 42) (v := 1) hx hb dX8_letter_42 (by decide) ?_
      refine iaddV (pc := 43) (v := nI (pn + 1)) hx hb dX8_letter_43 (nI_add (pn) (1)) ?_
      refine fput (pc := 44) (v := .int (nI (pn + 1))) hx hb hts hown hE hP hD hS fp_X8_90 0 rfl rfl rfl (Nat.le_of_ble_eq_true rfl) dX8_letter_44 (fun H locs hP hD hS => ?_)
      have hP : va_P D vwCl (wR kB kI o a (va_up z 14 (nI (pn + 1))) g (va_up r 15 (upd (r 15) pn code.toInt8.toInt32))) H := hP
      have hD : va_D A (wR kB kI o a (va_up z 14 (nI (pn + 1))) g (va_up r 15 (upd (r 15) pn code.toInt8.toInt32))) := hD
      refine lv_aload_n (pc := 47) hx hb dX8_letter_47 rfl (lv_at hl 0 rfl) ?_
      refine fget (pc := 48) (v := .int (nI (pn + 1))) hx hb hts hown hE hP fl_X8_90 0 rfl rfl dX8_letter_48 ?_
      have hfn : R_letter z g r pn code = (nI (pn + 1), (va_up z 14 (nI (pn + 1))), g, (va_up r 15 (upd (r 15) pn code.toInt8.toInt32))) := by rw [R_letter, if_pos c_1, if_neg c_2n]
      rw [hQ]; exact W.iret (pc := 51) hx hb hr (fun t9 ht _ => ⟨⟨retI (by rw [hfn]), by rw [ht, hfn]; exact (show va_P D vwCl (wR kB kI o a (va_up z 14 (nI (pn + 1))) g (va_up r 15 (upd (r 15) pn code.toInt8.toInt32))) _ from hP)⟩, hS.F ht⟩) hS.2.2 dX8_letter_51 hlocks
    · skip
      have c_2n : pn = 40 := (nI_eq (a := pn) (b := 40) (by omega) (by omega)).mp c_2
      refine lv_bipush (pc := 23) (v := (-104)) hx hb dX8_letter_23 (by decide) ?_
      have hfn : R_letter z g r pn code = ((-104), z, g, r) := by rw [R_letter, if_pos c_1, if_pos c_2n]
      rw [hQ]; exact W.iret (pc := 25) hx hb hr (fun t9 ht _ => ⟨⟨retI (by rw [hfn]), by rw [ht, hfn]; exact (show va_P D vwCl (wR kB kI o a z g r) _ from hP)⟩, hS.F ht⟩) hS.2.2 dX8_letter_25 hlocks
  · skip
    refine lv_bipush (pc := 11) (v := (-102)) hx hb dX8_letter_11 (by decide) ?_
    have hfn : R_letter z g r pn code = ((-102), z, g, r) := by rw [R_letter, if_neg c_1]
    rw [hQ]; exact W.iret (pc := 13) hx hb hr (fun t9 ht _ => ⟨⟨retI (by rw [hfn]), by rw [ht, hfn]; exact (show va_P D vwCl (wR kB kI o a z g r) _ from hP)⟩, hS.F ht⟩) hS.2.2 dX8_letter_13 hlocks
set_option maxRecDepth 100000 in
set_option maxHeartbeats 4000000 in
theorem k_X8_blank {o : Nat} {a : Nat → Nat} {z : Nat → Int32} {g : Nat → Int64} {r : Nat → Nat → Int32} : MW l yX8_blank cX8_blank 2 (some .int) 0 0 D kB kI kT ks sk sv [.ref o] (wR kB kI o a z g r) (some (.int (z 14))) (wR kB kI o a (va_up z 14 0) g r) := by
  refine MW.go (by decide +kernel) (Nat.le_of_ble_eq_true rfl) ?_
  intro p e s m below meth c0 args Q ls A hQ hx hb hr hml hown hts hlocks hE hP hD hS hl
  have hl : lv_has ls 2 [(0, .ref o)] := hl
  have hown : s.vm.findClass RX8 = some m.cls := hown
  refine lv_aload_n (pc := 0) hx hb dX8_blank_0 rfl (lv_at hl 0 rfl) ?_
  refine fget (pc := 1) (v := .int (z 14)) hx hb hts hown hE hP fl_X8_90 0 rfl rfl dX8_blank_1 ?_
  refine lv_istore_n (pc := 4) (lv' := [(1, .int (z 14)), (0, .ref o)]) hx hb dX8_blank_4 rfl hl (by decide) rfl (fun ls hl => ?_)
  refine lv_aload_n (pc := 5) hx hb dX8_blank_5 rfl (lv_at hl 1 rfl) ?_
  refine lv_iconst (pc := 6) (v := 0) hx hb dX8_blank_6 (by decide) ?_
  refine fput (pc := 7) (v := .int 0) hx hb hts hown hE hP hD hS fp_X8_90 0 rfl rfl rfl (Nat.le_of_ble_eq_true rfl) dX8_blank_7 (fun H locs hP hD hS => ?_)
  have hP : va_P D vwCl (wR kB kI o a (va_up z 14 0) g r) H := hP
  have hD : va_D A (wR kB kI o a (va_up z 14 0) g r) := hD
  refine lv_iload_n (pc := 10) hx hb dX8_blank_10 rfl (lv_at hl 0 rfl) ?_
  rw [hQ]; exact W.iret (pc := 11) hx hb hr (fun t9 ht _ => ⟨⟨retI (rfl), by rw [ht]; exact hP⟩, hS.F ht⟩) hS.2.2 dX8_blank_11 hlocks
set_option maxRecDepth 100000 in
set_option maxHeartbeats 4000000 in
theorem k_X8_forget {o : Nat} {a : Nat → Nat} {z : Nat → Int32} {g : Nat → Int64} {r : Nat → Nat → Int32} : MW l yX8_forget cX8_forget 2 (some .int) 0 0 D kB kI kT ks sk sv [.ref o] (wR kB kI o a z g r) (some (.int (z 10))) (wR kB kI o a (va_up z 10 0) g r) := by
  refine MW.go (by decide +kernel) (Nat.le_of_ble_eq_true rfl) ?_
  intro p e s m below meth c0 args Q ls A hQ hx hb hr hml hown hts hlocks hE hP hD hS hl
  have hl : lv_has ls 2 [(0, .ref o)] := hl
  have hown : s.vm.findClass RX8 = some m.cls := hown
  refine lv_aload_n (pc := 0) hx hb dX8_forget_0 rfl (lv_at hl 0 rfl) ?_
  refine fget (pc := 1) (v := .int (z 10)) hx hb hts hown hE hP fl_X8_130 0 rfl rfl dX8_forget_1 ?_
  refine lv_istore_n (pc := 4) (lv' := [(1, .int (z 10)), (0, .ref o)]) hx hb dX8_forget_4 rfl hl (by decide) rfl (fun ls hl => ?_)
  refine lv_aload_n (pc := 5) hx hb dX8_forget_5 rfl (lv_at hl 1 rfl) ?_
  refine lv_iconst (pc := 6) (v := 0) hx hb dX8_forget_6 (by decide) ?_
  refine fput (pc := 7) (v := .int 0) hx hb hts hown hE hP hD hS fp_X8_130 0 rfl rfl rfl (Nat.le_of_ble_eq_true rfl) dX8_forget_7 (fun H locs hP hD hS => ?_)
  have hP : va_P D vwCl (wR kB kI o a (va_up z 10 0) g r) H := hP
  have hD : va_D A (wR kB kI o a (va_up z 10 0) g r) := hD
  refine lv_iload_n (pc := 10) hx hb dX8_forget_10 rfl (lv_at hl 0 rfl) ?_
  rw [hQ]; exact W.iret (pc := 11) hx hb hr (fun t9 ht _ => ⟨⟨retI (rfl), by rw [ht]; exact hP⟩, hS.F ht⟩) hS.2.2 dX8_forget_11 hlocks
end
end
section
section
variable {l : Launch} {D : va_G} {kB kI kT : ClassId} {ks sk sv : Nat}
set_option maxRecDepth 100000 in
set_option maxHeartbeats 4000000 in
theorem k_X8_play {o : Nat} {a : Nat → Nat} {z : Nat → Int32} {g : Nat → Int64} {r : Nat → Nat → Int32} (x : Int32) (t : Int32) {n : Nat} (hok : okP n (r 8)) (hn5 : n ≤ 5) (hz1 : z 1 = nI n) : MW l yX8_play cX8_play 3 (some .int) 7 153 D kB kI kT ks sk sv [.ref o, .int x, .int t] (wR kB kI o a z g r) (some (.int ((R_play z g r n x t).1))) (wR kB kI o a (R_play z g r n x t).2.1 (R_play z g r n x t).2.2.1 (R_play z g r n x t).2.2.2) := by
  refine MW.go (by decide +kernel) (Nat.le_of_ble_eq_true rfl) ?_
  intro p e s m below meth c0 args Q ls A hQ hx hb hr hml hown hts hlocks hE hP hD hS hl
  have hl : lv_has ls 3 [(0, .ref o), (1, .int x), (2, .int t)] := hl
  have hown : s.vm.findClass RX8 = some m.cls := hown
  refine lv_iload_n (pc := 0) hx hb dX8_play_0 rfl (lv_at hl 1 rfl) ?_
  refine rS (pc := 1) (rest := []) ⟨hx, hb, hml, hown, hts⟩ (k_X8_isNight (n := x)) cw_X8_140 ⟨(Nat.le_of_ble_eq_true rfl), (Nat.le_of_ble_eq_true rfl)⟩ hE hS wc0 rfl hl.1 rfl (Nat.le_of_ble_eq_true rfl) dX8_play_1 ⟨Nat.le_refl _, Nat.le_refl _⟩ ?_
  refine W.eq (g2 := F0 m 4 ls [.int (bi (inR x 0 11))]) rfl ?_
  refine bif_eq (pc := 4) (tgt := 27) hx hb dX8_play_4 (by decide) (fun c_1 => ?_) (fun c_1 => ?_)
  · skip
    refine lv_bipush (pc := 27) (v := (-101)) hx hb dX8_play_27 (by decide) ?_
    have hfn : R_play z g r n x t = ((-101), z, g, r) := by rw [R_play, if_neg (fun q => c_1 q.1)]
    rw [hQ]; exact W.iret (pc := 29) hx hb hr (fun t9 ht _ => ⟨⟨retI (by rw [hfn]), by rw [ht, hfn]; exact (show va_P D vwCl (wR kB kI o a z g r) _ from hP)⟩, hS.F ht⟩) hS.2.2 dX8_play_29 hlocks
  · skip
    obtain ⟨i, hi, hxi⟩ := inR_nat c_1
    refine lv_aload_n (pc := 7) hx hb dX8_play_7 rfl (lv_at hl 0 rfl) ?_
    refine fget (pc := 8) (v := .int (z 1)) hx hb hts hown hE hP fl_X8_124 0 rfl rfl dX8_play_8 ?_
    refine vEq (v := nI n) hz1 ?_
    refine lv_if_eq (pc := 11) (tgt := 27) hx hb dX8_play_11 (by decide) (fun c_2 => ?_) (fun c_2 => ?_)
    · skip
      have c_2n : n = 0 := (nI_eq (a := n) (b := 0) (by omega) (by omega)).mp c_2
      refine lv_bipush (pc := 27) (v := (-101)) hx hb dX8_play_27 (by decide) ?_
      have hfn : R_play z g r n x t = ((-101), z, g, r) := by rw [R_play, if_neg (fun q => q.2.1 c_2n)]
      rw [hQ]; exact W.iret (pc := 29) hx hb hr (fun t9 ht _ => ⟨⟨retI (by rw [hfn]), by rw [ht, hfn]; exact (show va_P D vwCl (wR kB kI o a z g r) _ from hP)⟩, hS.F ht⟩) hS.2.2 dX8_play_29 hlocks
    · skip
      have c_2n : ¬ n = 0 := fun hh => c_2 ((nI_eq (a := n) (b := 0) (by omega) (by omega)).mpr hh)
      refine lv_iload_n (pc := 14) hx hb dX8_play_14 rfl (lv_at hl 2 rfl) ?_
      refine lv_iconst (pc := 15) (v := (-1)) hx hb dX8_play_15 (by decide) ?_
      refine lv_icmp_eq (pc := 16) (tgt := 30) hx hb dX8_play_16 (by decide) (fun c_3 => ?_) (fun c_3 => ?_)
      · skip
        refine lv_aload_n (pc := 30) hx hb dX8_play_30 rfl (lv_at hl 0 rfl) ?_
        refine fget (pc := 31) (v := .ref (a 8)) hx hb hts hown hE hP fl_X8_28 0 rfl rfl dX8_play_31 ?_
        refine lv_iload_n (pc := 34) hx hb dX8_play_34 rfl (lv_at hl 1 rfl) ?_
        refine vEq (v := nI i) hxi ?_
        refine lv_iload_n (pc := 35) hx hb dX8_play_35 rfl (lv_at hl 2 rfl) ?_
        refine astN (pc := 36) hx hb hE hP hD hS 7 rfl (i) (by omega) (by omega) dX8_play_36 (fun H locs hP hD hS => ?_)
        have hP : va_P D vwCl (wR kB kI o a z g (va_up r 8 (upd (r 8) i t))) H := hP
        have hD : va_D A (wR kB kI o a z g (va_up r 8 (upd (r 8) i t))) := hD
        refine lv_aload_n (pc := 37) hx hb dX8_play_37 rfl (lv_at hl 0 rfl) ?_
        refine rV (pc := 38) (rest := []) ⟨hx, hb, hml, hown, hts⟩ (k_X8_breaks (z := z) (g := g) (r := (va_up r 8 (upd (r 8) i t))) (hok := (okP_upd hok (Or.inl c_3))) (hn5 := hn5)) cw_X8_166 ⟨(Nat.le_of_ble_eq_true rfl), (Nat.le_of_ble_eq_true rfl)⟩ hE hS hP rfl rfl rfl rfl hl.1 rfl (Nat.le_of_ble_eq_true rfl) dX8_play_38 ⟨Nat.le_refl _, Nat.le_refl _⟩ ?_
        refine W.eq (g2 := F0 m 41 ls [.int (nI (cntP (fun j => 0 < brk ((r 2)) ((r 3)) ((r 4)) ((r 5)) ((r 6)) ((upd (r 8) i t)) j) 12))]) rfl ?_
        have hfn : R_play z g r n x t = (nI (cntP (fun j => 0 < brk ((r 2)) ((r 3)) ((r 4)) ((r 5)) ((r 6)) ((upd (r 8) i t)) j) 12), z, g, (va_up r 8 (upd (r 8) i t))) := by rw [R_play, if_pos ⟨c_1, c_2n, Or.inl c_3⟩, hxi, ix_nI (by omega)]; rfl
        rw [hQ]; exact W.iret (pc := 41) hx hb hr (fun t9 ht _ => ⟨⟨retI (by rw [hfn]), by rw [ht, hfn]; exact (show va_P D vwCl (wR kB kI o a z g (va_up r 8 (upd (r 8) i t))) _ from hP)⟩, hS.F ht⟩) hS.2.2 dX8_play_41 hlocks
      · skip
        refine lv_aload_n (pc := 19) hx hb dX8_play_19 rfl (lv_at hl 0 rfl) ?_
        refine lv_iload_n (pc := 20) hx hb dX8_play_20 rfl (lv_at hl 2 rfl) ?_
        refine rV (pc := 21) (rest := []) ⟨hx, hb, hml, hown, hts⟩ (k_X8_isTitle (t := t) (z := z) (g := g) (r := r)) cw_X8_133 ⟨(Nat.le_of_ble_eq_true rfl), (Nat.le_of_ble_eq_true rfl)⟩ hE hS hP rfl rfl rfl rfl hl.1 rfl (Nat.le_of_ble_eq_true rfl) dX8_play_21 ⟨Nat.le_refl _, Nat.le_refl _⟩ ?_
        refine W.eq (g2 := F0 m 24 ls [.int (bi (inR t 0 ((z 1) - 1)))]) rfl ?_
        refine bif_ne (pc := 24) (tgt := 30) hx hb dX8_play_24 (by decide) (fun c_4 => ?_) (fun c_4 => ?_)
        · skip
          refine lv_aload_n (pc := 30) hx hb dX8_play_30 rfl (lv_at hl 0 rfl) ?_
          refine fget (pc := 31) (v := .ref (a 8)) hx hb hts hown hE hP fl_X8_28 0 rfl rfl dX8_play_31 ?_
          refine lv_iload_n (pc := 34) hx hb dX8_play_34 rfl (lv_at hl 1 rfl) ?_
          refine vEq (v := nI i) hxi ?_
          refine lv_iload_n (pc := 35) hx hb dX8_play_35 rfl (lv_at hl 2 rfl) ?_
          refine astN (pc := 36) hx hb hE hP hD hS 7 rfl (i) (by omega) (by omega) dX8_play_36 (fun H locs hP hD hS => ?_)
          have hP : va_P D vwCl (wR kB kI o a z g (va_up r 8 (upd (r 8) i t))) H := hP
          have hD : va_D A (wR kB kI o a z g (va_up r 8 (upd (r 8) i t))) := hD
          refine lv_aload_n (pc := 37) hx hb dX8_play_37 rfl (lv_at hl 0 rfl) ?_
          refine rV (pc := 38) (rest := []) ⟨hx, hb, hml, hown, hts⟩ (k_X8_breaks (z := z) (g := g) (r := (va_up r 8 (upd (r 8) i t))) (hok := (okP_upd hok (Or.inr (isT_nat hz1 hn5 c_4)))) (hn5 := hn5)) cw_X8_166 ⟨(Nat.le_of_ble_eq_true rfl), (Nat.le_of_ble_eq_true rfl)⟩ hE hS hP rfl rfl rfl rfl hl.1 rfl (Nat.le_of_ble_eq_true rfl) dX8_play_38 ⟨Nat.le_refl _, Nat.le_refl _⟩ ?_
          refine W.eq (g2 := F0 m 41 ls [.int (nI (cntP (fun j => 0 < brk ((r 2)) ((r 3)) ((r 4)) ((r 5)) ((r 6)) ((upd (r 8) i t)) j) 12))]) rfl ?_
          have hfn : R_play z g r n x t = (nI (cntP (fun j => 0 < brk ((r 2)) ((r 3)) ((r 4)) ((r 5)) ((r 6)) ((upd (r 8) i t)) j) 12), z, g, (va_up r 8 (upd (r 8) i t))) := by rw [R_play, if_pos ⟨c_1, c_2n, Or.inr c_4⟩, hxi, ix_nI (by omega)]; rfl
          rw [hQ]; exact W.iret (pc := 41) hx hb hr (fun t9 ht _ => ⟨⟨retI (by rw [hfn]), by rw [ht, hfn]; exact (show va_P D vwCl (wR kB kI o a z g (va_up r 8 (upd (r 8) i t))) _ from hP)⟩, hS.F ht⟩) hS.2.2 dX8_play_41 hlocks
        · skip
          refine lv_bipush (pc := 27) (v := (-101)) hx hb dX8_play_27 (by decide) ?_
          have hfn : R_play z g r n x t = ((-101), z, g, r) := by rw [R_play, if_neg (fun q => q.2.2.elim c_3 c_4)]
          rw [hQ]; exact W.iret (pc := 29) hx hb hr (fun t9 ht _ => ⟨⟨retI (by rw [hfn]), by rw [ht, hfn]; exact (show va_P D vwCl (wR kB kI o a z g r) _ from hP)⟩, hS.F ht⟩) hS.2.2 dX8_play_29 hlocks
set_option maxRecDepth 100000 in
set_option maxHeartbeats 4000000 in
theorem k_X8_add {o : Nat} {a : Nat → Nat} {z : Nat → Int32} {g : Nat → Int64} {r : Nat → Nat → Int32} (kind : Int32) (set : Int32) (cast : Int32) {n : Nat} (hz1 : z 1 = nI n) (hn5 : n ≤ 5) : MW l yX8_add cX8_add 4 (some .int) 1 22 D kB kI kT ks sk sv [.ref o, .int kind, .int set, .int cast] (wR kB kI o a z g r) (some (.int ((R_add z g r n kind set cast).1))) (wR kB kI o a (R_add z g r n kind set cast).2.1 (R_add z g r n kind set cast).2.2.1 (R_add z g r n kind set cast).2.2.2) := by
  refine MW.go (by decide +kernel) (Nat.le_of_ble_eq_true rfl) ?_
  intro p e s m below meth c0 args Q ls A hQ hx hb hr hml hown hts hlocks hE hP hD hS hl
  have hl : lv_has ls 4 [(0, .ref o), (1, .int kind), (2, .int set), (3, .int cast)] := hl
  have hown : s.vm.findClass RX8 = some m.cls := hown
  refine lv_iload_n (pc := 0) hx hb dX8_add_0 rfl (lv_at hl 1 rfl) ?_
  refine lv_iconst (pc := 1) (v := 0) hx hb dX8_add_1 (by decide) ?_
  refine lv_iconst (pc := 2) (v := 4) hx hb dX8_add_2 (by decide) ?_
  refine rS (pc := 3) (rest := []) ⟨hx, hb, hml, hown, hts⟩ (k_X8_within (v := kind) (lo := 0) (hi := 4)) cw_X8_86 ⟨(Nat.le_of_ble_eq_true rfl), (Nat.le_of_ble_eq_true rfl)⟩ hE hS wc0 rfl hl.1 rfl (Nat.le_of_ble_eq_true rfl) dX8_add_3 ⟨Nat.le_refl _, Nat.le_refl _⟩ ?_
  refine W.eq (g2 := F0 m 6 ls [.int (bi (inR kind 0 4))]) rfl ?_
  refine bif_eq (pc := 6) (tgt := 27) hx hb dX8_add_6 (by decide) (fun c_1 => ?_) (fun c_1 => ?_)
  · skip
    refine lv_bipush (pc := 27) (v := (-102)) hx hb dX8_add_27 (by decide) ?_
    have hfn : R_add z g r n kind set cast = ((-102), z, g, r) := by rw [R_add, if_neg (fun q => c_1 q.1)]
    rw [hQ]; exact W.iret (pc := 29) hx hb hr (fun t9 ht _ => ⟨⟨retI (by rw [hfn]), by rw [ht, hfn]; exact (show va_P D vwCl (wR kB kI o a z g r) _ from hP)⟩, hS.F ht⟩) hS.2.2 dX8_add_29 hlocks
  · skip
    refine lv_iload_n (pc := 9) hx hb dX8_add_9 rfl (lv_at hl 2 rfl) ?_
    refine lv_iconst (pc := 10) (v := 0) hx hb dX8_add_10 (by decide) ?_
    refine lv_iconst (pc := 11) (v := 4) hx hb dX8_add_11 (by decide) ?_
    refine rS (pc := 12) (rest := []) ⟨hx, hb, hml, hown, hts⟩ (k_X8_within (v := set) (lo := 0) (hi := 4)) cw_X8_86 ⟨(Nat.le_of_ble_eq_true rfl), (Nat.le_of_ble_eq_true rfl)⟩ hE hS wc0 rfl hl.1 rfl (Nat.le_of_ble_eq_true rfl) dX8_add_12 ⟨Nat.le_refl _, Nat.le_refl _⟩ ?_
    refine W.eq (g2 := F0 m 15 ls [.int (bi (inR set 0 4))]) rfl ?_
    refine bif_eq (pc := 15) (tgt := 27) hx hb dX8_add_15 (by decide) (fun c_2 => ?_) (fun c_2 => ?_)
    · skip
      refine lv_bipush (pc := 27) (v := (-102)) hx hb dX8_add_27 (by decide) ?_
      have hfn : R_add z g r n kind set cast = ((-102), z, g, r) := by rw [R_add, if_neg (fun q => c_2 q.2.1)]
      rw [hQ]; exact W.iret (pc := 29) hx hb hr (fun t9 ht _ => ⟨⟨retI (by rw [hfn]), by rw [ht, hfn]; exact (show va_P D vwCl (wR kB kI o a z g r) _ from hP)⟩, hS.F ht⟩) hS.2.2 dX8_add_29 hlocks
    · skip
      refine lv_iload_n (pc := 18) hx hb dX8_add_18 rfl (lv_at hl 3 rfl) ?_
      refine lv_iconst (pc := 19) (v := 0) hx hb dX8_add_19 (by decide) ?_
      refine lv_iconst (pc := 20) (v := 4) hx hb dX8_add_20 (by decide) ?_
      refine rS (pc := 21) (rest := []) ⟨hx, hb, hml, hown, hts⟩ (k_X8_within (v := cast) (lo := 0) (hi := 4)) cw_X8_86 ⟨(Nat.le_of_ble_eq_true rfl), (Nat.le_of_ble_eq_true rfl)⟩ hE hS wc0 rfl hl.1 rfl (Nat.le_of_ble_eq_true rfl) dX8_add_21 ⟨Nat.le_refl _, Nat.le_refl _⟩ ?_
      refine W.eq (g2 := F0 m 24 ls [.int (bi (inR cast 0 4))]) rfl ?_
      refine bif_ne (pc := 24) (tgt := 30) hx hb dX8_add_24 (by decide) (fun c_3 => ?_) (fun c_3 => ?_)
      · skip
        refine lv_aload_n (pc := 30) hx hb dX8_add_30 rfl (lv_at hl 0 rfl) ?_
        refine fget (pc := 31) (v := .int (z 1)) hx hb hts hown hE hP fl_X8_124 0 rfl rfl dX8_add_31 ?_
        refine vEq (v := nI n) hz1 ?_
        refine lv_if_ne (pc := 34) (tgt := 40) hx hb dX8_add_34 (by decide) (fun c_4 => ?_) (fun c_4 => ?_)
        · skip
          have c_4n : ¬ n = 0 := fun hh => c_4 ((nI_eq (a := n) (b := 0) (by omega) (by omega)).mpr hh)
          refine lv_aload_n (pc := 40) hx hb dX8_add_40 rfl (lv_at hl 0 rfl) ?_
          refine fget (pc := 41) (v := .int (z 1)) hx hb hts hown hE hP fl_X8_124 0 rfl rfl dX8_add_41 ?_
          refine vEq (v := nI n) hz1 ?_
          refine lv_iconst (pc := 44) (v := 5) hx hb dX8_add_44 (by decide) ?_
          refine lv_icmp_ne (pc := 45) (tgt := 51) hx hb dX8_add_45 (by decide) (fun c_5 => ?_) (fun c_5 => ?_)
          · skip
            have c_5n : ¬ n = 5 := fun hh => c_5 ((nI_eq (a := n) (b := 5) (by omega) (by omega)).mpr hh)
            refine lv_aload_n (pc := 51) hx hb dX8_add_51 rfl (lv_at hl 0 rfl) ?_
            refine fget (pc := 52) (v := .ref (a 2)) hx hb hts hown hE hP fl_X8_7 0 rfl rfl dX8_add_52 ?_
            refine lv_aload_n (pc := 55) hx hb dX8_add_55 rfl (lv_at hl 0 rfl) ?_
            refine fget (pc := 56) (v := .int (z 1)) hx hb hts hown hE hP fl_X8_124 0 rfl rfl dX8_add_56 ?_
            refine vEq (v := nI n) hz1 ?_
            refine lv_iload_n (pc := 59) hx hb dX8_add_59 rfl (lv_at hl 1 rfl) ?_
            refine astN (pc := 60) hx hb hE hP hD hS 1 rfl (n) (by omega) (by omega) dX8_add_60 (fun H locs hP hD hS => ?_)
            have hP : va_P D vwCl (wR kB kI o a z g (va_up r 2 (upd (r 2) n kind))) H := hP
            have hD : va_D A (wR kB kI o a z g (va_up r 2 (upd (r 2) n kind))) := hD
            refine lv_aload_n (pc := 61) hx hb dX8_add_61 rfl (lv_at hl 0 rfl) ?_
            refine fget (pc := 62) (v := .ref (a 3)) hx hb hts hown hE hP fl_X8_13 0 rfl rfl dX8_add_62 ?_
            refine lv_aload_n (pc := 65) hx hb dX8_add_65 rfl (lv_at hl 0 rfl) ?_
            refine fget (pc := 66) (v := .int (z 1)) hx hb hts hown hE hP fl_X8_124 0 rfl rfl dX8_add_66 ?_
            refine vEq (v := nI n) hz1 ?_
            refine lv_iload_n (pc := 69) hx hb dX8_add_69 rfl (lv_at hl 2 rfl) ?_
            refine astN (pc := 70) hx hb hE hP hD hS 2 rfl (n) (by omega) (by omega) dX8_add_70 (fun H locs hP hD hS => ?_)
            have hP : va_P D vwCl (wR kB kI o a z g (va_up (va_up r 2 (upd (r 2) n kind)) 3 (upd (r 3) n set))) H := hP
            have hD : va_D A (wR kB kI o a z g (va_up (va_up r 2 (upd (r 2) n kind)) 3 (upd (r 3) n set))) := hD
            refine lv_aload_n (pc := 71) hx hb dX8_add_71 rfl (lv_at hl 0 rfl) ?_
            refine fget (pc := 72) (v := .ref (a 4)) hx hb hts hown hE hP fl_X8_16 0 rfl rfl dX8_add_72 ?_
            refine lv_aload_n (pc := 75) hx hb dX8_add_75 rfl (lv_at hl 0 rfl) ?_
            refine fget (pc := 76) (v := .int (z 1)) hx hb hts hown hE hP fl_X8_124 0 rfl rfl dX8_add_76 ?_
            refine vEq (v := nI n) hz1 ?_
            refine lv_iload_n (pc := 79) hx hb dX8_add_79 rfl (lv_at hl 3 rfl) ?_
            refine astN (pc := 80) hx hb hE hP hD hS 3 rfl (n) (by omega) (by omega) dX8_add_80 (fun H locs hP hD hS => ?_)
            have hP : va_P D vwCl (wR kB kI o a z g (va_up (va_up (va_up r 2 (upd (r 2) n kind)) 3 (upd (r 3) n set)) 4 (upd (r 4) n cast))) H := hP
            have hD : va_D A (wR kB kI o a z g (va_up (va_up (va_up r 2 (upd (r 2) n kind)) 3 (upd (r 3) n set)) 4 (upd (r 4) n cast))) := hD
            refine lv_aload_n (pc := 81) hx hb dX8_add_81 rfl (lv_at hl 0 rfl) ?_
            refine fget (pc := 82) (v := .ref (a 5)) hx hb hts hown hE hP fl_X8_19 0 rfl rfl dX8_add_82 ?_
            refine lv_aload_n (pc := 85) hx hb dX8_add_85 rfl (lv_at hl 0 rfl) ?_
            refine fget (pc := 86) (v := .int (z 1)) hx hb hts hown hE hP fl_X8_124 0 rfl rfl dX8_add_86 ?_
            refine vEq (v := nI n) hz1 ?_
            refine lv_iconst (pc := 89) (v := 0) hx hb dX8_add_89 (by decide) ?_
            refine astN (pc := 90) hx hb hE hP hD hS 4 rfl (n) (by omega) (by omega) dX8_add_90 (fun H locs hP hD hS => ?_)
            have hP : va_P D vwCl (wR kB kI o a z g (va_up (va_up (va_up (va_up r 2 (upd (r 2) n kind)) 3 (upd (r 3) n set)) 4 (upd (r 4) n cast)) 5 (upd (r 5) n 0))) H := hP
            have hD : va_D A (wR kB kI o a z g (va_up (va_up (va_up (va_up r 2 (upd (r 2) n kind)) 3 (upd (r 3) n set)) 4 (upd (r 4) n cast)) 5 (upd (r 5) n 0))) := hD
            refine lv_aload_n (pc := 91) hx hb dX8_add_91 rfl (lv_at hl 0 rfl) ?_
            refine fget (pc := 92) (v := .ref (a 6)) hx hb hts hown hE hP fl_X8_22 0 rfl rfl dX8_add_92 ?_
            refine lv_aload_n (pc := 95) hx hb dX8_add_95 rfl (lv_at hl 0 rfl) ?_
            refine fget (pc := 96) (v := .int (z 1)) hx hb hts hown hE hP fl_X8_124 0 rfl rfl dX8_add_96 ?_
            refine vEq (v := nI n) hz1 ?_
            refine lv_bipush (pc := 99) (v := 11) hx hb dX8_add_99 (by decide) ?_
            refine astN (pc := 101) hx hb hE hP hD hS 5 rfl (n) (by omega) (by omega) dX8_add_101 (fun H locs hP hD hS => ?_)
            have hP : va_P D vwCl (wR kB kI o a z g (va_up (va_up (va_up (va_up (va_up r 2 (upd (r 2) n kind)) 3 (upd (r 3) n set)) 4 (upd (r 4) n cast)) 5 (upd (r 5) n 0)) 6 (upd (r 6) n 11))) H := hP
            have hD : va_D A (wR kB kI o a z g (va_up (va_up (va_up (va_up (va_up r 2 (upd (r 2) n kind)) 3 (upd (r 3) n set)) 4 (upd (r 4) n cast)) 5 (upd (r 5) n 0)) 6 (upd (r 6) n 11))) := hD
            refine lv_aload_n (pc := 102) hx hb dX8_add_102 rfl (lv_at hl 0 rfl) ?_
            refine fget (pc := 103) (v := .ref (a 7)) hx hb hts hown hE hP fl_X8_25 0 rfl rfl dX8_add_103 ?_
            refine lv_aload_n (pc := 106) hx hb dX8_add_106 rfl (lv_at hl 0 rfl) ?_
            refine fget (pc := 107) (v := .int (z 1)) hx hb hts hown hE hP fl_X8_124 0 rfl rfl dX8_add_107 ?_
            refine vEq (v := nI n) hz1 ?_
            refine lv_iconst (pc := 110) (v := 5) hx hb dX8_add_110 (by decide) ?_
            refine astN (pc := 111) hx hb hE hP hD hS 6 rfl (n) (by omega) (by omega) dX8_add_111 (fun H locs hP hD hS => ?_)
            have hP : va_P D vwCl (wR kB kI o a z g (va_up (va_up (va_up (va_up (va_up (va_up r 2 (upd (r 2) n kind)) 3 (upd (r 3) n set)) 4 (upd (r 4) n cast)) 5 (upd (r 5) n 0)) 6 (upd (r 6) n 11)) 7 (upd (r 7) n 5))) H := hP
            have hD : va_D A (wR kB kI o a z g (va_up (va_up (va_up (va_up (va_up (va_up r 2 (upd (r 2) n kind)) 3 (upd (r 3) n set)) 4 (upd (r 4) n cast)) 5 (upd (r 5) n 0)) 6 (upd (r 6) n 11)) 7 (upd (r 7) n 5))) := hD
            refine lv_aload_n (pc := 112) hx hb dX8_add_112 rfl (lv_at hl 0 rfl) ?_
            refine lv_dup (pc := 113) hx hb dX8_add_113 rfl ?_
            refine fget (pc := 114) (v := .int (z 1)) hx hb hts hown hE hP fl_X8_124 0 rfl rfl dX8_add_114 ?_
            refine vEq (v := nI n) hz1 ?_
            refine lv_iconst (pc := 117) (v := 1) hx hb dX8_add_117 (by decide) ?_
            refine iaddV (pc := 118) (v := nI (n + 1)) hx hb dX8_add_118 (nI_add (n) (1)) ?_
            refine fput (pc := 119) (v := .int (nI (n + 1))) hx hb hts hown hE hP hD hS fp_X8_124 0 rfl rfl rfl (Nat.le_of_ble_eq_true rfl) dX8_add_119 (fun H locs hP hD hS => ?_)
            have hP : va_P D vwCl (wR kB kI o a (va_up z 1 (nI (n + 1))) g (va_up (va_up (va_up (va_up (va_up (va_up r 2 (upd (r 2) n kind)) 3 (upd (r 3) n set)) 4 (upd (r 4) n cast)) 5 (upd (r 5) n 0)) 6 (upd (r 6) n 11)) 7 (upd (r 7) n 5))) H := hP
            have hD : va_D A (wR kB kI o a (va_up z 1 (nI (n + 1))) g (va_up (va_up (va_up (va_up (va_up (va_up r 2 (upd (r 2) n kind)) 3 (upd (r 3) n set)) 4 (upd (r 4) n cast)) 5 (upd (r 5) n 0)) 6 (upd (r 6) n 11)) 7 (upd (r 7) n 5))) := hD
            refine lv_aload_n (pc := 122) hx hb dX8_add_122 rfl (lv_at hl 0 rfl) ?_
            refine fget (pc := 123) (v := .int (nI (n + 1))) hx hb hts hown hE hP fl_X8_124 0 rfl rfl dX8_add_123 ?_
            refine lv_iconst (pc := 126) (v := 1) hx hb dX8_add_126 (by decide) ?_
            refine isubV (pc := 127) (v := nI n) hx hb dX8_add_127 (nI_pred n) ?_
            have hfn : R_add z g r n kind set cast = (nI n, (va_up z 1 (nI (n + 1))), g, (va_up (va_up (va_up (va_up (va_up (va_up r 2 (upd (r 2) n kind)) 3 (upd (r 3) n set)) 4 (upd (r 4) n cast)) 5 (upd (r 5) n 0)) 6 (upd (r 6) n 11)) 7 (upd (r 7) n 5))) := by rw [R_add, if_pos ⟨c_1, c_2, c_3⟩, if_neg c_4n, if_neg c_5n]
            rw [hQ]; exact W.iret (pc := 128) hx hb hr (fun t9 ht _ => ⟨⟨retI (by rw [hfn]), by rw [ht, hfn]; exact (show va_P D vwCl (wR kB kI o a (va_up z 1 (nI (n + 1))) g (va_up (va_up (va_up (va_up (va_up (va_up r 2 (upd (r 2) n kind)) 3 (upd (r 3) n set)) 4 (upd (r 4) n cast)) 5 (upd (r 5) n 0)) 6 (upd (r 6) n 11)) 7 (upd (r 7) n 5))) _ from hP)⟩, hS.F ht⟩) hS.2.2 dX8_add_128 hlocks
          · skip
            have c_5n : n = 5 := (nI_eq (a := n) (b := 5) (by omega) (by omega)).mp c_5
            refine lv_bipush (pc := 48) (v := (-104)) hx hb dX8_add_48 (by decide) ?_
            have hfn : R_add z g r n kind set cast = ((-104), z, g, r) := by rw [R_add, if_pos ⟨c_1, c_2, c_3⟩, if_neg c_4n, if_pos c_5n]
            rw [hQ]; exact W.iret (pc := 50) hx hb hr (fun t9 ht _ => ⟨⟨retI (by rw [hfn]), by rw [ht, hfn]; exact (show va_P D vwCl (wR kB kI o a z g r) _ from hP)⟩, hS.F ht⟩) hS.2.2 dX8_add_50 hlocks
        · skip
          have c_4n : n = 0 := (nI_eq (a := n) (b := 0) (by omega) (by omega)).mp c_4
          refine lv_bipush (pc := 37) (v := (-103)) hx hb dX8_add_37 (by decide) ?_
          have hfn : R_add z g r n kind set cast = ((-103), z, g, r) := by rw [R_add, if_pos ⟨c_1, c_2, c_3⟩, if_pos c_4n]
          rw [hQ]; exact W.iret (pc := 39) hx hb hr (fun t9 ht _ => ⟨⟨retI (by rw [hfn]), by rw [ht, hfn]; exact (show va_P D vwCl (wR kB kI o a z g r) _ from hP)⟩, hS.F ht⟩) hS.2.2 dX8_add_39 hlocks
      · skip
        refine lv_bipush (pc := 27) (v := (-102)) hx hb dX8_add_27 (by decide) ?_
        have hfn : R_add z g r n kind set cast = ((-102), z, g, r) := by rw [R_add, if_neg (fun q => c_3 q.2.2)]
        rw [hQ]; exact W.iret (pc := 29) hx hb hr (fun t9 ht _ => ⟨⟨retI (by rw [hfn]), by rw [ht, hfn]; exact (show va_P D vwCl (wR kB kI o a z g r) _ from hP)⟩, hS.F ht⟩) hS.2.2 dX8_add_29 hlocks
set_option maxRecDepth 100000 in
set_option maxHeartbeats 4000000 in
theorem k_X8_rights {o : Nat} {a : Nat → Nat} {z : Nat → Int32} {g : Nat → Int64} {r : Nat → Nat → Int32} (t : Int32) (fi : Int32) (la : Int32) {n : Nat} (hok : okP n (r 8)) (hn5 : n ≤ 5) (hz1 : z 1 = nI n) : MW l yX8_rights cX8_rights 4 (some .int) 7 153 D kB kI kT ks sk sv [.ref o, .int t, .int fi, .int la] (wR kB kI o a z g r) (some (.int ((R_rights z g r t fi la).1))) (wR kB kI o a (R_rights z g r t fi la).2.1 (R_rights z g r t fi la).2.2.1 (R_rights z g r t fi la).2.2.2) := by
  refine MW.go (by decide +kernel) (Nat.le_of_ble_eq_true rfl) ?_
  intro p e s m below meth c0 args Q ls A hQ hx hb hr hml hown hts hlocks hE hP hD hS hl
  have hl : lv_has ls 4 [(0, .ref o), (1, .int t), (2, .int fi), (3, .int la)] := hl
  have hown : s.vm.findClass RX8 = some m.cls := hown
  refine lv_aload_n (pc := 0) hx hb dX8_rights_0 rfl (lv_at hl 0 rfl) ?_
  refine lv_iload_n (pc := 1) hx hb dX8_rights_1 rfl (lv_at hl 1 rfl) ?_
  refine rV (pc := 2) (rest := []) ⟨hx, hb, hml, hown, hts⟩ (k_X8_isTitle (t := t) (z := z) (g := g) (r := r)) cw_X8_133 ⟨(Nat.le_of_ble_eq_true rfl), (Nat.le_of_ble_eq_true rfl)⟩ hE hS hP rfl rfl rfl rfl hl.1 rfl (Nat.le_of_ble_eq_true rfl) dX8_rights_2 ⟨Nat.le_refl _, Nat.le_refl _⟩ ?_
  refine W.eq (g2 := F0 m 5 ls [.int (bi (inR t 0 ((z 1) - 1)))]) rfl ?_
  refine bif_ne (pc := 5) (tgt := 11) hx hb dX8_rights_5 (by decide) (fun c_1 => ?_) (fun c_1 => ?_)
  · skip
    obtain ⟨k, hk, hkt⟩ := isT_nat hz1 hn5 c_1
    refine lv_iload_n (pc := 11) hx hb dX8_rights_11 rfl (lv_at hl 2 rfl) ?_
    refine rS (pc := 12) (rest := []) ⟨hx, hb, hml, hown, hts⟩ (k_X8_isNight (n := fi)) cw_X8_140 ⟨(Nat.le_of_ble_eq_true rfl), (Nat.le_of_ble_eq_true rfl)⟩ hE hS wc0 rfl hl.1 rfl (Nat.le_of_ble_eq_true rfl) dX8_rights_12 ⟨Nat.le_refl _, Nat.le_refl _⟩ ?_
    refine W.eq (g2 := F0 m 15 ls [.int (bi (inR fi 0 11))]) rfl ?_
    refine bif_eq (pc := 15) (tgt := 28) hx hb dX8_rights_15 (by decide) (fun c_2 => ?_) (fun c_2 => ?_)
    · skip
      refine lv_bipush (pc := 28) (v := (-102)) hx hb dX8_rights_28 (by decide) ?_
      have hfn : R_rights z g r t fi la = ((-102), z, g, r) := by rw [R_rights, if_pos c_1, if_neg (fun q => c_2 q.1)]
      rw [hQ]; exact W.iret (pc := 30) hx hb hr (fun t9 ht _ => ⟨⟨retI (by rw [hfn]), by rw [ht, hfn]; exact (show va_P D vwCl (wR kB kI o a z g r) _ from hP)⟩, hS.F ht⟩) hS.2.2 dX8_rights_30 hlocks
    · skip
      refine lv_iload_n (pc := 18) hx hb dX8_rights_18 rfl (lv_at hl 3 rfl) ?_
      refine lv_iload_n (pc := 19) hx hb dX8_rights_19 rfl (lv_at hl 2 rfl) ?_
      refine lv_bipush (pc := 20) (v := 11) hx hb dX8_rights_20 (by decide) ?_
      refine rS (pc := 22) (rest := []) ⟨hx, hb, hml, hown, hts⟩ (k_X8_within (v := la) (lo := fi) (hi := 11)) cw_X8_86 ⟨(Nat.le_of_ble_eq_true rfl), (Nat.le_of_ble_eq_true rfl)⟩ hE hS wc0 rfl hl.1 rfl (Nat.le_of_ble_eq_true rfl) dX8_rights_22 ⟨Nat.le_refl _, Nat.le_refl _⟩ ?_
      refine W.eq (g2 := F0 m 25 ls [.int (bi (inR la fi 11))]) rfl ?_
      refine bif_ne (pc := 25) (tgt := 31) hx hb dX8_rights_25 (by decide) (fun c_3 => ?_) (fun c_3 => ?_)
      · skip
        refine lv_aload_n (pc := 31) hx hb dX8_rights_31 rfl (lv_at hl 0 rfl) ?_
        refine fget (pc := 32) (v := .ref (a 5)) hx hb hts hown hE hP fl_X8_19 0 rfl rfl dX8_rights_32 ?_
        refine lv_iload_n (pc := 35) hx hb dX8_rights_35 rfl (lv_at hl 1 rfl) ?_
        refine vEq (v := nI k) hkt ?_
        refine lv_iload_n (pc := 36) hx hb dX8_rights_36 rfl (lv_at hl 2 rfl) ?_
        refine astN (pc := 37) hx hb hE hP hD hS 4 rfl (k) (by omega) (by omega) dX8_rights_37 (fun H locs hP hD hS => ?_)
        have hP : va_P D vwCl (wR kB kI o a z g (va_up r 5 (upd (r 5) k fi))) H := hP
        have hD : va_D A (wR kB kI o a z g (va_up r 5 (upd (r 5) k fi))) := hD
        refine lv_aload_n (pc := 38) hx hb dX8_rights_38 rfl (lv_at hl 0 rfl) ?_
        refine fget (pc := 39) (v := .ref (a 6)) hx hb hts hown hE hP fl_X8_22 0 rfl rfl dX8_rights_39 ?_
        refine lv_iload_n (pc := 42) hx hb dX8_rights_42 rfl (lv_at hl 1 rfl) ?_
        refine vEq (v := nI k) hkt ?_
        refine lv_iload_n (pc := 43) hx hb dX8_rights_43 rfl (lv_at hl 3 rfl) ?_
        refine astN (pc := 44) hx hb hE hP hD hS 5 rfl (k) (by omega) (by omega) dX8_rights_44 (fun H locs hP hD hS => ?_)
        have hP : va_P D vwCl (wR kB kI o a z g (va_up (va_up r 5 (upd (r 5) k fi)) 6 (upd (r 6) k la))) H := hP
        have hD : va_D A (wR kB kI o a z g (va_up (va_up r 5 (upd (r 5) k fi)) 6 (upd (r 6) k la))) := hD
        refine lv_aload_n (pc := 45) hx hb dX8_rights_45 rfl (lv_at hl 0 rfl) ?_
        refine rV (pc := 46) (rest := []) ⟨hx, hb, hml, hown, hts⟩ (k_X8_breaks (z := z) (g := g) (r := (va_up (va_up r 5 (upd (r 5) k fi)) 6 (upd (r 6) k la))) (hok := hok) (hn5 := hn5)) cw_X8_166 ⟨(Nat.le_of_ble_eq_true rfl), (Nat.le_of_ble_eq_true rfl)⟩ hE hS hP rfl rfl rfl rfl hl.1 rfl (Nat.le_of_ble_eq_true rfl) dX8_rights_46 ⟨Nat.le_refl _, Nat.le_refl _⟩ ?_
        refine W.eq (g2 := F0 m 49 ls [.int (nI (cntP (fun j => 0 < brk ((r 2)) ((r 3)) ((r 4)) ((upd (r 5) k fi)) ((upd (r 6) k la)) ((r 8)) j) 12))]) rfl ?_
        have hfn : R_rights z g r t fi la = (nI (cntP (fun j => 0 < brk ((r 2)) ((r 3)) ((r 4)) ((upd (r 5) k fi)) ((upd (r 6) k la)) ((r 8)) j) 12), z, g, (va_up (va_up r 5 (upd (r 5) k fi)) 6 (upd (r 6) k la))) := by rw [R_rights, if_pos c_1, if_pos ⟨c_2, c_3⟩, hkt, ix_nI (by omega)]; rfl
        rw [hQ]; exact W.iret (pc := 49) hx hb hr (fun t9 ht _ => ⟨⟨retI (by rw [hfn]), by rw [ht, hfn]; exact (show va_P D vwCl (wR kB kI o a z g (va_up (va_up r 5 (upd (r 5) k fi)) 6 (upd (r 6) k la))) _ from hP)⟩, hS.F ht⟩) hS.2.2 dX8_rights_49 hlocks
      · skip
        refine lv_bipush (pc := 28) (v := (-102)) hx hb dX8_rights_28 (by decide) ?_
        have hfn : R_rights z g r t fi la = ((-102), z, g, r) := by rw [R_rights, if_pos c_1, if_neg (fun q => c_3 q.2)]
        rw [hQ]; exact W.iret (pc := 30) hx hb hr (fun t9 ht _ => ⟨⟨retI (by rw [hfn]), by rw [ht, hfn]; exact (show va_P D vwCl (wR kB kI o a z g r) _ from hP)⟩, hS.F ht⟩) hS.2.2 dX8_rights_30 hlocks
  · skip
    refine lv_bipush (pc := 8) (v := (-101)) hx hb dX8_rights_8 (by decide) ?_
    have hfn : R_rights z g r t fi la = ((-101), z, g, r) := by rw [R_rights, if_neg c_1]
    rw [hQ]; exact W.iret (pc := 10) hx hb hr (fun t9 ht _ => ⟨⟨retI (by rw [hfn]), by rw [ht, hfn]; exact (show va_P D vwCl (wR kB kI o a z g r) _ from hP)⟩, hS.F ht⟩) hS.2.2 dX8_rights_10 hlocks
set_option maxRecDepth 100000 in
set_option maxHeartbeats 4000000 in
theorem k_X8_be {o : Nat} {a : Nat → Nat} {z : Nat → Int32} {g : Nat → Int64} {r : Nat → Nat → Int32} (t : Int32) (kind : Int32) {n : Nat} (hz1 : z 1 = nI n) (hn5 : n ≤ 5) : MW l yX8_be cX8_be 4 (some .int) 2 43 D kB kI kT ks sk sv [.ref o, .int t, .int kind] (wR kB kI o a z g r) (some (.int ((R_be z g r t kind).1))) (wR kB kI o a (R_be z g r t kind).2.1 (R_be z g r t kind).2.2.1 (R_be z g r t kind).2.2.2) := by
  refine MW.go (by decide +kernel) (Nat.le_of_ble_eq_true rfl) ?_
  intro p e s m below meth c0 args Q ls A hQ hx hb hr hml hown hts hlocks hE hP hD hS hl
  have hl : lv_has ls 4 [(0, .ref o), (1, .int t), (2, .int kind)] := hl
  have hown : s.vm.findClass RX8 = some m.cls := hown
  refine lv_aload_n (pc := 0) hx hb dX8_be_0 rfl (lv_at hl 0 rfl) ?_
  refine lv_iload_n (pc := 1) hx hb dX8_be_1 rfl (lv_at hl 1 rfl) ?_
  refine rV (pc := 2) (rest := []) ⟨hx, hb, hml, hown, hts⟩ (k_X8_isTitle (t := t) (z := z) (g := g) (r := r)) cw_X8_133 ⟨(Nat.le_of_ble_eq_true rfl), (Nat.le_of_ble_eq_true rfl)⟩ hE hS hP rfl rfl rfl rfl hl.1 rfl (Nat.le_of_ble_eq_true rfl) dX8_be_2 ⟨Nat.le_refl _, Nat.le_refl _⟩ ?_
  refine W.eq (g2 := F0 m 5 ls [.int (bi (inR t 0 ((z 1) - 1)))]) rfl ?_
  refine bif_ne (pc := 5) (tgt := 11) hx hb dX8_be_5 (by decide) (fun c_1 => ?_) (fun c_1 => ?_)
  · skip
    obtain ⟨k, hk, hkt⟩ := isT_nat hz1 hn5 c_1
    refine lv_iload_n (pc := 11) hx hb dX8_be_11 rfl (lv_at hl 2 rfl) ?_
    refine lv_iconst (pc := 12) (v := 0) hx hb dX8_be_12 (by decide) ?_
    refine lv_iconst (pc := 13) (v := 4) hx hb dX8_be_13 (by decide) ?_
    refine rS (pc := 14) (rest := []) ⟨hx, hb, hml, hown, hts⟩ (k_X8_within (v := kind) (lo := 0) (hi := 4)) cw_X8_86 ⟨(Nat.le_of_ble_eq_true rfl), (Nat.le_of_ble_eq_true rfl)⟩ hE hS wc0 rfl hl.1 rfl (Nat.le_of_ble_eq_true rfl) dX8_be_14 ⟨Nat.le_refl _, Nat.le_refl _⟩ ?_
    refine W.eq (g2 := F0 m 17 ls [.int (bi (inR kind 0 4))]) rfl ?_
    refine bif_ne (pc := 17) (tgt := 23) hx hb dX8_be_17 (by decide) (fun c_2 => ?_) (fun c_2 => ?_)
    · skip
      refine lv_aload_n (pc := 23) hx hb dX8_be_23 rfl (lv_at hl 0 rfl) ?_
      refine fget (pc := 24) (v := .ref (a 2)) hx hb hts hown hE hP fl_X8_7 0 rfl rfl dX8_be_24 ?_
      refine lv_iload_n (pc := 27) hx hb dX8_be_27 rfl (lv_at hl 1 rfl) ?_
      refine vEq (v := nI k) hkt ?_
      refine aldN (pc := 28) hx hb hE hP 1 rfl (k) (by omega) (by omega) dX8_be_28 ?_
      refine lv_istore_n (pc := 29) (lv' := [(3, .int ((r 2) k)), (0, .ref o), (1, .int t), (2, .int kind)]) hx hb dX8_be_29 rfl hl (by decide) rfl (fun ls hl => ?_)
      refine lv_aload_n (pc := 30) hx hb dX8_be_30 rfl (lv_at hl 1 rfl) ?_
      refine fget (pc := 31) (v := .ref (a 2)) hx hb hts hown hE hP fl_X8_7 0 rfl rfl dX8_be_31 ?_
      refine lv_iload_n (pc := 34) hx hb dX8_be_34 rfl (lv_at hl 2 rfl) ?_
      refine vEq (v := nI k) hkt ?_
      refine lv_iload_n (pc := 35) hx hb dX8_be_35 rfl (lv_at hl 3 rfl) ?_
      refine astN (pc := 36) hx hb hE hP hD hS 1 rfl (k) (by omega) (by omega) dX8_be_36 (fun H locs hP hD hS => ?_)
      have hP : va_P D vwCl (wR kB kI o a z g (va_up r 2 (upd (r 2) k kind))) H := hP
      have hD : va_D A (wR kB kI o a z g (va_up r 2 (upd (r 2) k kind))) := hD
      refine lv_iload_n (pc := 37) hx hb dX8_be_37 rfl (lv_at hl 0 rfl) ?_
      have hfn : R_be z g r t kind = ((r 2) k, z, g, (va_up r 2 (upd (r 2) k kind))) := by rw [R_be, if_pos c_1, if_pos c_2, hkt, ix_nI (by omega)]
      rw [hQ]; exact W.iret (pc := 38) hx hb hr (fun t9 ht _ => ⟨⟨retI (by rw [hfn]), by rw [ht, hfn]; exact (show va_P D vwCl (wR kB kI o a z g (va_up r 2 (upd (r 2) k kind))) _ from hP)⟩, hS.F ht⟩) hS.2.2 dX8_be_38 hlocks
    · skip
      refine lv_bipush (pc := 20) (v := (-102)) hx hb dX8_be_20 (by decide) ?_
      have hfn : R_be z g r t kind = ((-102), z, g, r) := by rw [R_be, if_pos c_1, if_neg c_2]
      rw [hQ]; exact W.iret (pc := 22) hx hb hr (fun t9 ht _ => ⟨⟨retI (by rw [hfn]), by rw [ht, hfn]; exact (show va_P D vwCl (wR kB kI o a z g r) _ from hP)⟩, hS.F ht⟩) hS.2.2 dX8_be_22 hlocks
  · skip
    refine lv_bipush (pc := 8) (v := (-101)) hx hb dX8_be_8 (by decide) ?_
    have hfn : R_be z g r t kind = ((-101), z, g, r) := by rw [R_be, if_neg c_1]
    rw [hQ]; exact W.iret (pc := 10) hx hb hr (fun t9 ht _ => ⟨⟨retI (by rw [hfn]), by rw [ht, hfn]; exact (show va_P D vwCl (wR kB kI o a z g r) _ from hP)⟩, hS.F ht⟩) hS.2.2 dX8_be_10 hlocks
set_option maxRecDepth 100000 in
set_option maxHeartbeats 4000000 in
theorem k_X8_see {o : Nat} {a : Nat → Nat} {z : Nat → Int32} {g : Nat → Int64} {r : Nat → Nat → Int32} (t : Int32) (what : Int32) (could : Int32) {n : Nat} {sn : Nat} (hz1 : z 1 = nI n) (hn5 : n ≤ 5) (hz10 : z 10 = nI sn) (hsn : sn ≤ 6) : MW l yX8_see cX8_see 4 (some .int) 2 43 D kB kI kT ks sk sv [.ref o, .int t, .int what, .int could] (wR kB kI o a z g r) (some (.int ((R_see z g r sn t what could).1))) (wR kB kI o a (R_see z g r sn t what could).2.1 (R_see z g r sn t what could).2.2.1 (R_see z g r sn t what could).2.2.2) := by
  refine MW.go (by decide +kernel) (Nat.le_of_ble_eq_true rfl) ?_
  intro p e s m below meth c0 args Q ls A hQ hx hb hr hml hown hts hlocks hE hP hD hS hl
  have hl : lv_has ls 4 [(0, .ref o), (1, .int t), (2, .int what), (3, .int could)] := hl
  have hown : s.vm.findClass RX8 = some m.cls := hown
  refine lv_aload_n (pc := 0) hx hb dX8_see_0 rfl (lv_at hl 0 rfl) ?_
  refine lv_iload_n (pc := 1) hx hb dX8_see_1 rfl (lv_at hl 1 rfl) ?_
  refine rV (pc := 2) (rest := []) ⟨hx, hb, hml, hown, hts⟩ (k_X8_isTitle (t := t) (z := z) (g := g) (r := r)) cw_X8_133 ⟨(Nat.le_of_ble_eq_true rfl), (Nat.le_of_ble_eq_true rfl)⟩ hE hS hP rfl rfl rfl rfl hl.1 rfl (Nat.le_of_ble_eq_true rfl) dX8_see_2 ⟨Nat.le_refl _, Nat.le_refl _⟩ ?_
  refine W.eq (g2 := F0 m 5 ls [.int (bi (inR t 0 ((z 1) - 1)))]) rfl ?_
  refine bif_ne (pc := 5) (tgt := 11) hx hb dX8_see_5 (by decide) (fun c_1 => ?_) (fun c_1 => ?_)
  · skip
    obtain ⟨k, hk, hkt⟩ := isT_nat hz1 hn5 c_1
    refine lv_iload_n (pc := 11) hx hb dX8_see_11 rfl (lv_at hl 2 rfl) ?_
    refine lv_iconst (pc := 12) (v := 0) hx hb dX8_see_12 (by decide) ?_
    refine lv_iconst (pc := 13) (v := 3) hx hb dX8_see_13 (by decide) ?_
    refine rS (pc := 14) (rest := []) ⟨hx, hb, hml, hown, hts⟩ (k_X8_within (v := what) (lo := 0) (hi := 3)) cw_X8_86 ⟨(Nat.le_of_ble_eq_true rfl), (Nat.le_of_ble_eq_true rfl)⟩ hE hS wc0 rfl hl.1 rfl (Nat.le_of_ble_eq_true rfl) dX8_see_14 ⟨Nat.le_refl _, Nat.le_refl _⟩ ?_
    refine W.eq (g2 := F0 m 17 ls [.int (bi (inR what 0 3))]) rfl ?_
    refine bif_ne (pc := 17) (tgt := 23) hx hb dX8_see_17 (by decide) (fun c_2 => ?_) (fun c_2 => ?_)
    · skip
      refine lv_aload_n (pc := 23) hx hb dX8_see_23 rfl (lv_at hl 0 rfl) ?_
      refine fget (pc := 24) (v := .int (z 10)) hx hb hts hown hE hP fl_X8_130 0 rfl rfl dX8_see_24 ?_
      refine vEq (v := nI sn) hz10 ?_
      refine lv_bipush (pc := 27) (v := 6) hx hb dX8_see_27 (by decide) ?_
      refine lv_icmp_ne (pc := 29) (tgt := 35) hx hb dX8_see_29 (by decide) (fun c_3 => ?_) (fun c_3 => ?_)
      · skip
        have c_3n : ¬ sn = 6 := fun hh => c_3 ((nI_eq (a := sn) (b := 6) (by omega) (by omega)).mpr hh)
        refine lv_aload_n (pc := 35) hx hb dX8_see_35 rfl (lv_at hl 0 rfl) ?_
        refine fget (pc := 36) (v := .ref (a 11)) hx hb hts hown hE hP fl_X8_31 0 rfl rfl dX8_see_36 ?_
        refine lv_aload_n (pc := 39) hx hb dX8_see_39 rfl (lv_at hl 0 rfl) ?_
        refine fget (pc := 40) (v := .int (z 10)) hx hb hts hown hE hP fl_X8_130 0 rfl rfl dX8_see_40 ?_
        refine vEq (v := nI sn) hz10 ?_
        refine lv_iload_n (pc := 43) hx hb dX8_see_43 rfl (lv_at hl 1 rfl) ?_
        refine vEq (v := nI k) hkt ?_
        refine astN (pc := 44) hx hb hE hP hD hS 8 rfl (sn) (by omega) (by omega) dX8_see_44 (fun H locs hP hD hS => ?_)
        have hP : va_P D vwCl (wR kB kI o a z g (va_up r 11 (upd (r 11) sn (nI k)))) H := hP
        have hD : va_D A (wR kB kI o a z g (va_up r 11 (upd (r 11) sn (nI k)))) := hD
        refine lv_aload_n (pc := 45) hx hb dX8_see_45 rfl (lv_at hl 0 rfl) ?_
        refine fget (pc := 46) (v := .ref (a 12)) hx hb hts hown hE hP fl_X8_34 0 rfl rfl dX8_see_46 ?_
        refine lv_aload_n (pc := 49) hx hb dX8_see_49 rfl (lv_at hl 0 rfl) ?_
        refine fget (pc := 50) (v := .int (z 10)) hx hb hts hown hE hP fl_X8_130 0 rfl rfl dX8_see_50 ?_
        refine vEq (v := nI sn) hz10 ?_
        refine lv_iload_n (pc := 53) hx hb dX8_see_53 rfl (lv_at hl 2 rfl) ?_
        refine astN (pc := 54) hx hb hE hP hD hS 9 rfl (sn) (by omega) (by omega) dX8_see_54 (fun H locs hP hD hS => ?_)
        have hP : va_P D vwCl (wR kB kI o a z g (va_up (va_up r 11 (upd (r 11) sn (nI k))) 12 (upd (r 12) sn what))) H := hP
        have hD : va_D A (wR kB kI o a z g (va_up (va_up r 11 (upd (r 11) sn (nI k))) 12 (upd (r 12) sn what))) := hD
        refine lv_aload_n (pc := 55) hx hb dX8_see_55 rfl (lv_at hl 0 rfl) ?_
        refine fget (pc := 56) (v := .ref (a 13)) hx hb hts hown hE hP fl_X8_37 0 rfl rfl dX8_see_56 ?_
        refine lv_aload_n (pc := 59) hx hb dX8_see_59 rfl (lv_at hl 0 rfl) ?_
        refine fget (pc := 60) (v := .int (z 10)) hx hb hts hown hE hP fl_X8_130 0 rfl rfl dX8_see_60 ?_
        refine vEq (v := nI sn) hz10 ?_
        refine lv_iload_n (pc := 63) hx hb dX8_see_63 rfl (lv_at hl 3 rfl) ?_
        refine lv_if_eq (pc := 64) (tgt := 71) hx hb dX8_see_64 (by decide) (fun c_4 => ?_) (fun c_4 => ?_)
        · skip
          refine lv_iconst (pc := 71) (v := 0) hx hb dX8_see_71 (by decide) ?_
          refine astN (pc := 72) hx hb hE hP hD hS 10 rfl (sn) (by omega) (by omega) dX8_see_72 (fun H locs hP hD hS => ?_)
          have hP : va_P D vwCl (wR kB kI o a z g (va_up (va_up (va_up r 11 (upd (r 11) sn (nI k))) 12 (upd (r 12) sn what)) 13 (upd (r 13) sn 0))) H := hP
          have hD : va_D A (wR kB kI o a z g (va_up (va_up (va_up r 11 (upd (r 11) sn (nI k))) 12 (upd (r 12) sn what)) 13 (upd (r 13) sn 0))) := hD
          refine lv_aload_n (pc := 73) hx hb dX8_see_73 rfl (lv_at hl 0 rfl) ?_
          refine lv_dup (pc := 74) hx hb dX8_see_74 rfl ?_
          refine fget (pc := 75) (v := .int (z 10)) hx hb hts hown hE hP fl_X8_130 0 rfl rfl dX8_see_75 ?_
          refine vEq (v := nI sn) hz10 ?_
          refine lv_iconst (pc := 78) (v := 1) hx hb dX8_see_78 (by decide) ?_
          refine iaddV (pc := 79) (v := nI (sn + 1)) hx hb dX8_see_79 (nI_add (sn) (1)) ?_
          refine fput (pc := 80) (v := .int (nI (sn + 1))) hx hb hts hown hE hP hD hS fp_X8_130 0 rfl rfl rfl (Nat.le_of_ble_eq_true rfl) dX8_see_80 (fun H locs hP hD hS => ?_)
          have hP : va_P D vwCl (wR kB kI o a (va_up z 10 (nI (sn + 1))) g (va_up (va_up (va_up r 11 (upd (r 11) sn (nI k))) 12 (upd (r 12) sn what)) 13 (upd (r 13) sn 0))) H := hP
          have hD : va_D A (wR kB kI o a (va_up z 10 (nI (sn + 1))) g (va_up (va_up (va_up r 11 (upd (r 11) sn (nI k))) 12 (upd (r 12) sn what)) 13 (upd (r 13) sn 0))) := hD
          refine lv_aload_n (pc := 83) hx hb dX8_see_83 rfl (lv_at hl 0 rfl) ?_
          refine fget (pc := 84) (v := .int (nI (sn + 1))) hx hb hts hown hE hP fl_X8_130 0 rfl rfl dX8_see_84 ?_
          have hfn : R_see z g r sn t what could = (nI (sn + 1), (va_up z 10 (nI (sn + 1))), g, (va_up (va_up (va_up r 11 (upd (r 11) sn (nI k))) 12 (upd (r 12) sn what)) 13 (upd (r 13) sn 0))) := by rw [R_see, if_pos c_1, if_pos c_2, if_neg c_3n, if_pos c_4, ← hkt]
          rw [hQ]; exact W.iret (pc := 87) hx hb hr (fun t9 ht _ => ⟨⟨retI (by rw [hfn]), by rw [ht, hfn]; exact (show va_P D vwCl (wR kB kI o a (va_up z 10 (nI (sn + 1))) g (va_up (va_up (va_up r 11 (upd (r 11) sn (nI k))) 12 (upd (r 12) sn what)) 13 (upd (r 13) sn 0))) _ from hP)⟩, hS.F ht⟩) hS.2.2 dX8_see_87 hlocks
        · skip
          refine lv_iconst (pc := 67) (v := 1) hx hb dX8_see_67 (by decide) ?_
          refine lv_goto (pc := 68) (tgt := 72) hx hb dX8_see_68 (by decide) ?_
          refine astN (pc := 72) hx hb hE hP hD hS 10 rfl (sn) (by omega) (by omega) dX8_see_72 (fun H locs hP hD hS => ?_)
          have hP : va_P D vwCl (wR kB kI o a z g (va_up (va_up (va_up r 11 (upd (r 11) sn (nI k))) 12 (upd (r 12) sn what)) 13 (upd (r 13) sn 1))) H := hP
          have hD : va_D A (wR kB kI o a z g (va_up (va_up (va_up r 11 (upd (r 11) sn (nI k))) 12 (upd (r 12) sn what)) 13 (upd (r 13) sn 1))) := hD
          refine lv_aload_n (pc := 73) hx hb dX8_see_73 rfl (lv_at hl 0 rfl) ?_
          refine lv_dup (pc := 74) hx hb dX8_see_74 rfl ?_
          refine fget (pc := 75) (v := .int (z 10)) hx hb hts hown hE hP fl_X8_130 0 rfl rfl dX8_see_75 ?_
          refine vEq (v := nI sn) hz10 ?_
          refine lv_iconst (pc := 78) (v := 1) hx hb dX8_see_78 (by decide) ?_
          refine iaddV (pc := 79) (v := nI (sn + 1)) hx hb dX8_see_79 (nI_add (sn) (1)) ?_
          refine fput (pc := 80) (v := .int (nI (sn + 1))) hx hb hts hown hE hP hD hS fp_X8_130 0 rfl rfl rfl (Nat.le_of_ble_eq_true rfl) dX8_see_80 (fun H locs hP hD hS => ?_)
          have hP : va_P D vwCl (wR kB kI o a (va_up z 10 (nI (sn + 1))) g (va_up (va_up (va_up r 11 (upd (r 11) sn (nI k))) 12 (upd (r 12) sn what)) 13 (upd (r 13) sn 1))) H := hP
          have hD : va_D A (wR kB kI o a (va_up z 10 (nI (sn + 1))) g (va_up (va_up (va_up r 11 (upd (r 11) sn (nI k))) 12 (upd (r 12) sn what)) 13 (upd (r 13) sn 1))) := hD
          refine lv_aload_n (pc := 83) hx hb dX8_see_83 rfl (lv_at hl 0 rfl) ?_
          refine fget (pc := 84) (v := .int (nI (sn + 1))) hx hb hts hown hE hP fl_X8_130 0 rfl rfl dX8_see_84 ?_
          have hfn : R_see z g r sn t what could = (nI (sn + 1), (va_up z 10 (nI (sn + 1))), g, (va_up (va_up (va_up r 11 (upd (r 11) sn (nI k))) 12 (upd (r 12) sn what)) 13 (upd (r 13) sn 1))) := by rw [R_see, if_pos c_1, if_pos c_2, if_neg c_3n, if_neg c_4, ← hkt]
          rw [hQ]; exact W.iret (pc := 87) hx hb hr (fun t9 ht _ => ⟨⟨retI (by rw [hfn]), by rw [ht, hfn]; exact (show va_P D vwCl (wR kB kI o a (va_up z 10 (nI (sn + 1))) g (va_up (va_up (va_up r 11 (upd (r 11) sn (nI k))) 12 (upd (r 12) sn what)) 13 (upd (r 13) sn 1))) _ from hP)⟩, hS.F ht⟩) hS.2.2 dX8_see_87 hlocks
      · skip
        have c_3n : sn = 6 := (nI_eq (a := sn) (b := 6) (by omega) (by omega)).mp c_3
        refine lv_bipush (pc := 32) (v := (-104)) hx hb dX8_see_32 (by decide) ?_
        have hfn : R_see z g r sn t what could = ((-104), z, g, r) := by rw [R_see, if_pos c_1, if_pos c_2, if_pos c_3n]
        rw [hQ]; exact W.iret (pc := 34) hx hb hr (fun t9 ht _ => ⟨⟨retI (by rw [hfn]), by rw [ht, hfn]; exact (show va_P D vwCl (wR kB kI o a z g r) _ from hP)⟩, hS.F ht⟩) hS.2.2 dX8_see_34 hlocks
    · skip
      refine lv_bipush (pc := 20) (v := (-102)) hx hb dX8_see_20 (by decide) ?_
      have hfn : R_see z g r sn t what could = ((-102), z, g, r) := by rw [R_see, if_pos c_1, if_neg c_2]
      rw [hQ]; exact W.iret (pc := 22) hx hb hr (fun t9 ht _ => ⟨⟨retI (by rw [hfn]), by rw [ht, hfn]; exact (show va_P D vwCl (wR kB kI o a z g r) _ from hP)⟩, hS.F ht⟩) hS.2.2 dX8_see_22 hlocks
  · skip
    refine lv_bipush (pc := 8) (v := (-101)) hx hb dX8_see_8 (by decide) ?_
    have hfn : R_see z g r sn t what could = ((-101), z, g, r) := by rw [R_see, if_neg c_1]
    rw [hQ]; exact W.iret (pc := 10) hx hb hr (fun t9 ht _ => ⟨⟨retI (by rw [hfn]), by rw [ht, hfn]; exact (show va_P D vwCl (wR kB kI o a z g r) _ from hP)⟩, hS.F ht⟩) hS.2.2 dX8_see_10 hlocks
set_option maxRecDepth 100000 in
set_option maxHeartbeats 4000000 in
theorem k_X8_delay {o : Nat} {a : Nat → Nat} {z : Nat → Int32} {g : Nat → Int64} {r : Nat → Nat → Int32} (b : Int32) {n : Nat} (hz1 : z 1 = nI n) (hn5 : n ≤ 5) : MW l yX8_delay cX8_delay 3 (some .int) 3 63 D kB kI kT ks sk sv [.ref o, .int b] (wR kB kI o a z g r) (some (.int ((R_delay z g r n b).1))) (wR kB kI o a (R_delay z g r n b).2.1 (R_delay z g r n b).2.2.1 (R_delay z g r n b).2.2.2) := by
  refine MW.go (by decide +kernel) (Nat.le_of_ble_eq_true rfl) ?_
  intro p e s m below meth c0 args Q ls A hQ hx hb hr hml hown hts hlocks hE hP hD hS hl
  have hl : lv_has ls 3 [(0, .ref o), (1, .int b)] := hl
  have hown : s.vm.findClass RX8 = some m.cls := hown
  refine lv_iload_n (pc := 0) hx hb dX8_delay_0 rfl (lv_at hl 1 rfl) ?_
  refine lv_iconst (pc := 1) (v := 1) hx hb dX8_delay_1 (by decide) ?_
  refine lv_bipush (pc := 2) (v := 11) hx hb dX8_delay_2 (by decide) ?_
  refine rS (pc := 4) (rest := []) ⟨hx, hb, hml, hown, hts⟩ (k_X8_within (v := b) (lo := 1) (hi := 11)) cw_X8_86 ⟨(Nat.le_of_ble_eq_true rfl), (Nat.le_of_ble_eq_true rfl)⟩ hE hS wc0 rfl hl.1 rfl (Nat.le_of_ble_eq_true rfl) dX8_delay_4 ⟨Nat.le_refl _, Nat.le_refl _⟩ ?_
  refine W.eq (g2 := F0 m 7 ls [.int (bi (inR b 1 11))]) rfl ?_
  refine bif_ne (pc := 7) (tgt := 13) hx hb dX8_delay_7 (by decide) (fun c_1 => ?_) (fun c_1 => ?_)
  · skip
    refine lv_aload_n (pc := 13) hx hb dX8_delay_13 rfl (lv_at hl 0 rfl) ?_
    refine fget (pc := 14) (v := .int (z 1)) hx hb hts hown hE hP fl_X8_124 0 rfl rfl dX8_delay_14 ?_
    refine vEq (v := nI n) hz1 ?_
    refine lv_if_ne (pc := 17) (tgt := 23) hx hb dX8_delay_17 (by decide) (fun c_2 => ?_) (fun c_2 => ?_)
    · skip
      have c_2n : ¬ n = 0 := fun hh => c_2 ((nI_eq (a := n) (b := 0) (by omega) (by omega)).mpr hh)
      refine lv_bipush (pc := 23) (v := 11) hx hb dX8_delay_23 (by decide) ?_
      refine lv_istore_n (pc := 25) (lv' := [(2, .int 11), (0, .ref o), (1, .int b)]) hx hb dX8_delay_25 rfl hl (by decide) rfl (fun ls hl => ?_)
      have lp_3 : ∀ (fuel : Nat) (m9 : Nat), m9 < fuel → (m9 ≤ 12) → ∀ (H : Heap) (locs : List Loc), va_P D vwCl (wR kB kI o a z g (va_up r 8 (shN (r 8) b m9))) H → va_D A (wR kB kI o a z g (va_up r 8 (shN (r 8) b m9))) → va_S A s.heap H locs → ∀ (ls : Array Slot), lv_has ls 3 [(0, .ref o), (1, .int b), (2, .int (nI m9 - 1))] → W p l e (rmO 3 63) s m args below meth c0 H locs 0 0 Q (F0 m 26 ls []) := by
        intro fuel
        induction fuel with
        | zero => intro m9 hfuel; exact absurd hfuel (Nat.not_lt_zero _)
        | succ fuel ih_lp_3 =>
          intro m9 hfuel hm H locs hP hD hS ls hl
          refine lv_iload_n (pc := 26) hx hb dX8_delay_26 rfl (lv_at hl 2 rfl) ?_
          refine lv_if_lt (pc := 27) (tgt := 49) hx hb dX8_delay_27 (by decide) (fun c_4 => ?_) (fun c_4 => ?_)
          · skip
            have hm0 : m9 = 0 := (pm_lt (by omega)).mp c_4
            rw [hm0] at hP hD
            refine lv_aload_n (pc := 49) hx hb dX8_delay_49 rfl (lv_at hl 0 rfl) ?_
            refine rV (pc := 50) (rest := []) ⟨hx, hb, hml, hown, hts⟩ (k_X8_nightsOn (z := z) (g := g) (r := (va_up r 8 (shN (r 8) b 0)))) cw_X8_137 ⟨(Nat.le_of_ble_eq_true rfl), (Nat.le_of_ble_eq_true rfl)⟩ hE hS hP rfl rfl rfl rfl hl.1 rfl (Nat.le_of_ble_eq_true rfl) dX8_delay_50 ⟨Nat.le_refl _, Nat.le_refl _⟩ ?_
            refine W.eq (g2 := F0 m 53 ls [.int (nI (nOn ((shN (r 8) b 0)) 12))]) rfl ?_
            have hfn : R_delay z g r n b = (nI (nOn ((shN (r 8) b 0)) 12), z, g, (va_up r 8 (shN (r 8) b 0))) := by rw [R_delay, if_pos c_1, if_neg c_2n]
            rw [hQ]; exact W.iret (pc := 53) hx hb hr (fun t9 ht _ => ⟨⟨retI (by rw [hfn]), by rw [ht, hfn]; exact (show va_P D vwCl (wR kB kI o a z g (va_up r 8 (shN (r 8) b 0))) _ from hP)⟩, hS.F ht⟩) hS.2.2 dX8_delay_53 hlocks
          · skip
            have hm1 : 0 < m9 := Nat.pos_of_ne_zero (fun q => c_4 ((pm_lt (by omega)).mpr q))
            have hpm : nI m9 - 1 = nI (m9 - 1) := pm_eq hm1
            refine lv_aload_n (pc := 30) hx hb dX8_delay_30 rfl (lv_at hl 0 rfl) ?_
            refine fget (pc := 31) (v := .ref (a 8)) hx hb hts hown hE hP fl_X8_28 0 rfl rfl dX8_delay_31 ?_
            refine lv_iload_n (pc := 34) hx hb dX8_delay_34 rfl (lv_at hl 2 rfl) ?_
            refine vEq (v := nI (m9 - 1)) hpm ?_
            refine lv_aload_n (pc := 35) hx hb dX8_delay_35 rfl (lv_at hl 0 rfl) ?_
            refine lv_iload_n (pc := 36) hx hb dX8_delay_36 rfl (lv_at hl 2 rfl) ?_
            refine vEq (v := nI (m9 - 1)) hpm ?_
            refine lv_iload_n (pc := 37) hx hb dX8_delay_37 rfl (lv_at hl 1 rfl) ?_
            refine lv_isub (pc := 38) hx hb dX8_delay_38 ?_
            refine rV (pc := 39) (rest := [.int (nI (m9 - 1)), .ref (a 8)]) ⟨hx, hb, hml, hown, hts⟩ (k_X8_on (n := (nI (m9 - 1)) - b) (z := z) (g := g) (r := (va_up r 8 (shN (r 8) b m9)))) cw_X8_143 ⟨(Nat.le_of_ble_eq_true rfl), (Nat.le_of_ble_eq_true rfl)⟩ hE hS hP rfl rfl rfl rfl hl.1 rfl (Nat.le_of_ble_eq_true rfl) dX8_delay_39 ⟨Nat.le_refl _, Nat.le_refl _⟩ ?_
            refine W.eq (g2 := F0 m 42 ls [.int (rOn ((shN (r 8) b m9)) ((nI (m9 - 1)) - b)), .int (nI (m9 - 1)), .ref (a 8)]) rfl ?_
            refine astN (pc := 42) hx hb hE hP hD hS 7 rfl (m9 - 1) (by omega) (by omega) dX8_delay_42 (fun H locs hP hD hS => ?_)
            have hP : va_P D vwCl (wR kB kI o a z g (va_up r 8 (upd (shN (r 8) b m9) (m9 - 1) (rOn ((shN (r 8) b m9)) ((nI (m9 - 1)) - b))))) H := hP
            have hD : va_D A (wR kB kI o a z g (va_up r 8 (upd (shN (r 8) b m9) (m9 - 1) (rOn ((shN (r 8) b m9)) ((nI (m9 - 1)) - b))))) := hD
            refine lv_iinc (pc := 43) (v := nI (m9 - 1) - 1) (lv' := [(2, .int (nI (m9 - 1) - 1)), (0, .ref o), (1, .int b)]) hx hb dX8_delay_43 hl (k := 2) rfl (by rw [hpm]; exact dec1 _) (by decide) rfl (fun ls hl => ?_)
            refine lv_goto (pc := 46) (tgt := 26) hx hb dX8_delay_46 (by decide) ?_
            exact ih_lp_3 (m9 - 1) (by omega) (by omega) _ _ (by rw [← sh_step c_1 hm1 hm]; exact hP) (by rw [← sh_step c_1 hm1 hm]; exact hD) hS ls (lv_sub hl [1, 2, 0] rfl)
      exact lp_3 _ 12 (Nat.lt_succ_self _) (by omega) _ _ (by rw [sh_0, va_up_same]; exact hP) (by rw [sh_0, va_up_same]; exact hD) hS ls (by rw [show (nI 12 - 1 : Int32) = 11 from (by decide)]; exact lv_sub hl [1, 2, 0] rfl)
    · skip
      have c_2n : n = 0 := (nI_eq (a := n) (b := 0) (by omega) (by omega)).mp c_2
      refine lv_bipush (pc := 20) (v := (-103)) hx hb dX8_delay_20 (by decide) ?_
      have hfn : R_delay z g r n b = ((-103), z, g, r) := by rw [R_delay, if_pos c_1, if_pos c_2n]
      rw [hQ]; exact W.iret (pc := 22) hx hb hr (fun t9 ht _ => ⟨⟨retI (by rw [hfn]), by rw [ht, hfn]; exact (show va_P D vwCl (wR kB kI o a z g r) _ from hP)⟩, hS.F ht⟩) hS.2.2 dX8_delay_22 hlocks
  · skip
    refine lv_bipush (pc := 10) (v := (-102)) hx hb dX8_delay_10 (by decide) ?_
    have hfn : R_delay z g r n b = ((-102), z, g, r) := by rw [R_delay, if_neg c_1]
    rw [hQ]; exact W.iret (pc := 12) hx hb hr (fun t9 ht _ => ⟨⟨retI (by rw [hfn]), by rw [ht, hfn]; exact (show va_P D vwCl (wR kB kI o a z g r) _ from hP)⟩, hS.F ht⟩) hS.2.2 dX8_delay_12 hlocks
end
end
